theorem nI_nle0 {l : Nat} (h : 0 < l) (h2 : l < 2 ^ 31) : ¬ nI l ≤ 0 := nI_ge (b := l) (a := 0) h h2
theorem nI_ne1 {h : Nat} (hh : h < 2 ^ 31) : ¬ nI h = -1 := fun e => absurd (nI_pos' hh) (by rw [e]; decide)
/-! ===== the model: its smallest methods, drift, stray, lines ===== -/
theorem i_le8 {x : Int32} : x ≤ 8 ↔ x < 9 := by rw [Int32.le_iff_toInt_le, Int32.lt_iff_toInt_lt]; show x.toInt ≤ 8 ↔ x.toInt < 9; omega
theorem i_le11 {x : Int32} : x ≤ 11 ↔ x < 12 := by rw [Int32.le_iff_toInt_le, Int32.lt_iff_toInt_lt]; show x.toInt ≤ 11 ↔ x.toInt < 12; omega
theorem i_le3 {x : Int32} : x ≤ 3 ↔ x < 4 := by rw [Int32.le_iff_toInt_le, Int32.lt_iff_toInt_lt]; show x.toInt ≤ 3 ↔ x.toInt < 4; omega
theorem i_le6 {x : Int32} : x ≤ 6 ↔ x < 7 := by rw [Int32.le_iff_toInt_le, Int32.lt_iff_toInt_lt]; show x.toInt ≤ 6 ↔ x.toInt < 7; omega
theorem i_le2 {x : Int32} : x ≤ 2 ↔ x < 3 := by rw [Int32.le_iff_toInt_le, Int32.lt_iff_toInt_lt]; show x.toInt ≤ 2 ↔ x.toInt < 3; omega
theorem i_le01 {x : Int32} : (0 ≤ x ∧ x ≤ 1) ↔ (x = 0 ∨ x = 1) := by
  constructor
  · intro h
    obtain ⟨p, hp, rfl⟩ := ix_of (n := 2) (by decide) ⟨h.1, (by have := h.2; rw [Int32.le_iff_toInt_le] at this; rw [Int32.lt_iff_toInt_lt]; show x.toInt < 2; have h1 : x.toInt ≤ 1 := this; omega)⟩
    rcases (show p = 0 ∨ p = 1 by omega) with rfl | rfl
    · exact Or.inl rfl
    · exact Or.inr rfl
  · rintro (rfl | rfl) <;> decide
theorem i_len {x : Int32} {n : Nat} (hn : n < 2 ^ 30) : x ≤ nI n - 1 ↔ x < nI n := by
  cases n with
  | zero => rw [Int32.le_iff_toInt_le, Int32.lt_iff_toInt_lt]; show x.toInt ≤ -1 ↔ x.toInt < 0; omega
  | succ m =>
    rw [show nI (m + 1) - 1 = nI m from pk_sub (b := 1) (by omega), Int32.le_iff_toInt_le, Int32.lt_iff_toInt_lt, nI_toInt (by omega), nI_toInt (by omega)]
    omega
set_option maxHeartbeats 4000000 in
set_option maxRecDepth 100000 in
theorem c_X9_in {E : Ev} {μ : Mem} {v lo hi : Int32} : AM E yX9_in cX9_in 3 (some .boolean) 0 [.int v, .int lo, .int hi] μ (fun r μ' => r = some (.int (bI (lo ≤ v ∧ v ≤ hi))) ∧ μ' = μ) := by
  refine am_of (own := RX9) (L := [.int v, .int lo, .int hi]) (by decide) rfl (Nat.le_of_ble_eq_true rfl) rfl (fun Γ hR => ?_)
  by_cases h1 : lo ≤ v
  · by_cases h2 : v ≤ hi
    · refine cw_iload_n (pc := 0) dX9_in_0 rfl rfl <|
        cw_iload_n (pc := 1) dX9_in_1 rfl rfl <|
        cw_icmp_lt_F (tgt := 14) (pc := 2) dX9_in_2 (by decide) (Int32.not_lt.mpr h1) <|
        cw_iload_n (pc := 5) dX9_in_5 rfl rfl <|
        cw_iload_n (pc := 6) dX9_in_6 rfl rfl <|
        cw_icmp_gt_F (tgt := 14) (pc := 7) dX9_in_7 (by decide) (Int32.not_lt.mpr h2) <|
        cw_iconst (v := 1) (pc := 10) dX9_in_10 (by decide) <|
        cw_goto (tgt := 15) (pc := 11) dX9_in_11 (by decide) <|
        cw_zret (pc := 15) dX9_in_15 hR rfl <|
        ⟨by rw [bI_t ⟨h1, h2⟩], rfl⟩
    · refine cw_iload_n (pc := 0) dX9_in_0 rfl rfl <|
        cw_iload_n (pc := 1) dX9_in_1 rfl rfl <|
        cw_icmp_lt_F (tgt := 14) (pc := 2) dX9_in_2 (by decide) (Int32.not_lt.mpr h1) <|
        cw_iload_n (pc := 5) dX9_in_5 rfl rfl <|
        cw_iload_n (pc := 6) dX9_in_6 rfl rfl <|
        cw_icmp_gt_T (tgt := 14) (pc := 7) dX9_in_7 (by decide) (Int32.not_le.mp h2) <|
        cw_iconst (v := 0) (pc := 14) dX9_in_14 (by decide) <|
        cw_zret (pc := 15) dX9_in_15 hR rfl <|
        ⟨by rw [bI_f (fun h => h2 h.2)], rfl⟩
  · refine cw_iload_n (pc := 0) dX9_in_0 rfl rfl <|
      cw_iload_n (pc := 1) dX9_in_1 rfl rfl <|
      cw_icmp_lt_T (tgt := 14) (pc := 2) dX9_in_2 (by decide) (Int32.not_le.mp h1) <|
      cw_iconst (v := 0) (pc := 14) dX9_in_14 (by decide) <|
      cw_zret (pc := 15) dX9_in_15 hR rfl <|
      ⟨by rw [bI_f (fun h => h1 h.1)], rfl⟩
set_option maxHeartbeats 4000000 in
set_option maxRecDepth 100000 in
theorem c_X9_isLane {E : Ev} {μ : Mem} {v : Int32} : AM E yX9_isLane cX9_isLane 1 (some .boolean) 1 [.int v] μ (fun r μ' => r = some (.int (bI (0 ≤ v ∧ v < 9))) ∧ μ' = μ) := by
  refine am_of (own := RX9) (L := [.int v]) (by decide) rfl (Nat.le_of_ble_eq_true rfl) rfl (fun Γ hR => ?_)
  refine cw_iload_n (pc := 0) dX9_isLane_0 rfl rfl <|
    cw_iconst (v := 0) (pc := 1) dX9_isLane_1 (by decide) <|
    cw_bipush (v := 8) (pc := 2) dX9_isLane_2 (by decide) <|
    cw_insI (pc := 4) dX9_isLane_4 c_X9_in vX9_44 rfl rfl rfl (by decide) <|
    cw_zret (pc := 7) dX9_isLane_7 hR (nb_ok (bI_cases _)) <|
    ⟨by rw [bI_cg (and_congr_right fun _ => i_le8)], rfl⟩
set_option maxHeartbeats 4000000 in
set_option maxRecDepth 100000 in
theorem c_X9_isStep {E : Ev} {μ : Mem} {v : Int32} : AM E yX9_isStep cX9_isStep 1 (some .boolean) 1 [.int v] μ (fun r μ' => r = some (.int (bI (0 ≤ v ∧ v < 12))) ∧ μ' = μ) := by
  refine am_of (own := RX9) (L := [.int v]) (by decide) rfl (Nat.le_of_ble_eq_true rfl) rfl (fun Γ hR => ?_)
  refine cw_iload_n (pc := 0) dX9_isStep_0 rfl rfl <|
    cw_iconst (v := 0) (pc := 1) dX9_isStep_1 (by decide) <|
    cw_bipush (v := 11) (pc := 2) dX9_isStep_2 (by decide) <|
    cw_insI (pc := 4) dX9_isStep_4 c_X9_in vX9_44 rfl rfl rfl (by decide) <|
    cw_zret (pc := 7) dX9_isStep_7 hR (nb_ok (bI_cases _)) <|
    ⟨by rw [bI_cg (and_congr_right fun _ => i_le11)], rfl⟩
set_option maxHeartbeats 4000000 in
set_option maxRecDepth 100000 in
theorem c_X9_isMan {E : Ev} {μ : Mem} {n : Nat} (hn : μ 68 31 = nI n) (h6 : n ≤ 6) {v : Int32} : AM E yX9_isMan cX9_isMan 2 (some .boolean) 1 [.ref 67, .int v] μ (fun r μ' => r = some (.int (bI (0 ≤ v ∧ v < μ 68 31))) ∧ μ' = μ) := by
  refine am_of (own := RX9) (L := [.ref 67, .int v]) (by decide) rfl (Nat.le_of_ble_eq_true rfl) rfl (fun Γ hR => ?_)
  refine cw_iload_n (pc := 0) dX9_isMan_0 rfl rfl <|
    cw_iconst (v := 0) (pc := 1) dX9_isMan_1 (by decide) <|
    cw_aload_n (pc := 2) dX9_isMan_2 rfl rfl <|
    cw_getR (q := 67) (t := 68) (pc := 3) dX9_isMan_3 fX9_9 sh_67 (by decide) rfl <|
    cw_bipush (v := 31) (pc := 6) dX9_isMan_6 (by decide) <|
    cw_ial (q := 68) (jn := 31) (pc := 8) dX9_isMan_8 sh_68 rfl (by decide) (by decide) <|
    cw_iconst (v := 1) (pc := 9) dX9_isMan_9 (by decide) <|
    cw_isub (pc := 10) dX9_isMan_10 <|
    cw_insI (pc := 11) dX9_isMan_11 c_X9_in vX9_44 rfl rfl rfl (by decide) <|
    cw_zret (pc := 14) dX9_isMan_14 hR (nb_ok (bI_cases _)) <|
    ⟨by rw [hn, bI_cg (and_congr_right fun _ => i_len (by omega))], rfl⟩
set_option maxHeartbeats 4000000 in
set_option maxRecDepth 100000 in
theorem c_X9_isCase {E : Ev} {μ : Mem} {n : Nat} (hn : μ 68 33 = nI n) (h6 : n ≤ 5) {v : Int32} : AM E yX9_isCase cX9_isCase 2 (some .boolean) 1 [.ref 67, .int v] μ (fun r μ' => r = some (.int (bI (0 ≤ v ∧ v < μ 68 33))) ∧ μ' = μ) := by
  refine am_of (own := RX9) (L := [.ref 67, .int v]) (by decide) rfl (Nat.le_of_ble_eq_true rfl) rfl (fun Γ hR => ?_)
  refine cw_iload_n (pc := 0) dX9_isCase_0 rfl rfl <|
    cw_iconst (v := 0) (pc := 1) dX9_isCase_1 (by decide) <|
    cw_aload_n (pc := 2) dX9_isCase_2 rfl rfl <|
    cw_getR (q := 67) (t := 68) (pc := 3) dX9_isCase_3 fX9_9 sh_67 (by decide) rfl <|
    cw_bipush (v := 33) (pc := 6) dX9_isCase_6 (by decide) <|
    cw_ial (q := 68) (jn := 33) (pc := 8) dX9_isCase_8 sh_68 rfl (by decide) (by decide) <|
    cw_iconst (v := 1) (pc := 9) dX9_isCase_9 (by decide) <|
    cw_isub (pc := 10) dX9_isCase_10 <|
    cw_insI (pc := 11) dX9_isCase_11 c_X9_in vX9_44 rfl rfl rfl (by decide) <|
    cw_zret (pc := 14) dX9_isCase_14 hR (nb_ok (bI_cases _)) <|
    ⟨by rw [hn, bI_cg (and_congr_right fun _ => i_len (by omega))], rfl⟩
set_option maxHeartbeats 4000000 in
set_option maxRecDepth 100000 in
theorem c_X9_tellsOf_many {E : Ev} {μ : Mem} {code : PCo} {mk : Nat} (hP : InvP (μ 68) code mk) : AM E yX9_tellsOf cX9_tellsOf 3 (some .int) 0 [.ref 67, .int 243, .int 0] μ (fun r μ' => r = some (.int (nI code.length)) ∧ μ' = μ) := by
  refine am_of (own := RX9) (L := [.ref 67, .int 243, .int 0]) (by decide) rfl (Nat.le_of_ble_eq_true rfl) rfl (fun Γ hR => ?_)
  obtain ⟨⟨np, hnp, e32, hh⟩, hlen, hmk, hwf⟩ := hP
  rcases hh with ⟨e38, ec, em⟩ | ⟨h, hh, e38, eL, eM, eC⟩
  · refine cw_aload_n (pc := 0) dX9_tellsOf_0 rfl rfl <|
      cw_getR (q := 67) (t := 68) (pc := 1) dX9_tellsOf_1 fX9_9 sh_67 (by decide) rfl <|
      cw_bipush (v := 38) (pc := 4) dX9_tellsOf_4 (by decide) <|
      cw_ial (q := 68) (jn := 38) (pc := 6) dX9_tellsOf_6 sh_68 rfl (by decide) (by decide) <|
      cw_iconst (v := -1) (pc := 7) dX9_tellsOf_7 (by decide) <|
      cw_icmp_ne_F (tgt := 15) (pc := 8) dX9_tellsOf_8 (by decide) e38 <|
      cw_iload_n (pc := 11) dX9_tellsOf_11 rfl rfl <|
      cw_goto (tgt := 29) (pc := 12) dX9_tellsOf_12 (by decide) <|
      cw_iret (pc := 29) dX9_tellsOf_29 hR <|
      ⟨by subst ec; rfl, rfl⟩
  · refine cw_aload_n (pc := 0) dX9_tellsOf_0 rfl rfl <|
      cw_getR (q := 67) (t := 68) (pc := 1) dX9_tellsOf_1 fX9_9 sh_67 (by decide) rfl <|
      cw_bipush (v := 38) (pc := 4) dX9_tellsOf_4 (by decide) <|
      cw_ial (q := 68) (jn := 38) (pc := 6) dX9_tellsOf_6 sh_68 rfl (by decide) (by decide) <|
      cw_iconst (v := -1) (pc := 7) dX9_tellsOf_7 (by decide) <|
      cw_icmp_ne_T (tgt := 15) (pc := 8) dX9_tellsOf_8 (by decide) (by rw [e38]; exact nI_ne1 (by omega)) <|
      cw_aload_n (pc := 15) dX9_tellsOf_15 rfl rfl <|
      cw_getR (q := 67) (t := 68) (pc := 16) dX9_tellsOf_16 fX9_9 sh_67 (by decide) rfl <|
      cw_iload_n (pc := 19) dX9_tellsOf_19 rfl rfl <|
      cw_aload_n (pc := 20) dX9_tellsOf_20 rfl rfl <|
      cw_getR (q := 67) (t := 68) (pc := 21) dX9_tellsOf_21 fX9_9 sh_67 (by decide) rfl <|
      cw_bipush (v := 38) (pc := 24) dX9_tellsOf_24 (by decide) <|
      cw_ial (q := 68) (jn := 38) (pc := 26) dX9_tellsOf_26 sh_68 rfl (by decide) (by decide) <|
      cw_iadd (pc := 27) dX9_tellsOf_27 <|
      cw_ial (q := 68) (jn := (243 + h)) (pc := 28) dX9_tellsOf_28 sh_68 (nx_add rfl e38) (by omega) (by decide) <|
      cw_iret (pc := 29) dX9_tellsOf_29 hR <|
      ⟨by rw [eL], rfl⟩
set_option maxHeartbeats 4000000 in
set_option maxRecDepth 100000 in
theorem c_X9_tellsOf_pass {E : Ev} {μ : Mem} {code : PCo} {mk : Nat} (hP : InvP (μ 68) code mk) : AM E yX9_tellsOf cX9_tellsOf 3 (some .int) 0 [.ref 67, .int 238, .int 30] μ (fun r μ' => r = some (.int (nI mk)) ∧ μ' = μ) := by
  refine am_of (own := RX9) (L := [.ref 67, .int 238, .int 30]) (by decide) rfl (Nat.le_of_ble_eq_true rfl) rfl (fun Γ hR => ?_)
  obtain ⟨⟨np, hnp, e32, hh⟩, hlen, hmk, hwf⟩ := hP
  rcases hh with ⟨e38, ec, em⟩ | ⟨h, hh, e38, eL, eM, eC⟩
  · refine cw_aload_n (pc := 0) dX9_tellsOf_0 rfl rfl <|
      cw_getR (q := 67) (t := 68) (pc := 1) dX9_tellsOf_1 fX9_9 sh_67 (by decide) rfl <|
      cw_bipush (v := 38) (pc := 4) dX9_tellsOf_4 (by decide) <|
      cw_ial (q := 68) (jn := 38) (pc := 6) dX9_tellsOf_6 sh_68 rfl (by decide) (by decide) <|
      cw_iconst (v := -1) (pc := 7) dX9_tellsOf_7 (by decide) <|
      cw_icmp_ne_F (tgt := 15) (pc := 8) dX9_tellsOf_8 (by decide) e38 <|
      cw_iload_n (pc := 11) dX9_tellsOf_11 rfl rfl <|
      cw_goto (tgt := 29) (pc := 12) dX9_tellsOf_12 (by decide) <|
      cw_iret (pc := 29) dX9_tellsOf_29 hR <|
      ⟨by subst em; rfl, rfl⟩
  · refine cw_aload_n (pc := 0) dX9_tellsOf_0 rfl rfl <|
      cw_getR (q := 67) (t := 68) (pc := 1) dX9_tellsOf_1 fX9_9 sh_67 (by decide) rfl <|
      cw_bipush (v := 38) (pc := 4) dX9_tellsOf_4 (by decide) <|
      cw_ial (q := 68) (jn := 38) (pc := 6) dX9_tellsOf_6 sh_68 rfl (by decide) (by decide) <|
      cw_iconst (v := -1) (pc := 7) dX9_tellsOf_7 (by decide) <|
      cw_icmp_ne_T (tgt := 15) (pc := 8) dX9_tellsOf_8 (by decide) (by rw [e38]; exact nI_ne1 (by omega)) <|
      cw_aload_n (pc := 15) dX9_tellsOf_15 rfl rfl <|
      cw_getR (q := 67) (t := 68) (pc := 16) dX9_tellsOf_16 fX9_9 sh_67 (by decide) rfl <|
      cw_iload_n (pc := 19) dX9_tellsOf_19 rfl rfl <|
      cw_aload_n (pc := 20) dX9_tellsOf_20 rfl rfl <|
      cw_getR (q := 67) (t := 68) (pc := 21) dX9_tellsOf_21 fX9_9 sh_67 (by decide) rfl <|
      cw_bipush (v := 38) (pc := 24) dX9_tellsOf_24 (by decide) <|
      cw_ial (q := 68) (jn := 38) (pc := 26) dX9_tellsOf_26 sh_68 rfl (by decide) (by decide) <|
      cw_iadd (pc := 27) dX9_tellsOf_27 <|
      cw_ial (q := 68) (jn := (238 + h)) (pc := 28) dX9_tellsOf_28 sh_68 (nx_add rfl e38) (by omega) (by decide) <|
      cw_iret (pc := 29) dX9_tellsOf_29 hR <|
      ⟨by rw [eM], rfl⟩
theorem nI_s1 {l : Nat} (h : 0 < l) : nI l - 1 = nI (l - 1) := pk_sub (b := 1) (by omega)
set_option maxHeartbeats 4000000 in
set_option maxRecDepth 100000 in
theorem c_X9_went {E : Ev} {μ : Mem} {l : Nat} (hl : l ≤ 8) {t : Int32} : AM E yX9_went cX9_went 2 (some .int) 0 [.int (nI l), .int t] μ (fun r μ' => r = some (.int (nI (went l t))) ∧ μ' = μ) := by
  refine am_of (own := RX9) (L := [.int (nI l), .int t]) (by decide) rfl (Nat.le_of_ble_eq_true rfl) rfl (fun Γ hR => ?_)
  by_cases h1 : 0 < t
  · by_cases h2 : l < 8
    · refine cw_iload_n (pc := 0) dX9_went_0 rfl rfl <|
        cw_if_le_F (tgt := 16) (pc := 1) dX9_went_1 (by decide) (Int32.not_le.mpr h1) <|
        cw_iload_n (pc := 4) dX9_went_4 rfl rfl <|
        cw_bipush (v := 8) (pc := 5) dX9_went_5 (by decide) <|
        cw_icmp_ge_F (tgt := 16) (pc := 7) dX9_went_7 (by decide) (nI_ge (b := 8) h2 (by decide)) <|
        cw_iload_n (pc := 10) dX9_went_10 rfl rfl <|
        cw_iconst (v := 1) (pc := 11) dX9_went_11 (by decide) <|
        cw_iadd (pc := 12) dX9_went_12 <|
        cw_goto (tgt := 31) (pc := 13) dX9_went_13 (by decide) <|
        cw_iret (pc := 31) dX9_went_31 hR <|
        ⟨by rw [show went l t = l + 1 from if_pos ⟨h1, h2⟩, nI_1], rfl⟩
    · refine cw_iload_n (pc := 0) dX9_went_0 rfl rfl <|
        cw_if_le_F (tgt := 16) (pc := 1) dX9_went_1 (by decide) (Int32.not_le.mpr h1) <|
        cw_iload_n (pc := 4) dX9_went_4 rfl rfl <|
        cw_bipush (v := 8) (pc := 5) dX9_went_5 (by decide) <|
        cw_icmp_ge_T (tgt := 16) (pc := 7) dX9_went_7 (by decide) (nI_le (a := 8) (by omega) (by omega)) <|
        cw_iload_n (pc := 16) dX9_went_16 rfl rfl <|
        cw_if_ge_T (tgt := 30) (pc := 17) dX9_went_17 (by decide) (Int32.le_of_lt h1) <|
        cw_iload_n (pc := 30) dX9_went_30 rfl rfl <|
        cw_iret (pc := 31) dX9_went_31 hR <|
        ⟨by rw [show went l t = l by unfold went; rw [if_neg (fun h => h2 h.2), if_neg (fun h => absurd h1 (Int32.not_lt.mpr (Int32.le_of_lt h.1)))]], rfl⟩
  · by_cases h3 : t < 0
    · by_cases h4 : 0 < l
      · refine cw_iload_n (pc := 0) dX9_went_0 rfl rfl <|
          cw_if_le_T (tgt := 16) (pc := 1) dX9_went_1 (by decide) (Int32.not_lt.mp h1) <|
          cw_iload_n (pc := 16) dX9_went_16 rfl rfl <|
          cw_if_ge_F (tgt := 30) (pc := 17) dX9_went_17 (by decide) (Int32.not_le.mpr h3) <|
          cw_iload_n (pc := 20) dX9_went_20 rfl rfl <|
          cw_if_le_F (tgt := 30) (pc := 21) dX9_went_21 (by decide) (nI_nle0 h4 (by omega)) <|
          cw_iload_n (pc := 24) dX9_went_24 rfl rfl <|
          cw_iconst (v := 1) (pc := 25) dX9_went_25 (by decide) <|
          cw_isub (pc := 26) dX9_went_26 <|
          cw_goto (tgt := 31) (pc := 27) dX9_went_27 (by decide) <|
          cw_iret (pc := 31) dX9_went_31 hR <|
          ⟨by rw [show went l t = l - 1 by unfold went; rw [if_neg (fun h => h1 h.1), if_pos ⟨h3, h4⟩], nI_s1 h4], rfl⟩
      · refine cw_iload_n (pc := 0) dX9_went_0 rfl rfl <|
          cw_if_le_T (tgt := 16) (pc := 1) dX9_went_1 (by decide) (Int32.not_lt.mp h1) <|
          cw_iload_n (pc := 16) dX9_went_16 rfl rfl <|
          cw_if_ge_F (tgt := 30) (pc := 17) dX9_went_17 (by decide) (Int32.not_le.mpr h3) <|
          cw_iload_n (pc := 20) dX9_went_20 rfl rfl <|
          cw_if_le_T (tgt := 30) (pc := 21) dX9_went_21 (by decide) (by rw [show l = 0 by omega]; decide) <|
          cw_iload_n (pc := 30) dX9_went_30 rfl rfl <|
          cw_iret (pc := 31) dX9_went_31 hR <|
          ⟨by rw [show went l t = l by unfold went; rw [if_neg (fun h => h1 h.1), if_neg (fun h => h4 h.2)]], rfl⟩
    · refine cw_iload_n (pc := 0) dX9_went_0 rfl rfl <|
        cw_if_le_T (tgt := 16) (pc := 1) dX9_went_1 (by decide) (Int32.not_lt.mp h1) <|
        cw_iload_n (pc := 16) dX9_went_16 rfl rfl <|
        cw_if_ge_T (tgt := 30) (pc := 17) dX9_went_17 (by decide) (Int32.not_lt.mp h3) <|
        cw_iload_n (pc := 30) dX9_went_30 rfl rfl <|
        cw_iret (pc := 31) dX9_went_31 hR <|
        ⟨by rw [show went l t = l by unfold went; rw [if_neg (fun h => h1 h.1), if_neg (fun h => h3 h.1)]], rfl⟩
set_option maxHeartbeats 4000000 in
set_option maxRecDepth 100000 in
theorem c_X9_span {E : Ev} {μ : Mem} {ln : Nat → Nat} (h : ∀ x, x ≤ 12 → μ 73 x = nI (ln x)) (hb : ∀ x, ln x ≤ 8) : AM E yX9_span cX9_span 1 (some .int) 0 [.ref 67] μ (fun r μ' => r = some (.int (nI (spanN ln))) ∧ μ' = μ) := by
  refine am_of (own := RX9) (L := [.ref 67]) (by decide) rfl (Nat.le_of_ble_eq_true rfl) rfl (fun Γ hR => ?_)
  have e0 := h 0 (by omega)
  have e12 := h 12 (by omega)
  have b0 := hb 0
  have b12 := hb 12
  by_cases hs : ln 12 < ln 0
  · refine cw_aload_n (pc := 0) dX9_span_0 rfl rfl <|
      cw_getR (q := 67) (t := 73) (pc := 1) dX9_span_1 fX9_28 sh_67 (by decide) rfl <|
      cw_bipush (v := 12) (pc := 4) dX9_span_4 (by decide) <|
      cw_ial (q := 73) (jn := 12) (pc := 6) dX9_span_6 sh_73 rfl (by decide) (by decide) <|
      ?_
    rw [e12]
    refine cw_aload_n (pc := 7) dX9_span_7 rfl rfl <|
      cw_getR (q := 67) (t := 73) (pc := 8) dX9_span_8 fX9_28 sh_67 (by decide) rfl <|
      cw_iconst (v := 0) (pc := 11) dX9_span_11 (by decide) <|
      cw_ial (q := 73) (jn := 0) (pc := 12) dX9_span_12 sh_73 rfl (by decide) (by decide) <|
      ?_
    rw [e0]
    refine cw_icmp_ge_F (tgt := 33) (pc := 13) dX9_span_13 (by decide) (nI_ge hs (by omega)) <|
      cw_aload_n (pc := 16) dX9_span_16 rfl rfl <|
      cw_getR (q := 67) (t := 73) (pc := 17) dX9_span_17 fX9_28 sh_67 (by decide) rfl <|
      cw_iconst (v := 0) (pc := 20) dX9_span_20 (by decide) <|
      cw_ial (q := 73) (jn := 0) (pc := 21) dX9_span_21 sh_73 rfl (by decide) (by decide) <|
      ?_
    rw [e0]
    refine cw_aload_n (pc := 22) dX9_span_22 rfl rfl <|
      cw_getR (q := 67) (t := 73) (pc := 23) dX9_span_23 fX9_28 sh_67 (by decide) rfl <|
      cw_bipush (v := 12) (pc := 26) dX9_span_26 (by decide) <|
      cw_ial (q := 73) (jn := 12) (pc := 28) dX9_span_28 sh_73 rfl (by decide) (by decide) <|
      ?_
    rw [e12]
    refine cw_isub (pc := 29) dX9_span_29 <|
      cw_goto (tgt := 47) (pc := 30) dX9_span_30 (by decide) <|
      cw_iret (pc := 47) dX9_span_47 hR <|
      ⟨by rw [show spanN ln = ln 0 - ln 12 from if_pos hs, pk_sub (by omega)], rfl⟩
  · refine cw_aload_n (pc := 0) dX9_span_0 rfl rfl <|
      cw_getR (q := 67) (t := 73) (pc := 1) dX9_span_1 fX9_28 sh_67 (by decide) rfl <|
      cw_bipush (v := 12) (pc := 4) dX9_span_4 (by decide) <|
      cw_ial (q := 73) (jn := 12) (pc := 6) dX9_span_6 sh_73 rfl (by decide) (by decide) <|
      ?_
    rw [e12]
    refine cw_aload_n (pc := 7) dX9_span_7 rfl rfl <|
      cw_getR (q := 67) (t := 73) (pc := 8) dX9_span_8 fX9_28 sh_67 (by decide) rfl <|
      cw_iconst (v := 0) (pc := 11) dX9_span_11 (by decide) <|
      cw_ial (q := 73) (jn := 0) (pc := 12) dX9_span_12 sh_73 rfl (by decide) (by decide) <|
      ?_
    rw [e0]
    refine cw_icmp_ge_T (tgt := 33) (pc := 13) dX9_span_13 (by decide) (nI_le (by omega) (by omega)) <|
      cw_aload_n (pc := 33) dX9_span_33 rfl rfl <|
      cw_getR (q := 67) (t := 73) (pc := 34) dX9_span_34 fX9_28 sh_67 (by decide) rfl <|
      cw_bipush (v := 12) (pc := 37) dX9_span_37 (by decide) <|
      cw_ial (q := 73) (jn := 12) (pc := 39) dX9_span_39 sh_73 rfl (by decide) (by decide) <|
      ?_
    rw [e12]
    refine cw_aload_n (pc := 40) dX9_span_40 rfl rfl <|
      cw_getR (q := 67) (t := 73) (pc := 41) dX9_span_41 fX9_28 sh_67 (by decide) rfl <|
      cw_iconst (v := 0) (pc := 44) dX9_span_44 (by decide) <|
      cw_ial (q := 73) (jn := 0) (pc := 45) dX9_span_45 sh_73 rfl (by decide) (by decide) <|
      ?_
    rw [e0]
    refine cw_isub (pc := 46) dX9_span_46 <|
      cw_iret (pc := 47) dX9_span_47 hR <|
      ⟨by rw [show spanN ln = ln 12 - ln 0 from if_neg hs, pk_sub (by omega)], rfl⟩
/-- a stack of answers in a row, its top behind -/
def SK (f : Nat → Int32) : List Bool → Prop
  | [] => True
  | b :: t => f t.length = (if b then 1 else 0) ∧ SK f t
theorem SK.up {f g : Nat → Int32} : ∀ (t : List Bool), SK f t → (∀ i, i < t.length → g i = f i) → SK g t
  | [], _, _ => trivial
  | b :: t, h, e => ⟨(e _ (by simp)).trans h.1, SK.up t h.2 (fun i hi => e i (by simp; omega))⟩
theorem mst_test {c : Nat × Nat} (h : c.1 < 18) : mst c = nI (c.1 / 3 + 8 * (c.1 % 3) + 32 * c.2) := if_pos h
theorem mst_lt {c : Nat × Nat} (h : ¬ c.1 < 18) (h2 : c.1 ≤ 22) (h3 : c.2 ≤ 99) : mst c = (if c.1 = 18 then -1 else if c.1 = 19 then -2 else if c.1 = 20 then -3 else if c.1 = 21 then -10 - nI c.2 else -200 - nI c.2) := if_neg h
theorem draw_f : ∀ n, n < 100 → -10 - nI n ≤ -10 ∧ -200 < -10 - nI n ∧ -10 - (-10 - nI n) = nI n ∧ ¬ (-10 - nI n) = -1 ∧ -10 - nI n < 0 := by decide
theorem hold_f : ∀ n, n < 100 → -200 - nI n ≤ -10 ∧ ¬ (-200 < -200 - nI n) ∧ -200 - (-200 - nI n) = nI n ∧ ¬ (-200 - nI n) = -1 ∧ -200 - nI n < 0 := by decide
def MD : Nat → Nat → Prop := fun q _ => q = 71 ∨ q = 72
theorem mst_rd {a b v : Nat} (ha : a < 8) (hb : b < 4) : (a + 8 * b + 32 * v) % 8 = a ∧ (a + 8 * b + 32 * v) / 8 % 4 = b ∧ (a + 8 * b + 32 * v) / 32 = v := by omega
set_option maxHeartbeats 4000000 in
set_option maxRecDepth 100000 in
theorem c_X9_driftOf {E : Ev} {μ : Mem} {code : PCo} {mk : Nat} (hP : InvP (μ 68) code mk) {p x l : Nat} (hp : p < 6) {f : Int32} : AM E yX9_driftOf cX9_driftOf 14 (some .int) 1 [.ref 67, .int (nI p), .int (nI x), .int (nI l), .int f] μ (fun r μ' => r = some (.int (Drift (facts (nI p) (μ 68 (39 + p)) (nI x) (nI l) f (μ 68 0)) code)) ∧ Same MD μ μ') := by
  refine am_of (own := RX9) (L := [.ref 67, .int (nI p), .int (nI x), .int (nI l), .int f, .null, .null, .null, .null, .null, .null, .null, .null, .null]) (by decide) rfl (Nat.le_of_ble_eq_true rfl) rfl (fun Γ hR => ?_)
  have hP0 := hP
  obtain ⟨⟨np, hnp, e32, hh⟩, hlen, hmk, hwf⟩ := hP
  refine cw_aload_n (pc := 0) dX9_driftOf_0 rfl rfl <|
    cw_getR (q := 67) (t := 71) (pc := 1) dX9_driftOf_1 fX9_21 sh_67 (by decide) rfl <|
    cw_iconst (v := 0) (pc := 4) dX9_driftOf_4 (by decide) <|
    cw_iload_n (pc := 5) dX9_driftOf_5 rfl rfl <|
    cw_ias (q := 71) (jn := 0) (pc := 6) dX9_driftOf_6 sh_71 rfl (by decide) (by decide) <|
    cw_aload_n (pc := 7) dX9_driftOf_7 rfl rfl <|
    cw_getR (q := 67) (t := 71) (pc := 8) dX9_driftOf_8 fX9_21 sh_67 (by decide) rfl <|
    cw_iconst (v := 1) (pc := 11) dX9_driftOf_11 (by decide) <|
    cw_aload_n (pc := 12) dX9_driftOf_12 rfl rfl <|
    cw_getR (q := 67) (t := 68) (pc := 13) dX9_driftOf_13 fX9_9 sh_67 (by decide) rfl <|
    cw_bipush (v := 39) (pc := 16) dX9_driftOf_16 (by decide) <|
    cw_iload_n (pc := 18) dX9_driftOf_18 rfl rfl <|
    cw_iadd (pc := 19) dX9_driftOf_19 <|
    cw_ial (q := 68) (jn := (39 + p)) (pc := 20) dX9_driftOf_20 sh_68 (nx_add rfl rfl) (by omega) (by decide) <|
    cw_ias (q := 71) (jn := 1) (pc := 21) dX9_driftOf_21 sh_71 rfl (by decide) (by decide) <|
    cw_aload_n (pc := 22) dX9_driftOf_22 rfl rfl <|
    cw_getR (q := 67) (t := 71) (pc := 23) dX9_driftOf_23 fX9_21 sh_67 (by decide) rfl <|
    cw_iconst (v := 2) (pc := 26) dX9_driftOf_26 (by decide) <|
    cw_iload_n (pc := 27) dX9_driftOf_27 rfl rfl <|
    cw_ias (q := 71) (jn := 2) (pc := 28) dX9_driftOf_28 sh_71 rfl (by decide) (by decide) <|
    cw_aload_n (pc := 29) dX9_driftOf_29 rfl rfl <|
    cw_getR (q := 67) (t := 71) (pc := 30) dX9_driftOf_30 fX9_21 sh_67 (by decide) rfl <|
    cw_iconst (v := 3) (pc := 33) dX9_driftOf_33 (by decide) <|
    cw_iload_n (pc := 34) dX9_driftOf_34 rfl rfl <|
    cw_ias (q := 71) (jn := 3) (pc := 35) dX9_driftOf_35 sh_71 rfl (by decide) (by decide) <|
    cw_aload_n (pc := 36) dX9_driftOf_36 rfl rfl <|
    cw_getR (q := 67) (t := 71) (pc := 37) dX9_driftOf_37 fX9_21 sh_67 (by decide) rfl <|
    cw_iconst (v := 4) (pc := 40) dX9_driftOf_40 (by decide) <|
    cw_iload (pc := 41) dX9_driftOf_41 rfl <|
    cw_ias (q := 71) (jn := 4) (pc := 43) dX9_driftOf_43 sh_71 rfl (by decide) (by decide) <|
    cw_aload_n (pc := 44) dX9_driftOf_44 rfl rfl <|
    cw_getR (q := 67) (t := 71) (pc := 45) dX9_driftOf_45 fX9_21 sh_67 (by decide) rfl <|
    cw_iconst (v := 5) (pc := 48) dX9_driftOf_48 (by decide) <|
    cw_aload_n (pc := 49) dX9_driftOf_49 rfl rfl <|
    cw_getR (q := 67) (t := 68) (pc := 50) dX9_driftOf_50 fX9_9 sh_67 (by decide) rfl <|
    cw_iconst (v := 0) (pc := 53) dX9_driftOf_53 (by decide) <|
    cw_ial (q := 68) (jn := 0) (pc := 54) dX9_driftOf_54 sh_68 rfl (by decide) (by decide) <|
    ?_
  skip
  refine cw_bipush (v := 10) (pc := 55) dX9_driftOf_55 (by decide) <|
    cw_irem (pc := 57) dX9_driftOf_57 (by decide) <|
    cw_ias (q := 71) (jn := 5) (pc := 58) dX9_driftOf_58 sh_71 rfl (by decide) (by decide) <|
    cw_iconst (v := 0) (pc := 59) dX9_driftOf_59 (by decide) <|
    cw_istore (L' := [_, _, _, _, _, _, _, _, _, _, _, _, _, _]) (pc := 60) dX9_driftOf_60 (by decide) rfl rfl <|
    ?_
  suffices key : ∀ μ1 : Mem, Same MD μ μ1 → (∀ j, j < 6 → μ1 71 j = facts (nI p) (μ 68 (39 + p)) (nI x) (nI l) f (μ 68 0) j) → CW E Γ cX9_driftOf 14 RX9 1 62 [.ref 67, .int (nI p), .int (nI x), .int (nI l), .int f, .int 0, .null, .null, .null, .null, .null, .null, .null, .null] [] μ1 from key _ (by exact Same.s1 (Same.s1 (Same.s1 (Same.s1 (Same.s1 (Same.s1 Same.rf (Or.inl rfl)) (Or.inl rfl)) (Or.inl rfl)) (Or.inl rfl)) (Or.inl rfl)) (Or.inl rfl)) (by
    intro j hj
    rcases (show j = 0 ∨ j = 1 ∨ j = 2 ∨ j = 3 ∨ j = 4 ∨ j = 5 by omega) with rfl | rfl | rfl | rfl | rfl | rfl <;> simp [st_at, facts])
  intro μ1 hS hf
  have e68 : μ1 68 = μ 68 := funext fun i => hS _ _ (by unfold MD; omega)
  have hdr := Drift_congr (code := code) hf
  have hP1 : InvP (μ1 68) code mk := by rw [e68]; exact hP0
  clear hP0
  have hF : ∃ base, base + 100 ≤ 948 ∧ (code = [] ∨ ((248 : Int32) + 140 * μ 68 38 = nI base ∧ ∀ (i : Nat) (c : Nat × Nat), code[i]? = some c → μ 68 (base + i) = mst c)) := by
    rcases hh with ⟨e38, ec, em⟩ | ⟨h, hh, e38, eL, eM, eC⟩
    · exact ⟨0, by omega, Or.inl ec⟩
    · exact ⟨248 + 140 * h, by omega, Or.inr ⟨by rw [e38]; exact nx_add (a := 248) rfl (nx_mul (a := 140) rfl rfl), eC⟩⟩
  obtain ⟨base, hbase, hF⟩ := hF
  refine cw_aload_n (pc := 62) dX9_driftOf_62 rfl rfl <|
    cw_sipush (v := 243) (pc := 63) dX9_driftOf_63 (by decide) <|
    cw_iconst (v := 0) (pc := 66) dX9_driftOf_66 (by decide) <|
    cw_invI (q := 67) (pc := 67) dX9_driftOf_67 (c_X9_tellsOf_many hP1) rfl vX9_124 sh_67 (by decide) rfl rfl rfl (by decide) <|
    cw_istore (L' := [_, _, _, _, _, _, _, _, _, _, _, _, _, _]) (pc := 70) dX9_driftOf_70 (by decide) rfl rfl <|
    cw_sipush (v := 248) (pc := 72) dX9_driftOf_72 (by decide) <|
    cw_sipush (v := 140) (pc := 75) dX9_driftOf_75 (by decide) <|
    cw_aload_n (pc := 78) dX9_driftOf_78 rfl rfl <|
    cw_getR (q := 67) (t := 68) (pc := 79) dX9_driftOf_79 fX9_9 sh_67 (by decide) rfl <|
    cw_bipush (v := 38) (pc := 82) dX9_driftOf_82 (by decide) <|
    cw_ial (q := 68) (jn := 38) (pc := 84) dX9_driftOf_84 sh_68 rfl (by decide) (by decide) <|
    ?_
  rw [e68]
  refine cw_imul (pc := 85) dX9_driftOf_85 <|
    cw_iadd (pc := 86) dX9_driftOf_86 <|
    ?_
  generalize hFe : (248 : Int32) + 140 * μ 68 38 = F at hF ⊢
  refine cw_istore (L' := [_, _, _, _, _, _, _, _, _, _, _, _, _, _]) (pc := 87) dX9_driftOf_87 (by decide) rfl rfl <|
    cw_iconst (v := 0) (pc := 89) dX9_driftOf_89 (by decide) <|
    cw_istore (L' := [_, _, _, _, _, _, _, _, _, _, _, _, _, _]) (pc := 90) dX9_driftOf_90 (by decide) rfl rfl <|
    cw_iload (pc := 92) dX9_driftOf_92 rfl <|
    cw_istore (L' := [_, _, _, _, _, _, _, _, _, _, _, _, _, _]) (pc := 94) dX9_driftOf_94 (by decide) rfl rfl <|
    ?_
  have hF0 : F + nI 0 = F := by rw [nI_0, Int32.add_zero]
  have start : ∀ z, z = F → CW E Γ cX9_driftOf 14 RX9 1 96 [.ref 67, .int (nI p), .int (nI x), .int (nI l), .int f, .int 0, .int (nI code.length), .int F, .int 0, .int z, .null, .null, .null, .null] [] μ1 := ?_
  · exact start F rfl
  intro z hz
  rw [show z = F + nI 0 from hz.trans hF0.symm]
  refine cw_for (σ := Int32 × Int32 × Value × Value × Value × Value) code.length (fun i a m => Same MD μ m ∧ (∀ j, j < 6 → m 71 j = μ1 71 j) ∧ a.1 = ((code.take i).foldl (dst (μ1 71)) ([], 0)).2 ∧ SK (m 72) ((code.take i).foldl (dst (μ1 71)) ([], 0)).1 ∧ a.2.1 = nI ((code.take i).foldl (dst (μ1 71)) ([], 0)).1.length ∧ ((code.take i).foldl (dst (μ1 71)) ([], 0)).1.length ≤ 14 ∧ WFc ((code.take i).foldl (dst (μ1 71)) ([], 0)).1.length (code.drop i)) (fun i a => [.ref 67, .int (nI p), .int (nI x), .int (nI l), .int f, .int a.1, .int (nI code.length), .int F, .int a.2.1, .int (F + nI i), a.2.2.1, a.2.2.2.1, a.2.2.2.2.1, a.2.2.2.2.2]) ?_ ?_ 0 (0, 0, .null, .null, .null, .null) μ1 (Nat.zero_le _) ⟨hS, fun _ _ => rfl, rfl, trivial, rfl, by simp, by simpa using hwf⟩
  · rintro ⟨s, tp, z10, z11, z12, z13⟩ μ' ⟨hs1, hs2, hsum, hsk, htop, hl14, hwfc⟩
    dsimp only at hsum htop ⊢
    refine cw_iload (pc := 96) dX9_driftOf_96 rfl <|
      cw_iload (pc := 98) dX9_driftOf_98 rfl <|
      cw_iload (pc := 100) dX9_driftOf_100 rfl <|
      cw_iadd (pc := 102) dX9_driftOf_102 <|
      cw_icmp_ge_T (tgt := 407) (pc := 103) dX9_driftOf_103 (by decide) (Int32.le_refl _) <|
      cw_iload (pc := 407) dX9_driftOf_407 rfl <|
      cw_iret (pc := 409) dX9_driftOf_409 hR <|
      ⟨by rw [hsum, List.take_length, ← hdr]; rfl, hs1⟩
  · rintro i ⟨s, tp, z10, z11, z12, z13⟩ μ' hi ⟨hs1, hs2, hsum, hsk, htop, hl14, hwfc⟩ ih
    dsimp only at hsum htop ⊢
    obtain ⟨c, hci⟩ : ∃ c, code[i]? = some c := ⟨_, List.getElem?_eq_getElem hi⟩
    obtain ⟨hFb, hst⟩ : F = nI base ∧ ∀ (i : Nat) (c : Nat × Nat), code[i]? = some c → μ 68 (base + i) = mst c := hF.elim (fun e => by rw [e] at hi; simp at hi) id
    have hstp := hst i c hci
    have hstp' : μ' 68 (base + i) = mst c := (hs1 _ _ (by unfold MD; omega)).trans hstp
    have hidx : F + nI i = nI (base + i) := by rw [hFb, nI_add]
    have hnx := take_succ_fold (dst (μ1 71)) ([], 0) code hci
    rw [drop_cons_of hci] at hwfc
    obtain ⟨g1, g2, g3, g4, g5, g6⟩ := hwfc
    generalize hFo : (code.take i).foldl (dst (μ1 71)) ([], 0) = Fo at *
    obtain ⟨stk, sm⟩ := Fo
    dsimp only at hsum hsk htop hl14 g3 g4 g5 g6 hnx
    subst hsum; subst htop
    have nxt : ∀ (s' : List Bool × Int32) (sv tp' : Int32) (m'' : Mem) (z10 z11 z12 z13 : Value), dst (μ1 71) (stk, s) c = s' → sv = s'.2 → tp' = nI s'.1.length → SK (m'' 72) s'.1 → Same (fun q _ => q = 72) μ' m'' → s'.1.length ≤ 14 → WFc s'.1.length (code.drop (i + 1)) → CW E Γ cX9_driftOf 14 RX9 1 96 [.ref 67, .int (nI p), .int (nI x), .int (nI l), .int f, .int sv, .int (nI code.length), .int F, .int tp', .int (F + nI i + 1), z10, z11, z12, z13] [] m'' := by
      intro s' sv tp' m'' z10 z11 z12 z13 h1 h2 h3 h4 h5 h6 h7
      subst h1; subst h2; subst h3
      have := ih (_, _, z10, z11, z12, z13) m'' ⟨hs1.tr (h5.mo (fun q i h => Or.inr h)), fun j hj => (h5 _ _ (by omega)).trans (hs2 j hj), by rw [hnx], by rw [hnx]; exact h4, by rw [hnx], by rw [hnx]; exact h6, by rw [hnx]; exact h7⟩
      dsimp only at this
      rw [show F + nI i + 1 = F + nI (i + 1) by rw [← nI_1, Int32.add_assoc]]
      exact this
    clear ih
    have hlo : ¬ (F + nI code.length ≤ F + nI i) := by rw [hFb, nI_add, nI_add]; exact nI_ge (by omega) (by omega)
    rcases (show c.1 < 18 ∨ c.1 = 18 ∨ c.1 = 19 ∨ c.1 = 20 ∨ c.1 = 21 ∨ c.1 = 22 by omega) with e | e | e | e | e | e
    · obtain ⟨k1, k2⟩ := g3 e
      have hw : mst c = nI (c.1 / 3 + 8 * (c.1 % 3) + 32 * c.2) := mst_test e
      have hm8 : ∀ w : Nat, w < 4000 → nI w - nI w / 8 * 8 = nI (w % 8) ∧ nI w / 8 - nI w / 8 / 4 * 4 = nI (w / 8 % 4) ∧ nI w / 32 = nI (w / 32) := fun w hw => ⟨pk_rem (d := 8) (by omega) (by decide) (by decide), by rw [show nI w / 8 = nI (w / 8) from pk_div (d := 8) (by omega) (by decide) (by decide)]; exact pk_rem (d := 4) (by omega) (by decide) (by decide), pk_div (d := 32) (by omega) (by decide) (by decide)⟩
      obtain ⟨w1, w2, w3⟩ := hm8 (c.1 / 3 + 8 * (c.1 % 3) + 32 * c.2) (by omega)
      obtain ⟨q1, q2, q3⟩ := mst_rd (a := c.1 / 3) (b := c.1 % 3) (v := c.2) (by omega) (by omega)
      rw [q1] at w1
      rw [q2] at w2
      rw [q3] at w3
      have hfa : μ' 71 (c.1 / 3) = μ1 71 (c.1 / 3) := hs2 _ (by omega)
      have fin : ∀ (b : Bool) (z11 z12 z13 : Value), b = tstB (μ1 71) c.1 c.2 → CW E Γ cX9_driftOf 14 RX9 1 96 [.ref 67, .int (nI p), .int (nI x), .int (nI l), .int f, .int s, .int (nI code.length), .int F, .int (nI stk.length + 1), .int (F + nI i + 1), .int (nI (c.1 / 3 + 8 * (c.1 % 3) + 32 * c.2)), z11, z12, z13] [] (st μ' 72 stk.length (if b then 1 else 0)) := by
        intro b z11 z12 z13 hb
        exact nxt (b :: stk, s) _ _ _ _ _ _ _ (by subst hb; simp [dst, e]) rfl (by rw [nI_1]; rfl) ⟨by rw [st_eq], hsk.up _ (fun j hj => by rw [st_at, if_neg (by omega)])⟩ (Same.rf.s1 rfl) (by simp; omega) (by simpa using k2)
      rcases (show c.1 % 3 = 0 ∨ c.1 % 3 = 1 ∨ c.1 % 3 = 2 by omega) with h3 | h3 | h3
      · by_cases ht : μ1 71 (c.1 / 3) < nI c.2
        · refine cw_iload (pc := 96) dX9_driftOf_96 rfl <|
            cw_iload (pc := 98) dX9_driftOf_98 rfl <|
            cw_iload (pc := 100) dX9_driftOf_100 rfl <|
            cw_iadd (pc := 102) dX9_driftOf_102 <|
            cw_icmp_ge_F (tgt := 407) (pc := 103) dX9_driftOf_103 (by decide) hlo <|
            cw_aload_n (pc := 106) dX9_driftOf_106 rfl rfl <|
            cw_getR (q := 67) (t := 68) (pc := 107) dX9_driftOf_107 fX9_9 sh_67 (by decide) rfl <|
            cw_iload (pc := 110) dX9_driftOf_110 rfl <|
            cw_ial (q := 68) (jn := (base + i)) (pc := 112) dX9_driftOf_112 sh_68 hidx (by omega) (by decide) <|
            ?_
          rw [hstp', hw]
          refine cw_istore (L' := [_, _, _, _, _, _, _, _, _, _, _, _, _, _]) (pc := 113) dX9_driftOf_113 (by decide) rfl rfl <|
            cw_iload (pc := 115) dX9_driftOf_115 rfl <|
            cw_if_lt_F (tgt := 214) (pc := 117) dX9_driftOf_117 (by decide) (nI_pos (by omega)) <|
            cw_aload_n (pc := 120) dX9_driftOf_120 rfl rfl <|
            cw_getR (q := 67) (t := 71) (pc := 121) dX9_driftOf_121 fX9_21 sh_67 (by decide) rfl <|
            cw_iload (pc := 124) dX9_driftOf_124 rfl <|
            cw_bipush (v := 8) (pc := 126) dX9_driftOf_126 (by decide) <|
            cw_irem (pc := 128) dX9_driftOf_128 (by decide) <|
            cw_ial (q := 71) (jn := (c.1 / 3)) (pc := 129) dX9_driftOf_129 sh_71 w1 (by omega) (by decide) <|
            ?_
          rw [hfa]
          refine cw_istore (L' := [_, _, _, _, _, _, _, _, _, _, _, _, _, _]) (pc := 130) dX9_driftOf_130 (by decide) rfl rfl <|
            cw_iload (pc := 132) dX9_driftOf_132 rfl <|
            cw_bipush (v := 8) (pc := 134) dX9_driftOf_134 (by decide) <|
            cw_idiv (pc := 136) dX9_driftOf_136 (by decide) <|
            cw_iconst (v := 4) (pc := 137) dX9_driftOf_137 (by decide) <|
            cw_irem (pc := 138) dX9_driftOf_138 (by decide) <|
            ?_
          rw [w2, show nI (c.1 % 3) = nI 0 by rw [h3]]
          refine cw_istore (L' := [_, _, _, _, _, _, _, _, _, _, _, _, _, _]) (pc := 139) dX9_driftOf_139 (by decide) rfl rfl <|
            cw_iload (pc := 141) dX9_driftOf_141 rfl <|
            cw_bipush (v := 32) (pc := 143) dX9_driftOf_143 (by decide) <|
            cw_idiv (pc := 145) dX9_driftOf_145 (by decide) <|
            ?_
          rw [w3]
          refine cw_istore (L' := [_, _, _, _, _, _, _, _, _, _, _, _, _, _]) (pc := 146) dX9_driftOf_146 (by decide) rfl rfl <|
            cw_aload_n (pc := 148) dX9_driftOf_148 rfl rfl <|
            cw_getR (q := 67) (t := 72) (pc := 149) dX9_driftOf_149 fX9_24 sh_67 (by decide) rfl <|
            cw_iload (pc := 152) dX9_driftOf_152 rfl <|
            cw_iload (pc := 154) dX9_driftOf_154 rfl <|
            cw_if_ne_F (tgt := 174) (pc := 156) dX9_driftOf_156 (by decide) (by decide) <|
            cw_iload (pc := 159) dX9_driftOf_159 rfl <|
            cw_iload (pc := 161) dX9_driftOf_161 rfl <|
            cw_icmp_ge_F (tgt := 170) (pc := 163) dX9_driftOf_163 (by decide) (Int32.not_le.mpr ht) <|
            cw_iconst (v := 1) (pc := 166) dX9_driftOf_166 (by decide) <|
            cw_goto (tgt := 207) (pc := 167) dX9_driftOf_167 (by decide) <|
            cw_bas (q := 72) (jn := stk.length) (pc := 207) dX9_driftOf_207 sh_72 rfl (by omega) (by decide) (by decide) <|
            cw_iincL (L' := [_, _, _, _, _, _, _, _, _, _, _, _, _, _]) (c := 1) (pc := 208) dX9_driftOf_208 rfl (by decide) (by decide) rfl rfl <|
            cw_goto (tgt := 401) (pc := 211) dX9_driftOf_211 (by decide) <|
            cw_iincL (L' := [_, _, _, _, _, _, _, _, _, _, _, _, _, _]) (c := 1) (pc := 401) dX9_driftOf_401 rfl (by decide) (by decide) rfl rfl <|
            cw_goto (tgt := 96) (pc := 404) dX9_driftOf_404 (by decide) <|
            ?_
          exact fin true _ _ _ (by unfold tstB; rw [if_pos h3]; exact (decide_eq_true ht).symm)
        · refine cw_iload (pc := 96) dX9_driftOf_96 rfl <|
            cw_iload (pc := 98) dX9_driftOf_98 rfl <|
            cw_iload (pc := 100) dX9_driftOf_100 rfl <|
            cw_iadd (pc := 102) dX9_driftOf_102 <|
            cw_icmp_ge_F (tgt := 407) (pc := 103) dX9_driftOf_103 (by decide) hlo <|
            cw_aload_n (pc := 106) dX9_driftOf_106 rfl rfl <|
            cw_getR (q := 67) (t := 68) (pc := 107) dX9_driftOf_107 fX9_9 sh_67 (by decide) rfl <|
            cw_iload (pc := 110) dX9_driftOf_110 rfl <|
            cw_ial (q := 68) (jn := (base + i)) (pc := 112) dX9_driftOf_112 sh_68 hidx (by omega) (by decide) <|
            ?_
          rw [hstp', hw]
          refine cw_istore (L' := [_, _, _, _, _, _, _, _, _, _, _, _, _, _]) (pc := 113) dX9_driftOf_113 (by decide) rfl rfl <|
            cw_iload (pc := 115) dX9_driftOf_115 rfl <|
            cw_if_lt_F (tgt := 214) (pc := 117) dX9_driftOf_117 (by decide) (nI_pos (by omega)) <|
            cw_aload_n (pc := 120) dX9_driftOf_120 rfl rfl <|
            cw_getR (q := 67) (t := 71) (pc := 121) dX9_driftOf_121 fX9_21 sh_67 (by decide) rfl <|
            cw_iload (pc := 124) dX9_driftOf_124 rfl <|
            cw_bipush (v := 8) (pc := 126) dX9_driftOf_126 (by decide) <|
            cw_irem (pc := 128) dX9_driftOf_128 (by decide) <|
            cw_ial (q := 71) (jn := (c.1 / 3)) (pc := 129) dX9_driftOf_129 sh_71 w1 (by omega) (by decide) <|
            ?_
          rw [hfa]
          refine cw_istore (L' := [_, _, _, _, _, _, _, _, _, _, _, _, _, _]) (pc := 130) dX9_driftOf_130 (by decide) rfl rfl <|
            cw_iload (pc := 132) dX9_driftOf_132 rfl <|
            cw_bipush (v := 8) (pc := 134) dX9_driftOf_134 (by decide) <|
            cw_idiv (pc := 136) dX9_driftOf_136 (by decide) <|
            cw_iconst (v := 4) (pc := 137) dX9_driftOf_137 (by decide) <|
            cw_irem (pc := 138) dX9_driftOf_138 (by decide) <|
            ?_
          rw [w2, show nI (c.1 % 3) = nI 0 by rw [h3]]
          refine cw_istore (L' := [_, _, _, _, _, _, _, _, _, _, _, _, _, _]) (pc := 139) dX9_driftOf_139 (by decide) rfl rfl <|
            cw_iload (pc := 141) dX9_driftOf_141 rfl <|
            cw_bipush (v := 32) (pc := 143) dX9_driftOf_143 (by decide) <|
            cw_idiv (pc := 145) dX9_driftOf_145 (by decide) <|
            ?_
          rw [w3]
          refine cw_istore (L' := [_, _, _, _, _, _, _, _, _, _, _, _, _, _]) (pc := 146) dX9_driftOf_146 (by decide) rfl rfl <|
            cw_aload_n (pc := 148) dX9_driftOf_148 rfl rfl <|
            cw_getR (q := 67) (t := 72) (pc := 149) dX9_driftOf_149 fX9_24 sh_67 (by decide) rfl <|
            cw_iload (pc := 152) dX9_driftOf_152 rfl <|
            cw_iload (pc := 154) dX9_driftOf_154 rfl <|
            cw_if_ne_F (tgt := 174) (pc := 156) dX9_driftOf_156 (by decide) (by decide) <|
            cw_iload (pc := 159) dX9_driftOf_159 rfl <|
            cw_iload (pc := 161) dX9_driftOf_161 rfl <|
            cw_icmp_ge_T (tgt := 170) (pc := 163) dX9_driftOf_163 (by decide) (Int32.not_lt.mp ht) <|
            cw_iconst (v := 0) (pc := 170) dX9_driftOf_170 (by decide) <|
            cw_goto (tgt := 207) (pc := 171) dX9_driftOf_171 (by decide) <|
            cw_bas (q := 72) (jn := stk.length) (pc := 207) dX9_driftOf_207 sh_72 rfl (by omega) (by decide) (by decide) <|
            cw_iincL (L' := [_, _, _, _, _, _, _, _, _, _, _, _, _, _]) (c := 1) (pc := 208) dX9_driftOf_208 rfl (by decide) (by decide) rfl rfl <|
            cw_goto (tgt := 401) (pc := 211) dX9_driftOf_211 (by decide) <|
            cw_iincL (L' := [_, _, _, _, _, _, _, _, _, _, _, _, _, _]) (c := 1) (pc := 401) dX9_driftOf_401 rfl (by decide) (by decide) rfl rfl <|
            cw_goto (tgt := 96) (pc := 404) dX9_driftOf_404 (by decide) <|
            ?_
          exact fin false _ _ _ (by unfold tstB; rw [if_pos h3]; exact (decide_eq_false ht).symm)
      · by_cases ht : μ1 71 (c.1 / 3) = nI c.2
        · refine cw_iload (pc := 96) dX9_driftOf_96 rfl <|
            cw_iload (pc := 98) dX9_driftOf_98 rfl <|
            cw_iload (pc := 100) dX9_driftOf_100 rfl <|
            cw_iadd (pc := 102) dX9_driftOf_102 <|
            cw_icmp_ge_F (tgt := 407) (pc := 103) dX9_driftOf_103 (by decide) hlo <|
            cw_aload_n (pc := 106) dX9_driftOf_106 rfl rfl <|
            cw_getR (q := 67) (t := 68) (pc := 107) dX9_driftOf_107 fX9_9 sh_67 (by decide) rfl <|
            cw_iload (pc := 110) dX9_driftOf_110 rfl <|
            cw_ial (q := 68) (jn := (base + i)) (pc := 112) dX9_driftOf_112 sh_68 hidx (by omega) (by decide) <|
            ?_
          rw [hstp', hw]
          refine cw_istore (L' := [_, _, _, _, _, _, _, _, _, _, _, _, _, _]) (pc := 113) dX9_driftOf_113 (by decide) rfl rfl <|
            cw_iload (pc := 115) dX9_driftOf_115 rfl <|
            cw_if_lt_F (tgt := 214) (pc := 117) dX9_driftOf_117 (by decide) (nI_pos (by omega)) <|
            cw_aload_n (pc := 120) dX9_driftOf_120 rfl rfl <|
            cw_getR (q := 67) (t := 71) (pc := 121) dX9_driftOf_121 fX9_21 sh_67 (by decide) rfl <|
            cw_iload (pc := 124) dX9_driftOf_124 rfl <|
            cw_bipush (v := 8) (pc := 126) dX9_driftOf_126 (by decide) <|
            cw_irem (pc := 128) dX9_driftOf_128 (by decide) <|
            cw_ial (q := 71) (jn := (c.1 / 3)) (pc := 129) dX9_driftOf_129 sh_71 w1 (by omega) (by decide) <|
            ?_
          rw [hfa]
          refine cw_istore (L' := [_, _, _, _, _, _, _, _, _, _, _, _, _, _]) (pc := 130) dX9_driftOf_130 (by decide) rfl rfl <|
            cw_iload (pc := 132) dX9_driftOf_132 rfl <|
            cw_bipush (v := 8) (pc := 134) dX9_driftOf_134 (by decide) <|
            cw_idiv (pc := 136) dX9_driftOf_136 (by decide) <|
            cw_iconst (v := 4) (pc := 137) dX9_driftOf_137 (by decide) <|
            cw_irem (pc := 138) dX9_driftOf_138 (by decide) <|
            ?_
          rw [w2, show nI (c.1 % 3) = nI 1 by rw [h3]]
          refine cw_istore (L' := [_, _, _, _, _, _, _, _, _, _, _, _, _, _]) (pc := 139) dX9_driftOf_139 (by decide) rfl rfl <|
            cw_iload (pc := 141) dX9_driftOf_141 rfl <|
            cw_bipush (v := 32) (pc := 143) dX9_driftOf_143 (by decide) <|
            cw_idiv (pc := 145) dX9_driftOf_145 (by decide) <|
            ?_
          rw [w3]
          refine cw_istore (L' := [_, _, _, _, _, _, _, _, _, _, _, _, _, _]) (pc := 146) dX9_driftOf_146 (by decide) rfl rfl <|
            cw_aload_n (pc := 148) dX9_driftOf_148 rfl rfl <|
            cw_getR (q := 67) (t := 72) (pc := 149) dX9_driftOf_149 fX9_24 sh_67 (by decide) rfl <|
            cw_iload (pc := 152) dX9_driftOf_152 rfl <|
            cw_iload (pc := 154) dX9_driftOf_154 rfl <|
            cw_if_ne_T (tgt := 174) (pc := 156) dX9_driftOf_156 (by decide) (by decide) <|
            cw_iload (pc := 174) dX9_driftOf_174 rfl <|
            cw_iconst (v := 1) (pc := 176) dX9_driftOf_176 (by decide) <|
            cw_icmp_ne_F (tgt := 195) (pc := 177) dX9_driftOf_177 (by decide) rfl <|
            cw_iload (pc := 180) dX9_driftOf_180 rfl <|
            cw_iload (pc := 182) dX9_driftOf_182 rfl <|
            cw_icmp_ne_F (tgt := 191) (pc := 184) dX9_driftOf_184 (by decide) ht <|
            cw_iconst (v := 1) (pc := 187) dX9_driftOf_187 (by decide) <|
            cw_goto (tgt := 207) (pc := 188) dX9_driftOf_188 (by decide) <|
            cw_bas (q := 72) (jn := stk.length) (pc := 207) dX9_driftOf_207 sh_72 rfl (by omega) (by decide) (by decide) <|
            cw_iincL (L' := [_, _, _, _, _, _, _, _, _, _, _, _, _, _]) (c := 1) (pc := 208) dX9_driftOf_208 rfl (by decide) (by decide) rfl rfl <|
            cw_goto (tgt := 401) (pc := 211) dX9_driftOf_211 (by decide) <|
            cw_iincL (L' := [_, _, _, _, _, _, _, _, _, _, _, _, _, _]) (c := 1) (pc := 401) dX9_driftOf_401 rfl (by decide) (by decide) rfl rfl <|
            cw_goto (tgt := 96) (pc := 404) dX9_driftOf_404 (by decide) <|
            ?_
          exact fin true _ _ _ (by unfold tstB; rw [if_neg (by omega), if_pos h3]; exact (decide_eq_true ht).symm)
        · refine cw_iload (pc := 96) dX9_driftOf_96 rfl <|
            cw_iload (pc := 98) dX9_driftOf_98 rfl <|
            cw_iload (pc := 100) dX9_driftOf_100 rfl <|
            cw_iadd (pc := 102) dX9_driftOf_102 <|
            cw_icmp_ge_F (tgt := 407) (pc := 103) dX9_driftOf_103 (by decide) hlo <|
            cw_aload_n (pc := 106) dX9_driftOf_106 rfl rfl <|
            cw_getR (q := 67) (t := 68) (pc := 107) dX9_driftOf_107 fX9_9 sh_67 (by decide) rfl <|
            cw_iload (pc := 110) dX9_driftOf_110 rfl <|
            cw_ial (q := 68) (jn := (base + i)) (pc := 112) dX9_driftOf_112 sh_68 hidx (by omega) (by decide) <|
            ?_
          rw [hstp', hw]
          refine cw_istore (L' := [_, _, _, _, _, _, _, _, _, _, _, _, _, _]) (pc := 113) dX9_driftOf_113 (by decide) rfl rfl <|
            cw_iload (pc := 115) dX9_driftOf_115 rfl <|
            cw_if_lt_F (tgt := 214) (pc := 117) dX9_driftOf_117 (by decide) (nI_pos (by omega)) <|
            cw_aload_n (pc := 120) dX9_driftOf_120 rfl rfl <|
            cw_getR (q := 67) (t := 71) (pc := 121) dX9_driftOf_121 fX9_21 sh_67 (by decide) rfl <|
            cw_iload (pc := 124) dX9_driftOf_124 rfl <|
            cw_bipush (v := 8) (pc := 126) dX9_driftOf_126 (by decide) <|
            cw_irem (pc := 128) dX9_driftOf_128 (by decide) <|
            cw_ial (q := 71) (jn := (c.1 / 3)) (pc := 129) dX9_driftOf_129 sh_71 w1 (by omega) (by decide) <|
            ?_
          rw [hfa]
          refine cw_istore (L' := [_, _, _, _, _, _, _, _, _, _, _, _, _, _]) (pc := 130) dX9_driftOf_130 (by decide) rfl rfl <|
            cw_iload (pc := 132) dX9_driftOf_132 rfl <|
            cw_bipush (v := 8) (pc := 134) dX9_driftOf_134 (by decide) <|
            cw_idiv (pc := 136) dX9_driftOf_136 (by decide) <|
            cw_iconst (v := 4) (pc := 137) dX9_driftOf_137 (by decide) <|
            cw_irem (pc := 138) dX9_driftOf_138 (by decide) <|
            ?_
          rw [w2, show nI (c.1 % 3) = nI 1 by rw [h3]]
          refine cw_istore (L' := [_, _, _, _, _, _, _, _, _, _, _, _, _, _]) (pc := 139) dX9_driftOf_139 (by decide) rfl rfl <|
            cw_iload (pc := 141) dX9_driftOf_141 rfl <|
            cw_bipush (v := 32) (pc := 143) dX9_driftOf_143 (by decide) <|
            cw_idiv (pc := 145) dX9_driftOf_145 (by decide) <|
            ?_
          rw [w3]
          refine cw_istore (L' := [_, _, _, _, _, _, _, _, _, _, _, _, _, _]) (pc := 146) dX9_driftOf_146 (by decide) rfl rfl <|
            cw_aload_n (pc := 148) dX9_driftOf_148 rfl rfl <|
            cw_getR (q := 67) (t := 72) (pc := 149) dX9_driftOf_149 fX9_24 sh_67 (by decide) rfl <|
            cw_iload (pc := 152) dX9_driftOf_152 rfl <|
            cw_iload (pc := 154) dX9_driftOf_154 rfl <|
            cw_if_ne_T (tgt := 174) (pc := 156) dX9_driftOf_156 (by decide) (by decide) <|
            cw_iload (pc := 174) dX9_driftOf_174 rfl <|
            cw_iconst (v := 1) (pc := 176) dX9_driftOf_176 (by decide) <|
            cw_icmp_ne_F (tgt := 195) (pc := 177) dX9_driftOf_177 (by decide) rfl <|
            cw_iload (pc := 180) dX9_driftOf_180 rfl <|
            cw_iload (pc := 182) dX9_driftOf_182 rfl <|
            cw_icmp_ne_T (tgt := 191) (pc := 184) dX9_driftOf_184 (by decide) ht <|
            cw_iconst (v := 0) (pc := 191) dX9_driftOf_191 (by decide) <|
            cw_goto (tgt := 207) (pc := 192) dX9_driftOf_192 (by decide) <|
            cw_bas (q := 72) (jn := stk.length) (pc := 207) dX9_driftOf_207 sh_72 rfl (by omega) (by decide) (by decide) <|
            cw_iincL (L' := [_, _, _, _, _, _, _, _, _, _, _, _, _, _]) (c := 1) (pc := 208) dX9_driftOf_208 rfl (by decide) (by decide) rfl rfl <|
            cw_goto (tgt := 401) (pc := 211) dX9_driftOf_211 (by decide) <|
            cw_iincL (L' := [_, _, _, _, _, _, _, _, _, _, _, _, _, _]) (c := 1) (pc := 401) dX9_driftOf_401 rfl (by decide) (by decide) rfl rfl <|
            cw_goto (tgt := 96) (pc := 404) dX9_driftOf_404 (by decide) <|
            ?_
          exact fin false _ _ _ (by unfold tstB; rw [if_neg (by omega), if_pos h3]; exact (decide_eq_false ht).symm)
      · by_cases ht : nI c.2 < μ1 71 (c.1 / 3)
        · refine cw_iload (pc := 96) dX9_driftOf_96 rfl <|
            cw_iload (pc := 98) dX9_driftOf_98 rfl <|
            cw_iload (pc := 100) dX9_driftOf_100 rfl <|
            cw_iadd (pc := 102) dX9_driftOf_102 <|
            cw_icmp_ge_F (tgt := 407) (pc := 103) dX9_driftOf_103 (by decide) hlo <|
            cw_aload_n (pc := 106) dX9_driftOf_106 rfl rfl <|
            cw_getR (q := 67) (t := 68) (pc := 107) dX9_driftOf_107 fX9_9 sh_67 (by decide) rfl <|
            cw_iload (pc := 110) dX9_driftOf_110 rfl <|
            cw_ial (q := 68) (jn := (base + i)) (pc := 112) dX9_driftOf_112 sh_68 hidx (by omega) (by decide) <|
            ?_
          rw [hstp', hw]
          refine cw_istore (L' := [_, _, _, _, _, _, _, _, _, _, _, _, _, _]) (pc := 113) dX9_driftOf_113 (by decide) rfl rfl <|
            cw_iload (pc := 115) dX9_driftOf_115 rfl <|
            cw_if_lt_F (tgt := 214) (pc := 117) dX9_driftOf_117 (by decide) (nI_pos (by omega)) <|
            cw_aload_n (pc := 120) dX9_driftOf_120 rfl rfl <|
            cw_getR (q := 67) (t := 71) (pc := 121) dX9_driftOf_121 fX9_21 sh_67 (by decide) rfl <|
            cw_iload (pc := 124) dX9_driftOf_124 rfl <|
            cw_bipush (v := 8) (pc := 126) dX9_driftOf_126 (by decide) <|
            cw_irem (pc := 128) dX9_driftOf_128 (by decide) <|
            cw_ial (q := 71) (jn := (c.1 / 3)) (pc := 129) dX9_driftOf_129 sh_71 w1 (by omega) (by decide) <|
            ?_
          rw [hfa]
          refine cw_istore (L' := [_, _, _, _, _, _, _, _, _, _, _, _, _, _]) (pc := 130) dX9_driftOf_130 (by decide) rfl rfl <|
            cw_iload (pc := 132) dX9_driftOf_132 rfl <|
            cw_bipush (v := 8) (pc := 134) dX9_driftOf_134 (by decide) <|
            cw_idiv (pc := 136) dX9_driftOf_136 (by decide) <|
            cw_iconst (v := 4) (pc := 137) dX9_driftOf_137 (by decide) <|
            cw_irem (pc := 138) dX9_driftOf_138 (by decide) <|
            ?_
          rw [w2, show nI (c.1 % 3) = nI 2 by rw [h3]]
          refine cw_istore (L' := [_, _, _, _, _, _, _, _, _, _, _, _, _, _]) (pc := 139) dX9_driftOf_139 (by decide) rfl rfl <|
            cw_iload (pc := 141) dX9_driftOf_141 rfl <|
            cw_bipush (v := 32) (pc := 143) dX9_driftOf_143 (by decide) <|
            cw_idiv (pc := 145) dX9_driftOf_145 (by decide) <|
            ?_
          rw [w3]
          refine cw_istore (L' := [_, _, _, _, _, _, _, _, _, _, _, _, _, _]) (pc := 146) dX9_driftOf_146 (by decide) rfl rfl <|
            cw_aload_n (pc := 148) dX9_driftOf_148 rfl rfl <|
            cw_getR (q := 67) (t := 72) (pc := 149) dX9_driftOf_149 fX9_24 sh_67 (by decide) rfl <|
            cw_iload (pc := 152) dX9_driftOf_152 rfl <|
            cw_iload (pc := 154) dX9_driftOf_154 rfl <|
            cw_if_ne_T (tgt := 174) (pc := 156) dX9_driftOf_156 (by decide) (by decide) <|
            cw_iload (pc := 174) dX9_driftOf_174 rfl <|
            cw_iconst (v := 1) (pc := 176) dX9_driftOf_176 (by decide) <|
            cw_icmp_ne_T (tgt := 195) (pc := 177) dX9_driftOf_177 (by decide) (by decide) <|
            cw_iload (pc := 195) dX9_driftOf_195 rfl <|
            cw_iload (pc := 197) dX9_driftOf_197 rfl <|
            cw_icmp_le_F (tgt := 206) (pc := 199) dX9_driftOf_199 (by decide) (Int32.not_le.mpr ht) <|
            cw_iconst (v := 1) (pc := 202) dX9_driftOf_202 (by decide) <|
            cw_goto (tgt := 207) (pc := 203) dX9_driftOf_203 (by decide) <|
            cw_bas (q := 72) (jn := stk.length) (pc := 207) dX9_driftOf_207 sh_72 rfl (by omega) (by decide) (by decide) <|
            cw_iincL (L' := [_, _, _, _, _, _, _, _, _, _, _, _, _, _]) (c := 1) (pc := 208) dX9_driftOf_208 rfl (by decide) (by decide) rfl rfl <|
            cw_goto (tgt := 401) (pc := 211) dX9_driftOf_211 (by decide) <|
            cw_iincL (L' := [_, _, _, _, _, _, _, _, _, _, _, _, _, _]) (c := 1) (pc := 401) dX9_driftOf_401 rfl (by decide) (by decide) rfl rfl <|
            cw_goto (tgt := 96) (pc := 404) dX9_driftOf_404 (by decide) <|
            ?_
          exact fin true _ _ _ (by unfold tstB; rw [if_neg (by omega), if_neg (by omega)]; exact (decide_eq_true ht).symm)
        · refine cw_iload (pc := 96) dX9_driftOf_96 rfl <|
            cw_iload (pc := 98) dX9_driftOf_98 rfl <|
            cw_iload (pc := 100) dX9_driftOf_100 rfl <|
            cw_iadd (pc := 102) dX9_driftOf_102 <|
            cw_icmp_ge_F (tgt := 407) (pc := 103) dX9_driftOf_103 (by decide) hlo <|
            cw_aload_n (pc := 106) dX9_driftOf_106 rfl rfl <|
            cw_getR (q := 67) (t := 68) (pc := 107) dX9_driftOf_107 fX9_9 sh_67 (by decide) rfl <|
            cw_iload (pc := 110) dX9_driftOf_110 rfl <|
            cw_ial (q := 68) (jn := (base + i)) (pc := 112) dX9_driftOf_112 sh_68 hidx (by omega) (by decide) <|
            ?_
          rw [hstp', hw]
          refine cw_istore (L' := [_, _, _, _, _, _, _, _, _, _, _, _, _, _]) (pc := 113) dX9_driftOf_113 (by decide) rfl rfl <|
            cw_iload (pc := 115) dX9_driftOf_115 rfl <|
            cw_if_lt_F (tgt := 214) (pc := 117) dX9_driftOf_117 (by decide) (nI_pos (by omega)) <|
            cw_aload_n (pc := 120) dX9_driftOf_120 rfl rfl <|
            cw_getR (q := 67) (t := 71) (pc := 121) dX9_driftOf_121 fX9_21 sh_67 (by decide) rfl <|
            cw_iload (pc := 124) dX9_driftOf_124 rfl <|
            cw_bipush (v := 8) (pc := 126) dX9_driftOf_126 (by decide) <|
            cw_irem (pc := 128) dX9_driftOf_128 (by decide) <|
            cw_ial (q := 71) (jn := (c.1 / 3)) (pc := 129) dX9_driftOf_129 sh_71 w1 (by omega) (by decide) <|
            ?_
          rw [hfa]
          refine cw_istore (L' := [_, _, _, _, _, _, _, _, _, _, _, _, _, _]) (pc := 130) dX9_driftOf_130 (by decide) rfl rfl <|
            cw_iload (pc := 132) dX9_driftOf_132 rfl <|
            cw_bipush (v := 8) (pc := 134) dX9_driftOf_134 (by decide) <|
            cw_idiv (pc := 136) dX9_driftOf_136 (by decide) <|
            cw_iconst (v := 4) (pc := 137) dX9_driftOf_137 (by decide) <|
            cw_irem (pc := 138) dX9_driftOf_138 (by decide) <|
            ?_
          rw [w2, show nI (c.1 % 3) = nI 2 by rw [h3]]
          refine cw_istore (L' := [_, _, _, _, _, _, _, _, _, _, _, _, _, _]) (pc := 139) dX9_driftOf_139 (by decide) rfl rfl <|
            cw_iload (pc := 141) dX9_driftOf_141 rfl <|
            cw_bipush (v := 32) (pc := 143) dX9_driftOf_143 (by decide) <|
            cw_idiv (pc := 145) dX9_driftOf_145 (by decide) <|
            ?_
          rw [w3]
          refine cw_istore (L' := [_, _, _, _, _, _, _, _, _, _, _, _, _, _]) (pc := 146) dX9_driftOf_146 (by decide) rfl rfl <|
            cw_aload_n (pc := 148) dX9_driftOf_148 rfl rfl <|
            cw_getR (q := 67) (t := 72) (pc := 149) dX9_driftOf_149 fX9_24 sh_67 (by decide) rfl <|
            cw_iload (pc := 152) dX9_driftOf_152 rfl <|
            cw_iload (pc := 154) dX9_driftOf_154 rfl <|
            cw_if_ne_T (tgt := 174) (pc := 156) dX9_driftOf_156 (by decide) (by decide) <|
            cw_iload (pc := 174) dX9_driftOf_174 rfl <|
            cw_iconst (v := 1) (pc := 176) dX9_driftOf_176 (by decide) <|
            cw_icmp_ne_T (tgt := 195) (pc := 177) dX9_driftOf_177 (by decide) (by decide) <|
            cw_iload (pc := 195) dX9_driftOf_195 rfl <|
            cw_iload (pc := 197) dX9_driftOf_197 rfl <|
            cw_icmp_le_T (tgt := 206) (pc := 199) dX9_driftOf_199 (by decide) (Int32.not_lt.mp ht) <|
            cw_iconst (v := 0) (pc := 206) dX9_driftOf_206 (by decide) <|
            cw_bas (q := 72) (jn := stk.length) (pc := 207) dX9_driftOf_207 sh_72 rfl (by omega) (by decide) (by decide) <|
            cw_iincL (L' := [_, _, _, _, _, _, _, _, _, _, _, _, _, _]) (c := 1) (pc := 208) dX9_driftOf_208 rfl (by decide) (by decide) rfl rfl <|
            cw_goto (tgt := 401) (pc := 211) dX9_driftOf_211 (by decide) <|
            cw_iincL (L' := [_, _, _, _, _, _, _, _, _, _, _, _, _, _]) (c := 1) (pc := 401) dX9_driftOf_401 rfl (by decide) (by decide) rfl rfl <|
            cw_goto (tgt := 96) (pc := 404) dX9_driftOf_404 (by decide) <|
            ?_
          exact fin false _ _ _ (by unfold tstB; rw [if_neg (by omega), if_neg (by omega)]; exact (decide_eq_false ht).symm)
    · obtain ⟨k1, k2⟩ := g4 e
      have hw : mst c = -1 := by unfold mst; rw [if_neg (by omega), if_pos e]
      obtain ⟨b, t, rfl⟩ : ∃ b t, stk = b :: t := by cases stk with | nil => simp at k1 | cons b t => exact ⟨b, t, rfl⟩
      have hsb : nI (b :: t).length - 1 = nI t.length := by rw [List.length_cons]; exact nI_s1 (by omega)
      have hlt : t.length ≤ 13 := by simp at hl14; omega
      have hb0 := hsk.1
      cases b
      · refine cw_iload (pc := 96) dX9_driftOf_96 rfl <|
          cw_iload (pc := 98) dX9_driftOf_98 rfl <|
          cw_iload (pc := 100) dX9_driftOf_100 rfl <|
          cw_iadd (pc := 102) dX9_driftOf_102 <|
          cw_icmp_ge_F (tgt := 407) (pc := 103) dX9_driftOf_103 (by decide) hlo <|
          cw_aload_n (pc := 106) dX9_driftOf_106 rfl rfl <|
          cw_getR (q := 67) (t := 68) (pc := 107) dX9_driftOf_107 fX9_9 sh_67 (by decide) rfl <|
          cw_iload (pc := 110) dX9_driftOf_110 rfl <|
          cw_ial (q := 68) (jn := (base + i)) (pc := 112) dX9_driftOf_112 sh_68 hidx (by omega) (by decide) <|
          ?_
        rw [hstp', hw]
        refine cw_istore (L' := [_, _, _, _, _, _, _, _, _, _, _, _, _, _]) (pc := 113) dX9_driftOf_113 (by decide) rfl rfl <|
          cw_iload (pc := 115) dX9_driftOf_115 rfl <|
          cw_if_lt_T (tgt := 214) (pc := 117) dX9_driftOf_117 (by decide) (by decide) <|
          cw_iload (pc := 214) dX9_driftOf_214 rfl <|
          cw_iconst (v := -1) (pc := 216) dX9_driftOf_216 (by decide) <|
          cw_icmp_ne_F (tgt := 249) (pc := 217) dX9_driftOf_217 (by decide) rfl <|
          cw_aload_n (pc := 220) dX9_driftOf_220 rfl rfl <|
          cw_getR (q := 67) (t := 72) (pc := 221) dX9_driftOf_221 fX9_24 sh_67 (by decide) rfl <|
          cw_iload (pc := 224) dX9_driftOf_224 rfl <|
          cw_iconst (v := 1) (pc := 226) dX9_driftOf_226 (by decide) <|
          cw_isub (pc := 227) dX9_driftOf_227 <|
          cw_aload_n (pc := 228) dX9_driftOf_228 rfl rfl <|
          cw_getR (q := 67) (t := 72) (pc := 229) dX9_driftOf_229 fX9_24 sh_67 (by decide) rfl <|
          cw_iload (pc := 232) dX9_driftOf_232 rfl <|
          cw_iconst (v := 1) (pc := 234) dX9_driftOf_234 (by decide) <|
          cw_isub (pc := 235) dX9_driftOf_235 <|
          cw_bal (q := 72) (jn := t.length) (pc := 236) dX9_driftOf_236 sh_72 hsb (by omega) (by decide) <|
          ?_
        rw [hb0]
        refine cw_if_ne_F (tgt := 244) (pc := 237) dX9_driftOf_237 (by decide) rfl <|
          cw_iconst (v := 1) (pc := 240) dX9_driftOf_240 (by decide) <|
          cw_goto (tgt := 245) (pc := 241) dX9_driftOf_241 (by decide) <|
          cw_bas (q := 72) (jn := t.length) (pc := 245) dX9_driftOf_245 sh_72 hsb (by omega) (by decide) (by decide) <|
          cw_goto (tgt := 401) (pc := 246) dX9_driftOf_246 (by decide) <|
          cw_iincL (L' := [_, _, _, _, _, _, _, _, _, _, _, _, _, _]) (c := 1) (pc := 401) dX9_driftOf_401 rfl (by decide) (by decide) rfl rfl <|
          cw_goto (tgt := 96) (pc := 404) dX9_driftOf_404 (by decide) <|
          ?_
        exact nxt (true :: t, s) _ _ _ _ _ _ _ (by simp [dst, e]) rfl rfl ⟨by rw [st_eq]; rfl, hsk.2.up _ (fun j hj => by rw [st_at, if_neg (by omega)])⟩ (Same.rf.s1 rfl) (by simpa using hl14) (by simpa using k2)
      · refine cw_iload (pc := 96) dX9_driftOf_96 rfl <|
          cw_iload (pc := 98) dX9_driftOf_98 rfl <|
          cw_iload (pc := 100) dX9_driftOf_100 rfl <|
          cw_iadd (pc := 102) dX9_driftOf_102 <|
          cw_icmp_ge_F (tgt := 407) (pc := 103) dX9_driftOf_103 (by decide) hlo <|
          cw_aload_n (pc := 106) dX9_driftOf_106 rfl rfl <|
          cw_getR (q := 67) (t := 68) (pc := 107) dX9_driftOf_107 fX9_9 sh_67 (by decide) rfl <|
          cw_iload (pc := 110) dX9_driftOf_110 rfl <|
          cw_ial (q := 68) (jn := (base + i)) (pc := 112) dX9_driftOf_112 sh_68 hidx (by omega) (by decide) <|
          ?_
        rw [hstp', hw]
        refine cw_istore (L' := [_, _, _, _, _, _, _, _, _, _, _, _, _, _]) (pc := 113) dX9_driftOf_113 (by decide) rfl rfl <|
          cw_iload (pc := 115) dX9_driftOf_115 rfl <|
          cw_if_lt_T (tgt := 214) (pc := 117) dX9_driftOf_117 (by decide) (by decide) <|
          cw_iload (pc := 214) dX9_driftOf_214 rfl <|
          cw_iconst (v := -1) (pc := 216) dX9_driftOf_216 (by decide) <|
          cw_icmp_ne_F (tgt := 249) (pc := 217) dX9_driftOf_217 (by decide) rfl <|
          cw_aload_n (pc := 220) dX9_driftOf_220 rfl rfl <|
          cw_getR (q := 67) (t := 72) (pc := 221) dX9_driftOf_221 fX9_24 sh_67 (by decide) rfl <|
          cw_iload (pc := 224) dX9_driftOf_224 rfl <|
          cw_iconst (v := 1) (pc := 226) dX9_driftOf_226 (by decide) <|
          cw_isub (pc := 227) dX9_driftOf_227 <|
          cw_aload_n (pc := 228) dX9_driftOf_228 rfl rfl <|
          cw_getR (q := 67) (t := 72) (pc := 229) dX9_driftOf_229 fX9_24 sh_67 (by decide) rfl <|
          cw_iload (pc := 232) dX9_driftOf_232 rfl <|
          cw_iconst (v := 1) (pc := 234) dX9_driftOf_234 (by decide) <|
          cw_isub (pc := 235) dX9_driftOf_235 <|
          cw_bal (q := 72) (jn := t.length) (pc := 236) dX9_driftOf_236 sh_72 hsb (by omega) (by decide) <|
          ?_
        rw [hb0]
        refine cw_if_ne_T (tgt := 244) (pc := 237) dX9_driftOf_237 (by decide) (by decide) <|
          cw_iconst (v := 0) (pc := 244) dX9_driftOf_244 (by decide) <|
          cw_bas (q := 72) (jn := t.length) (pc := 245) dX9_driftOf_245 sh_72 hsb (by omega) (by decide) (by decide) <|
          cw_goto (tgt := 401) (pc := 246) dX9_driftOf_246 (by decide) <|
          cw_iincL (L' := [_, _, _, _, _, _, _, _, _, _, _, _, _, _]) (c := 1) (pc := 401) dX9_driftOf_401 rfl (by decide) (by decide) rfl rfl <|
          cw_goto (tgt := 96) (pc := 404) dX9_driftOf_404 (by decide) <|
          ?_
        exact nxt (false :: t, s) _ _ _ _ _ _ _ (by simp [dst, e]) rfl rfl ⟨by rw [st_eq]; rfl, hsk.2.up _ (fun j hj => by rw [st_at, if_neg (by omega)])⟩ (Same.rf.s1 rfl) (by simpa using hl14) (by simpa using k2)
    · obtain ⟨k1, k2⟩ := g5 (by omega)
      have hw : mst c = -2 := by unfold mst; rw [if_neg (by omega), if_neg (by omega), if_pos e]
      obtain ⟨b, a, t, rfl⟩ : ∃ b a t, stk = b :: a :: t := by match stk, k1 with | [], k1 => simp at k1 | [b], k1 => simp at k1 | b :: a :: t, _ => exact ⟨b, a, t, rfl⟩
      have hd1 : nI (b :: a :: t).length + -1 = nI (t.length + 1) := by rw [List.length_cons, List.length_cons, ← Int32.sub_eq_add_neg]; exact nI_s1 (l := t.length + 1 + 1) (by omega)
      have hsb : nI (t.length + 1) - 1 = nI t.length := nI_s1 (by omega)
      have hlt : t.length ≤ 12 := by simp at hl14; omega
      have hb0 : μ' 72 (t.length + 1) = (if b then 1 else 0) := hsk.1
      have ha0 : μ' 72 t.length = (if a then 1 else 0) := hsk.2.1
      cases a <;> cases b
      · refine cw_iload (pc := 96) dX9_driftOf_96 rfl <|
          cw_iload (pc := 98) dX9_driftOf_98 rfl <|
          cw_iload (pc := 100) dX9_driftOf_100 rfl <|
          cw_iadd (pc := 102) dX9_driftOf_102 <|
          cw_icmp_ge_F (tgt := 407) (pc := 103) dX9_driftOf_103 (by decide) hlo <|
          cw_aload_n (pc := 106) dX9_driftOf_106 rfl rfl <|
          cw_getR (q := 67) (t := 68) (pc := 107) dX9_driftOf_107 fX9_9 sh_67 (by decide) rfl <|
          cw_iload (pc := 110) dX9_driftOf_110 rfl <|
          cw_ial (q := 68) (jn := (base + i)) (pc := 112) dX9_driftOf_112 sh_68 hidx (by omega) (by decide) <|
          ?_
        rw [hstp', hw]
        refine cw_istore (L' := [_, _, _, _, _, _, _, _, _, _, _, _, _, _]) (pc := 113) dX9_driftOf_113 (by decide) rfl rfl <|
          cw_iload (pc := 115) dX9_driftOf_115 rfl <|
          cw_if_lt_T (tgt := 214) (pc := 117) dX9_driftOf_117 (by decide) (by decide) <|
          cw_iload (pc := 214) dX9_driftOf_214 rfl <|
          cw_iconst (v := -1) (pc := 216) dX9_driftOf_216 (by decide) <|
          cw_icmp_ne_T (tgt := 249) (pc := 217) dX9_driftOf_217 (by decide) (by decide) <|
          cw_iload (pc := 249) dX9_driftOf_249 rfl <|
          cw_bipush (v := -10) (pc := 251) dX9_driftOf_251 (by decide) <|
          cw_icmp_le_F (tgt := 335) (pc := 253) dX9_driftOf_253 (by decide) (by decide) <|
          cw_iincL (L' := [_, _, _, _, _, _, _, _, _, _, _, _, _, _]) (c := -1) (pc := 256) dX9_driftOf_256 rfl (by decide) (by decide) rfl rfl <|
          ?_
        rw [hd1]
        refine cw_aload_n (pc := 259) dX9_driftOf_259 rfl rfl <|
          cw_getR (q := 67) (t := 72) (pc := 260) dX9_driftOf_260 fX9_24 sh_67 (by decide) rfl <|
          cw_iload (pc := 263) dX9_driftOf_263 rfl <|
          cw_iconst (v := 1) (pc := 265) dX9_driftOf_265 (by decide) <|
          cw_isub (pc := 266) dX9_driftOf_266 <|
          cw_iload (pc := 267) dX9_driftOf_267 rfl <|
          cw_bipush (v := -2) (pc := 269) dX9_driftOf_269 (by decide) <|
          cw_icmp_ne_F (tgt := 304) (pc := 271) dX9_driftOf_271 (by decide) rfl <|
          cw_aload_n (pc := 274) dX9_driftOf_274 rfl rfl <|
          cw_getR (q := 67) (t := 72) (pc := 275) dX9_driftOf_275 fX9_24 sh_67 (by decide) rfl <|
          cw_iload (pc := 278) dX9_driftOf_278 rfl <|
          cw_iconst (v := 1) (pc := 280) dX9_driftOf_280 (by decide) <|
          cw_isub (pc := 281) dX9_driftOf_281 <|
          cw_bal (q := 72) (jn := t.length) (pc := 282) dX9_driftOf_282 sh_72 hsb (by omega) (by decide) <|
          ?_
        rw [ha0]
        refine cw_if_eq_T (tgt := 300) (pc := 283) dX9_driftOf_283 (by decide) rfl <|
          cw_iconst (v := 0) (pc := 300) dX9_driftOf_300 (by decide) <|
          cw_goto (tgt := 331) (pc := 301) dX9_driftOf_301 (by decide) <|
          cw_bas (q := 72) (jn := t.length) (pc := 331) dX9_driftOf_331 sh_72 hsb (by omega) (by decide) (by decide) <|
          cw_goto (tgt := 401) (pc := 332) dX9_driftOf_332 (by decide) <|
          cw_iincL (L' := [_, _, _, _, _, _, _, _, _, _, _, _, _, _]) (c := 1) (pc := 401) dX9_driftOf_401 rfl (by decide) (by decide) rfl rfl <|
          cw_goto (tgt := 96) (pc := 404) dX9_driftOf_404 (by decide) <|
          ?_
        exact nxt (false :: t, s) _ _ _ _ _ _ _ (by simp [dst, e]) rfl rfl ⟨by rw [st_eq]; rfl, hsk.2.2.up _ (fun j hj => by rw [st_at, if_neg (by omega)])⟩ (Same.rf.s1 rfl) (by simp; omega) (by simpa using k2)
      · refine cw_iload (pc := 96) dX9_driftOf_96 rfl <|
          cw_iload (pc := 98) dX9_driftOf_98 rfl <|
          cw_iload (pc := 100) dX9_driftOf_100 rfl <|
          cw_iadd (pc := 102) dX9_driftOf_102 <|
          cw_icmp_ge_F (tgt := 407) (pc := 103) dX9_driftOf_103 (by decide) hlo <|
          cw_aload_n (pc := 106) dX9_driftOf_106 rfl rfl <|
          cw_getR (q := 67) (t := 68) (pc := 107) dX9_driftOf_107 fX9_9 sh_67 (by decide) rfl <|
          cw_iload (pc := 110) dX9_driftOf_110 rfl <|
          cw_ial (q := 68) (jn := (base + i)) (pc := 112) dX9_driftOf_112 sh_68 hidx (by omega) (by decide) <|
          ?_
        rw [hstp', hw]
        refine cw_istore (L' := [_, _, _, _, _, _, _, _, _, _, _, _, _, _]) (pc := 113) dX9_driftOf_113 (by decide) rfl rfl <|
          cw_iload (pc := 115) dX9_driftOf_115 rfl <|
          cw_if_lt_T (tgt := 214) (pc := 117) dX9_driftOf_117 (by decide) (by decide) <|
          cw_iload (pc := 214) dX9_driftOf_214 rfl <|
          cw_iconst (v := -1) (pc := 216) dX9_driftOf_216 (by decide) <|
          cw_icmp_ne_T (tgt := 249) (pc := 217) dX9_driftOf_217 (by decide) (by decide) <|
          cw_iload (pc := 249) dX9_driftOf_249 rfl <|
          cw_bipush (v := -10) (pc := 251) dX9_driftOf_251 (by decide) <|
          cw_icmp_le_F (tgt := 335) (pc := 253) dX9_driftOf_253 (by decide) (by decide) <|
          cw_iincL (L' := [_, _, _, _, _, _, _, _, _, _, _, _, _, _]) (c := -1) (pc := 256) dX9_driftOf_256 rfl (by decide) (by decide) rfl rfl <|
          ?_
        rw [hd1]
        refine cw_aload_n (pc := 259) dX9_driftOf_259 rfl rfl <|
          cw_getR (q := 67) (t := 72) (pc := 260) dX9_driftOf_260 fX9_24 sh_67 (by decide) rfl <|
          cw_iload (pc := 263) dX9_driftOf_263 rfl <|
          cw_iconst (v := 1) (pc := 265) dX9_driftOf_265 (by decide) <|
          cw_isub (pc := 266) dX9_driftOf_266 <|
          cw_iload (pc := 267) dX9_driftOf_267 rfl <|
          cw_bipush (v := -2) (pc := 269) dX9_driftOf_269 (by decide) <|
          cw_icmp_ne_F (tgt := 304) (pc := 271) dX9_driftOf_271 (by decide) rfl <|
          cw_aload_n (pc := 274) dX9_driftOf_274 rfl rfl <|
          cw_getR (q := 67) (t := 72) (pc := 275) dX9_driftOf_275 fX9_24 sh_67 (by decide) rfl <|
          cw_iload (pc := 278) dX9_driftOf_278 rfl <|
          cw_iconst (v := 1) (pc := 280) dX9_driftOf_280 (by decide) <|
          cw_isub (pc := 281) dX9_driftOf_281 <|
          cw_bal (q := 72) (jn := t.length) (pc := 282) dX9_driftOf_282 sh_72 hsb (by omega) (by decide) <|
          ?_
        rw [ha0]
        refine cw_if_eq_T (tgt := 300) (pc := 283) dX9_driftOf_283 (by decide) rfl <|
          cw_iconst (v := 0) (pc := 300) dX9_driftOf_300 (by decide) <|
          cw_goto (tgt := 331) (pc := 301) dX9_driftOf_301 (by decide) <|
          cw_bas (q := 72) (jn := t.length) (pc := 331) dX9_driftOf_331 sh_72 hsb (by omega) (by decide) (by decide) <|
          cw_goto (tgt := 401) (pc := 332) dX9_driftOf_332 (by decide) <|
          cw_iincL (L' := [_, _, _, _, _, _, _, _, _, _, _, _, _, _]) (c := 1) (pc := 401) dX9_driftOf_401 rfl (by decide) (by decide) rfl rfl <|
          cw_goto (tgt := 96) (pc := 404) dX9_driftOf_404 (by decide) <|
          ?_
        exact nxt (false :: t, s) _ _ _ _ _ _ _ (by simp [dst, e]) rfl rfl ⟨by rw [st_eq]; rfl, hsk.2.2.up _ (fun j hj => by rw [st_at, if_neg (by omega)])⟩ (Same.rf.s1 rfl) (by simp; omega) (by simpa using k2)
      · refine cw_iload (pc := 96) dX9_driftOf_96 rfl <|
          cw_iload (pc := 98) dX9_driftOf_98 rfl <|
          cw_iload (pc := 100) dX9_driftOf_100 rfl <|
          cw_iadd (pc := 102) dX9_driftOf_102 <|
          cw_icmp_ge_F (tgt := 407) (pc := 103) dX9_driftOf_103 (by decide) hlo <|
          cw_aload_n (pc := 106) dX9_driftOf_106 rfl rfl <|
          cw_getR (q := 67) (t := 68) (pc := 107) dX9_driftOf_107 fX9_9 sh_67 (by decide) rfl <|
          cw_iload (pc := 110) dX9_driftOf_110 rfl <|
          cw_ial (q := 68) (jn := (base + i)) (pc := 112) dX9_driftOf_112 sh_68 hidx (by omega) (by decide) <|
          ?_
        rw [hstp', hw]
        refine cw_istore (L' := [_, _, _, _, _, _, _, _, _, _, _, _, _, _]) (pc := 113) dX9_driftOf_113 (by decide) rfl rfl <|
          cw_iload (pc := 115) dX9_driftOf_115 rfl <|
          cw_if_lt_T (tgt := 214) (pc := 117) dX9_driftOf_117 (by decide) (by decide) <|
          cw_iload (pc := 214) dX9_driftOf_214 rfl <|
          cw_iconst (v := -1) (pc := 216) dX9_driftOf_216 (by decide) <|
          cw_icmp_ne_T (tgt := 249) (pc := 217) dX9_driftOf_217 (by decide) (by decide) <|
          cw_iload (pc := 249) dX9_driftOf_249 rfl <|
          cw_bipush (v := -10) (pc := 251) dX9_driftOf_251 (by decide) <|
          cw_icmp_le_F (tgt := 335) (pc := 253) dX9_driftOf_253 (by decide) (by decide) <|
          cw_iincL (L' := [_, _, _, _, _, _, _, _, _, _, _, _, _, _]) (c := -1) (pc := 256) dX9_driftOf_256 rfl (by decide) (by decide) rfl rfl <|
          ?_
        rw [hd1]
        refine cw_aload_n (pc := 259) dX9_driftOf_259 rfl rfl <|
          cw_getR (q := 67) (t := 72) (pc := 260) dX9_driftOf_260 fX9_24 sh_67 (by decide) rfl <|
          cw_iload (pc := 263) dX9_driftOf_263 rfl <|
          cw_iconst (v := 1) (pc := 265) dX9_driftOf_265 (by decide) <|
          cw_isub (pc := 266) dX9_driftOf_266 <|
          cw_iload (pc := 267) dX9_driftOf_267 rfl <|
          cw_bipush (v := -2) (pc := 269) dX9_driftOf_269 (by decide) <|
          cw_icmp_ne_F (tgt := 304) (pc := 271) dX9_driftOf_271 (by decide) rfl <|
          cw_aload_n (pc := 274) dX9_driftOf_274 rfl rfl <|
          cw_getR (q := 67) (t := 72) (pc := 275) dX9_driftOf_275 fX9_24 sh_67 (by decide) rfl <|
          cw_iload (pc := 278) dX9_driftOf_278 rfl <|
          cw_iconst (v := 1) (pc := 280) dX9_driftOf_280 (by decide) <|
          cw_isub (pc := 281) dX9_driftOf_281 <|
          cw_bal (q := 72) (jn := t.length) (pc := 282) dX9_driftOf_282 sh_72 hsb (by omega) (by decide) <|
          ?_
        rw [ha0]
        refine cw_if_eq_F (tgt := 300) (pc := 283) dX9_driftOf_283 (by decide) (by decide) <|
          cw_aload_n (pc := 286) dX9_driftOf_286 rfl rfl <|
          cw_getR (q := 67) (t := 72) (pc := 287) dX9_driftOf_287 fX9_24 sh_67 (by decide) rfl <|
          cw_iload (pc := 290) dX9_driftOf_290 rfl <|
          cw_bal (q := 72) (jn := (t.length + 1)) (pc := 292) dX9_driftOf_292 sh_72 rfl (by omega) (by decide) <|
          ?_
        rw [hb0]
        refine cw_if_eq_T (tgt := 300) (pc := 293) dX9_driftOf_293 (by decide) rfl <|
          cw_iconst (v := 0) (pc := 300) dX9_driftOf_300 (by decide) <|
          cw_goto (tgt := 331) (pc := 301) dX9_driftOf_301 (by decide) <|
          cw_bas (q := 72) (jn := t.length) (pc := 331) dX9_driftOf_331 sh_72 hsb (by omega) (by decide) (by decide) <|
          cw_goto (tgt := 401) (pc := 332) dX9_driftOf_332 (by decide) <|
          cw_iincL (L' := [_, _, _, _, _, _, _, _, _, _, _, _, _, _]) (c := 1) (pc := 401) dX9_driftOf_401 rfl (by decide) (by decide) rfl rfl <|
          cw_goto (tgt := 96) (pc := 404) dX9_driftOf_404 (by decide) <|
          ?_
        exact nxt (false :: t, s) _ _ _ _ _ _ _ (by simp [dst, e]) rfl rfl ⟨by rw [st_eq]; rfl, hsk.2.2.up _ (fun j hj => by rw [st_at, if_neg (by omega)])⟩ (Same.rf.s1 rfl) (by simp; omega) (by simpa using k2)
      · refine cw_iload (pc := 96) dX9_driftOf_96 rfl <|
          cw_iload (pc := 98) dX9_driftOf_98 rfl <|
          cw_iload (pc := 100) dX9_driftOf_100 rfl <|
          cw_iadd (pc := 102) dX9_driftOf_102 <|
          cw_icmp_ge_F (tgt := 407) (pc := 103) dX9_driftOf_103 (by decide) hlo <|
          cw_aload_n (pc := 106) dX9_driftOf_106 rfl rfl <|
          cw_getR (q := 67) (t := 68) (pc := 107) dX9_driftOf_107 fX9_9 sh_67 (by decide) rfl <|
          cw_iload (pc := 110) dX9_driftOf_110 rfl <|
          cw_ial (q := 68) (jn := (base + i)) (pc := 112) dX9_driftOf_112 sh_68 hidx (by omega) (by decide) <|
          ?_
        rw [hstp', hw]
        refine cw_istore (L' := [_, _, _, _, _, _, _, _, _, _, _, _, _, _]) (pc := 113) dX9_driftOf_113 (by decide) rfl rfl <|
          cw_iload (pc := 115) dX9_driftOf_115 rfl <|
          cw_if_lt_T (tgt := 214) (pc := 117) dX9_driftOf_117 (by decide) (by decide) <|
          cw_iload (pc := 214) dX9_driftOf_214 rfl <|
          cw_iconst (v := -1) (pc := 216) dX9_driftOf_216 (by decide) <|
          cw_icmp_ne_T (tgt := 249) (pc := 217) dX9_driftOf_217 (by decide) (by decide) <|
          cw_iload (pc := 249) dX9_driftOf_249 rfl <|
          cw_bipush (v := -10) (pc := 251) dX9_driftOf_251 (by decide) <|
          cw_icmp_le_F (tgt := 335) (pc := 253) dX9_driftOf_253 (by decide) (by decide) <|
          cw_iincL (L' := [_, _, _, _, _, _, _, _, _, _, _, _, _, _]) (c := -1) (pc := 256) dX9_driftOf_256 rfl (by decide) (by decide) rfl rfl <|
          ?_
        rw [hd1]
        refine cw_aload_n (pc := 259) dX9_driftOf_259 rfl rfl <|
          cw_getR (q := 67) (t := 72) (pc := 260) dX9_driftOf_260 fX9_24 sh_67 (by decide) rfl <|
          cw_iload (pc := 263) dX9_driftOf_263 rfl <|
          cw_iconst (v := 1) (pc := 265) dX9_driftOf_265 (by decide) <|
          cw_isub (pc := 266) dX9_driftOf_266 <|
          cw_iload (pc := 267) dX9_driftOf_267 rfl <|
          cw_bipush (v := -2) (pc := 269) dX9_driftOf_269 (by decide) <|
          cw_icmp_ne_F (tgt := 304) (pc := 271) dX9_driftOf_271 (by decide) rfl <|
          cw_aload_n (pc := 274) dX9_driftOf_274 rfl rfl <|
          cw_getR (q := 67) (t := 72) (pc := 275) dX9_driftOf_275 fX9_24 sh_67 (by decide) rfl <|
          cw_iload (pc := 278) dX9_driftOf_278 rfl <|
          cw_iconst (v := 1) (pc := 280) dX9_driftOf_280 (by decide) <|
          cw_isub (pc := 281) dX9_driftOf_281 <|
          cw_bal (q := 72) (jn := t.length) (pc := 282) dX9_driftOf_282 sh_72 hsb (by omega) (by decide) <|
          ?_
        rw [ha0]
        refine cw_if_eq_F (tgt := 300) (pc := 283) dX9_driftOf_283 (by decide) (by decide) <|
          cw_aload_n (pc := 286) dX9_driftOf_286 rfl rfl <|
          cw_getR (q := 67) (t := 72) (pc := 287) dX9_driftOf_287 fX9_24 sh_67 (by decide) rfl <|
          cw_iload (pc := 290) dX9_driftOf_290 rfl <|
          cw_bal (q := 72) (jn := (t.length + 1)) (pc := 292) dX9_driftOf_292 sh_72 rfl (by omega) (by decide) <|
          ?_
        rw [hb0]
        refine cw_if_eq_F (tgt := 300) (pc := 293) dX9_driftOf_293 (by decide) (by decide) <|
          cw_iconst (v := 1) (pc := 296) dX9_driftOf_296 (by decide) <|
          cw_goto (tgt := 331) (pc := 297) dX9_driftOf_297 (by decide) <|
          cw_bas (q := 72) (jn := t.length) (pc := 331) dX9_driftOf_331 sh_72 hsb (by omega) (by decide) (by decide) <|
          cw_goto (tgt := 401) (pc := 332) dX9_driftOf_332 (by decide) <|
          cw_iincL (L' := [_, _, _, _, _, _, _, _, _, _, _, _, _, _]) (c := 1) (pc := 401) dX9_driftOf_401 rfl (by decide) (by decide) rfl rfl <|
          cw_goto (tgt := 96) (pc := 404) dX9_driftOf_404 (by decide) <|
          ?_
        exact nxt (true :: t, s) _ _ _ _ _ _ _ (by simp [dst, e]) rfl rfl ⟨by rw [st_eq]; rfl, hsk.2.2.up _ (fun j hj => by rw [st_at, if_neg (by omega)])⟩ (Same.rf.s1 rfl) (by simp; omega) (by simpa using k2)
    · obtain ⟨k1, k2⟩ := g5 (by omega)
      have hw : mst c = -3 := by unfold mst; rw [if_neg (by omega), if_neg (by omega), if_neg (by omega), if_pos e]
      obtain ⟨b, a, t, rfl⟩ : ∃ b a t, stk = b :: a :: t := by match stk, k1 with | [], k1 => simp at k1 | [b], k1 => simp at k1 | b :: a :: t, _ => exact ⟨b, a, t, rfl⟩
      have hd1 : nI (b :: a :: t).length + -1 = nI (t.length + 1) := by rw [List.length_cons, List.length_cons, ← Int32.sub_eq_add_neg]; exact nI_s1 (l := t.length + 1 + 1) (by omega)
      have hsb : nI (t.length + 1) - 1 = nI t.length := nI_s1 (by omega)
      have hlt : t.length ≤ 12 := by simp at hl14; omega
      have hb0 : μ' 72 (t.length + 1) = (if b then 1 else 0) := hsk.1
      have ha0 : μ' 72 t.length = (if a then 1 else 0) := hsk.2.1
      cases a <;> cases b
      · refine cw_iload (pc := 96) dX9_driftOf_96 rfl <|
          cw_iload (pc := 98) dX9_driftOf_98 rfl <|
          cw_iload (pc := 100) dX9_driftOf_100 rfl <|
          cw_iadd (pc := 102) dX9_driftOf_102 <|
          cw_icmp_ge_F (tgt := 407) (pc := 103) dX9_driftOf_103 (by decide) hlo <|
          cw_aload_n (pc := 106) dX9_driftOf_106 rfl rfl <|
          cw_getR (q := 67) (t := 68) (pc := 107) dX9_driftOf_107 fX9_9 sh_67 (by decide) rfl <|
          cw_iload (pc := 110) dX9_driftOf_110 rfl <|
          cw_ial (q := 68) (jn := (base + i)) (pc := 112) dX9_driftOf_112 sh_68 hidx (by omega) (by decide) <|
          ?_
        rw [hstp', hw]
        refine cw_istore (L' := [_, _, _, _, _, _, _, _, _, _, _, _, _, _]) (pc := 113) dX9_driftOf_113 (by decide) rfl rfl <|
          cw_iload (pc := 115) dX9_driftOf_115 rfl <|
          cw_if_lt_T (tgt := 214) (pc := 117) dX9_driftOf_117 (by decide) (by decide) <|
          cw_iload (pc := 214) dX9_driftOf_214 rfl <|
          cw_iconst (v := -1) (pc := 216) dX9_driftOf_216 (by decide) <|
          cw_icmp_ne_T (tgt := 249) (pc := 217) dX9_driftOf_217 (by decide) (by decide) <|
          cw_iload (pc := 249) dX9_driftOf_249 rfl <|
          cw_bipush (v := -10) (pc := 251) dX9_driftOf_251 (by decide) <|
          cw_icmp_le_F (tgt := 335) (pc := 253) dX9_driftOf_253 (by decide) (by decide) <|
          cw_iincL (L' := [_, _, _, _, _, _, _, _, _, _, _, _, _, _]) (c := -1) (pc := 256) dX9_driftOf_256 rfl (by decide) (by decide) rfl rfl <|
          ?_
        rw [hd1]
        refine cw_aload_n (pc := 259) dX9_driftOf_259 rfl rfl <|
          cw_getR (q := 67) (t := 72) (pc := 260) dX9_driftOf_260 fX9_24 sh_67 (by decide) rfl <|
          cw_iload (pc := 263) dX9_driftOf_263 rfl <|
          cw_iconst (v := 1) (pc := 265) dX9_driftOf_265 (by decide) <|
          cw_isub (pc := 266) dX9_driftOf_266 <|
          cw_iload (pc := 267) dX9_driftOf_267 rfl <|
          cw_bipush (v := -2) (pc := 269) dX9_driftOf_269 (by decide) <|
          cw_icmp_ne_T (tgt := 304) (pc := 271) dX9_driftOf_271 (by decide) (by decide) <|
          cw_aload_n (pc := 304) dX9_driftOf_304 rfl rfl <|
          cw_getR (q := 67) (t := 72) (pc := 305) dX9_driftOf_305 fX9_24 sh_67 (by decide) rfl <|
          cw_iload (pc := 308) dX9_driftOf_308 rfl <|
          cw_iconst (v := 1) (pc := 310) dX9_driftOf_310 (by decide) <|
          cw_isub (pc := 311) dX9_driftOf_311 <|
          cw_bal (q := 72) (jn := t.length) (pc := 312) dX9_driftOf_312 sh_72 hsb (by omega) (by decide) <|
          ?_
        rw [ha0]
        refine cw_if_ne_F (tgt := 326) (pc := 313) dX9_driftOf_313 (by decide) rfl <|
          cw_aload_n (pc := 316) dX9_driftOf_316 rfl rfl <|
          cw_getR (q := 67) (t := 72) (pc := 317) dX9_driftOf_317 fX9_24 sh_67 (by decide) rfl <|
          cw_iload (pc := 320) dX9_driftOf_320 rfl <|
          cw_bal (q := 72) (jn := (t.length + 1)) (pc := 322) dX9_driftOf_322 sh_72 rfl (by omega) (by decide) <|
          ?_
        rw [hb0]
        refine cw_if_eq_T (tgt := 330) (pc := 323) dX9_driftOf_323 (by decide) rfl <|
          cw_iconst (v := 0) (pc := 330) dX9_driftOf_330 (by decide) <|
          cw_bas (q := 72) (jn := t.length) (pc := 331) dX9_driftOf_331 sh_72 hsb (by omega) (by decide) (by decide) <|
          cw_goto (tgt := 401) (pc := 332) dX9_driftOf_332 (by decide) <|
          cw_iincL (L' := [_, _, _, _, _, _, _, _, _, _, _, _, _, _]) (c := 1) (pc := 401) dX9_driftOf_401 rfl (by decide) (by decide) rfl rfl <|
          cw_goto (tgt := 96) (pc := 404) dX9_driftOf_404 (by decide) <|
          ?_
        exact nxt (false :: t, s) _ _ _ _ _ _ _ (by simp [dst, e]) rfl rfl ⟨by rw [st_eq]; rfl, hsk.2.2.up _ (fun j hj => by rw [st_at, if_neg (by omega)])⟩ (Same.rf.s1 rfl) (by simp; omega) (by simpa using k2)
      · refine cw_iload (pc := 96) dX9_driftOf_96 rfl <|
          cw_iload (pc := 98) dX9_driftOf_98 rfl <|
          cw_iload (pc := 100) dX9_driftOf_100 rfl <|
          cw_iadd (pc := 102) dX9_driftOf_102 <|
          cw_icmp_ge_F (tgt := 407) (pc := 103) dX9_driftOf_103 (by decide) hlo <|
          cw_aload_n (pc := 106) dX9_driftOf_106 rfl rfl <|
          cw_getR (q := 67) (t := 68) (pc := 107) dX9_driftOf_107 fX9_9 sh_67 (by decide) rfl <|
          cw_iload (pc := 110) dX9_driftOf_110 rfl <|
          cw_ial (q := 68) (jn := (base + i)) (pc := 112) dX9_driftOf_112 sh_68 hidx (by omega) (by decide) <|
          ?_
        rw [hstp', hw]
        refine cw_istore (L' := [_, _, _, _, _, _, _, _, _, _, _, _, _, _]) (pc := 113) dX9_driftOf_113 (by decide) rfl rfl <|
          cw_iload (pc := 115) dX9_driftOf_115 rfl <|
          cw_if_lt_T (tgt := 214) (pc := 117) dX9_driftOf_117 (by decide) (by decide) <|
          cw_iload (pc := 214) dX9_driftOf_214 rfl <|
          cw_iconst (v := -1) (pc := 216) dX9_driftOf_216 (by decide) <|
          cw_icmp_ne_T (tgt := 249) (pc := 217) dX9_driftOf_217 (by decide) (by decide) <|
          cw_iload (pc := 249) dX9_driftOf_249 rfl <|
          cw_bipush (v := -10) (pc := 251) dX9_driftOf_251 (by decide) <|
          cw_icmp_le_F (tgt := 335) (pc := 253) dX9_driftOf_253 (by decide) (by decide) <|
          cw_iincL (L' := [_, _, _, _, _, _, _, _, _, _, _, _, _, _]) (c := -1) (pc := 256) dX9_driftOf_256 rfl (by decide) (by decide) rfl rfl <|
          ?_
        rw [hd1]
        refine cw_aload_n (pc := 259) dX9_driftOf_259 rfl rfl <|
          cw_getR (q := 67) (t := 72) (pc := 260) dX9_driftOf_260 fX9_24 sh_67 (by decide) rfl <|
          cw_iload (pc := 263) dX9_driftOf_263 rfl <|
          cw_iconst (v := 1) (pc := 265) dX9_driftOf_265 (by decide) <|
          cw_isub (pc := 266) dX9_driftOf_266 <|
          cw_iload (pc := 267) dX9_driftOf_267 rfl <|
          cw_bipush (v := -2) (pc := 269) dX9_driftOf_269 (by decide) <|
          cw_icmp_ne_T (tgt := 304) (pc := 271) dX9_driftOf_271 (by decide) (by decide) <|
          cw_aload_n (pc := 304) dX9_driftOf_304 rfl rfl <|
          cw_getR (q := 67) (t := 72) (pc := 305) dX9_driftOf_305 fX9_24 sh_67 (by decide) rfl <|
          cw_iload (pc := 308) dX9_driftOf_308 rfl <|
          cw_iconst (v := 1) (pc := 310) dX9_driftOf_310 (by decide) <|
          cw_isub (pc := 311) dX9_driftOf_311 <|
          cw_bal (q := 72) (jn := t.length) (pc := 312) dX9_driftOf_312 sh_72 hsb (by omega) (by decide) <|
          ?_
        rw [ha0]
        refine cw_if_ne_F (tgt := 326) (pc := 313) dX9_driftOf_313 (by decide) rfl <|
          cw_aload_n (pc := 316) dX9_driftOf_316 rfl rfl <|
          cw_getR (q := 67) (t := 72) (pc := 317) dX9_driftOf_317 fX9_24 sh_67 (by decide) rfl <|
          cw_iload (pc := 320) dX9_driftOf_320 rfl <|
          cw_bal (q := 72) (jn := (t.length + 1)) (pc := 322) dX9_driftOf_322 sh_72 rfl (by omega) (by decide) <|
          ?_
        rw [hb0]
        refine cw_if_eq_F (tgt := 330) (pc := 323) dX9_driftOf_323 (by decide) (by decide) <|
          cw_iconst (v := 1) (pc := 326) dX9_driftOf_326 (by decide) <|
          cw_goto (tgt := 331) (pc := 327) dX9_driftOf_327 (by decide) <|
          cw_bas (q := 72) (jn := t.length) (pc := 331) dX9_driftOf_331 sh_72 hsb (by omega) (by decide) (by decide) <|
          cw_goto (tgt := 401) (pc := 332) dX9_driftOf_332 (by decide) <|
          cw_iincL (L' := [_, _, _, _, _, _, _, _, _, _, _, _, _, _]) (c := 1) (pc := 401) dX9_driftOf_401 rfl (by decide) (by decide) rfl rfl <|
          cw_goto (tgt := 96) (pc := 404) dX9_driftOf_404 (by decide) <|
          ?_
        exact nxt (true :: t, s) _ _ _ _ _ _ _ (by simp [dst, e]) rfl rfl ⟨by rw [st_eq]; rfl, hsk.2.2.up _ (fun j hj => by rw [st_at, if_neg (by omega)])⟩ (Same.rf.s1 rfl) (by simp; omega) (by simpa using k2)
      · refine cw_iload (pc := 96) dX9_driftOf_96 rfl <|
          cw_iload (pc := 98) dX9_driftOf_98 rfl <|
          cw_iload (pc := 100) dX9_driftOf_100 rfl <|
          cw_iadd (pc := 102) dX9_driftOf_102 <|
          cw_icmp_ge_F (tgt := 407) (pc := 103) dX9_driftOf_103 (by decide) hlo <|
          cw_aload_n (pc := 106) dX9_driftOf_106 rfl rfl <|
          cw_getR (q := 67) (t := 68) (pc := 107) dX9_driftOf_107 fX9_9 sh_67 (by decide) rfl <|
          cw_iload (pc := 110) dX9_driftOf_110 rfl <|
          cw_ial (q := 68) (jn := (base + i)) (pc := 112) dX9_driftOf_112 sh_68 hidx (by omega) (by decide) <|
          ?_
        rw [hstp', hw]
        refine cw_istore (L' := [_, _, _, _, _, _, _, _, _, _, _, _, _, _]) (pc := 113) dX9_driftOf_113 (by decide) rfl rfl <|
          cw_iload (pc := 115) dX9_driftOf_115 rfl <|
          cw_if_lt_T (tgt := 214) (pc := 117) dX9_driftOf_117 (by decide) (by decide) <|
          cw_iload (pc := 214) dX9_driftOf_214 rfl <|
          cw_iconst (v := -1) (pc := 216) dX9_driftOf_216 (by decide) <|
          cw_icmp_ne_T (tgt := 249) (pc := 217) dX9_driftOf_217 (by decide) (by decide) <|
          cw_iload (pc := 249) dX9_driftOf_249 rfl <|
          cw_bipush (v := -10) (pc := 251) dX9_driftOf_251 (by decide) <|
          cw_icmp_le_F (tgt := 335) (pc := 253) dX9_driftOf_253 (by decide) (by decide) <|
          cw_iincL (L' := [_, _, _, _, _, _, _, _, _, _, _, _, _, _]) (c := -1) (pc := 256) dX9_driftOf_256 rfl (by decide) (by decide) rfl rfl <|
          ?_
        rw [hd1]
        refine cw_aload_n (pc := 259) dX9_driftOf_259 rfl rfl <|
          cw_getR (q := 67) (t := 72) (pc := 260) dX9_driftOf_260 fX9_24 sh_67 (by decide) rfl <|
          cw_iload (pc := 263) dX9_driftOf_263 rfl <|
          cw_iconst (v := 1) (pc := 265) dX9_driftOf_265 (by decide) <|
          cw_isub (pc := 266) dX9_driftOf_266 <|
          cw_iload (pc := 267) dX9_driftOf_267 rfl <|
          cw_bipush (v := -2) (pc := 269) dX9_driftOf_269 (by decide) <|
          cw_icmp_ne_T (tgt := 304) (pc := 271) dX9_driftOf_271 (by decide) (by decide) <|
          cw_aload_n (pc := 304) dX9_driftOf_304 rfl rfl <|
          cw_getR (q := 67) (t := 72) (pc := 305) dX9_driftOf_305 fX9_24 sh_67 (by decide) rfl <|
          cw_iload (pc := 308) dX9_driftOf_308 rfl <|
          cw_iconst (v := 1) (pc := 310) dX9_driftOf_310 (by decide) <|
          cw_isub (pc := 311) dX9_driftOf_311 <|
          cw_bal (q := 72) (jn := t.length) (pc := 312) dX9_driftOf_312 sh_72 hsb (by omega) (by decide) <|
          ?_
        rw [ha0]
        refine cw_if_ne_T (tgt := 326) (pc := 313) dX9_driftOf_313 (by decide) (by decide) <|
          cw_iconst (v := 1) (pc := 326) dX9_driftOf_326 (by decide) <|
          cw_goto (tgt := 331) (pc := 327) dX9_driftOf_327 (by decide) <|
          cw_bas (q := 72) (jn := t.length) (pc := 331) dX9_driftOf_331 sh_72 hsb (by omega) (by decide) (by decide) <|
          cw_goto (tgt := 401) (pc := 332) dX9_driftOf_332 (by decide) <|
          cw_iincL (L' := [_, _, _, _, _, _, _, _, _, _, _, _, _, _]) (c := 1) (pc := 401) dX9_driftOf_401 rfl (by decide) (by decide) rfl rfl <|
          cw_goto (tgt := 96) (pc := 404) dX9_driftOf_404 (by decide) <|
          ?_
        exact nxt (true :: t, s) _ _ _ _ _ _ _ (by simp [dst, e]) rfl rfl ⟨by rw [st_eq]; rfl, hsk.2.2.up _ (fun j hj => by rw [st_at, if_neg (by omega)])⟩ (Same.rf.s1 rfl) (by simp; omega) (by simpa using k2)
      · refine cw_iload (pc := 96) dX9_driftOf_96 rfl <|
          cw_iload (pc := 98) dX9_driftOf_98 rfl <|
          cw_iload (pc := 100) dX9_driftOf_100 rfl <|
          cw_iadd (pc := 102) dX9_driftOf_102 <|
          cw_icmp_ge_F (tgt := 407) (pc := 103) dX9_driftOf_103 (by decide) hlo <|
          cw_aload_n (pc := 106) dX9_driftOf_106 rfl rfl <|
          cw_getR (q := 67) (t := 68) (pc := 107) dX9_driftOf_107 fX9_9 sh_67 (by decide) rfl <|
          cw_iload (pc := 110) dX9_driftOf_110 rfl <|
          cw_ial (q := 68) (jn := (base + i)) (pc := 112) dX9_driftOf_112 sh_68 hidx (by omega) (by decide) <|
          ?_
        rw [hstp', hw]
        refine cw_istore (L' := [_, _, _, _, _, _, _, _, _, _, _, _, _, _]) (pc := 113) dX9_driftOf_113 (by decide) rfl rfl <|
          cw_iload (pc := 115) dX9_driftOf_115 rfl <|
          cw_if_lt_T (tgt := 214) (pc := 117) dX9_driftOf_117 (by decide) (by decide) <|
          cw_iload (pc := 214) dX9_driftOf_214 rfl <|
          cw_iconst (v := -1) (pc := 216) dX9_driftOf_216 (by decide) <|
          cw_icmp_ne_T (tgt := 249) (pc := 217) dX9_driftOf_217 (by decide) (by decide) <|
          cw_iload (pc := 249) dX9_driftOf_249 rfl <|
          cw_bipush (v := -10) (pc := 251) dX9_driftOf_251 (by decide) <|
          cw_icmp_le_F (tgt := 335) (pc := 253) dX9_driftOf_253 (by decide) (by decide) <|
          cw_iincL (L' := [_, _, _, _, _, _, _, _, _, _, _, _, _, _]) (c := -1) (pc := 256) dX9_driftOf_256 rfl (by decide) (by decide) rfl rfl <|
          ?_
        rw [hd1]
        refine cw_aload_n (pc := 259) dX9_driftOf_259 rfl rfl <|
          cw_getR (q := 67) (t := 72) (pc := 260) dX9_driftOf_260 fX9_24 sh_67 (by decide) rfl <|
          cw_iload (pc := 263) dX9_driftOf_263 rfl <|
          cw_iconst (v := 1) (pc := 265) dX9_driftOf_265 (by decide) <|
          cw_isub (pc := 266) dX9_driftOf_266 <|
          cw_iload (pc := 267) dX9_driftOf_267 rfl <|
          cw_bipush (v := -2) (pc := 269) dX9_driftOf_269 (by decide) <|
          cw_icmp_ne_T (tgt := 304) (pc := 271) dX9_driftOf_271 (by decide) (by decide) <|
          cw_aload_n (pc := 304) dX9_driftOf_304 rfl rfl <|
          cw_getR (q := 67) (t := 72) (pc := 305) dX9_driftOf_305 fX9_24 sh_67 (by decide) rfl <|
          cw_iload (pc := 308) dX9_driftOf_308 rfl <|
          cw_iconst (v := 1) (pc := 310) dX9_driftOf_310 (by decide) <|
          cw_isub (pc := 311) dX9_driftOf_311 <|
          cw_bal (q := 72) (jn := t.length) (pc := 312) dX9_driftOf_312 sh_72 hsb (by omega) (by decide) <|
          ?_
        rw [ha0]
        refine cw_if_ne_T (tgt := 326) (pc := 313) dX9_driftOf_313 (by decide) (by decide) <|
          cw_iconst (v := 1) (pc := 326) dX9_driftOf_326 (by decide) <|
          cw_goto (tgt := 331) (pc := 327) dX9_driftOf_327 (by decide) <|
          cw_bas (q := 72) (jn := t.length) (pc := 331) dX9_driftOf_331 sh_72 hsb (by omega) (by decide) (by decide) <|
          cw_goto (tgt := 401) (pc := 332) dX9_driftOf_332 (by decide) <|
          cw_iincL (L' := [_, _, _, _, _, _, _, _, _, _, _, _, _, _]) (c := 1) (pc := 401) dX9_driftOf_401 rfl (by decide) (by decide) rfl rfl <|
          cw_goto (tgt := 96) (pc := 404) dX9_driftOf_404 (by decide) <|
          ?_
        exact nxt (true :: t, s) _ _ _ _ _ _ _ (by simp [dst, e]) rfl rfl ⟨by rw [st_eq]; rfl, hsk.2.2.up _ (fun j hj => by rw [st_at, if_neg (by omega)])⟩ (Same.rf.s1 rfl) (by simp; omega) (by simpa using k2)
    · obtain ⟨k1, k2⟩ := g6 (by omega)
      have hw : mst c = -10 - nI c.2 := by unfold mst; rw [if_neg (by omega), if_neg (by omega), if_neg (by omega), if_neg (by omega), if_pos e]
      obtain ⟨b, rfl⟩ : ∃ b, stk = [b] := by match stk, k1 with | [b], _ => exact ⟨b, rfl⟩
      obtain ⟨q1, q2, q3, q4, q5⟩ := draw_f c.2 (by omega)
      have hb0 : μ' 72 0 = (if b then 1 else 0) := hsk.1
      cases b
      · refine cw_iload (pc := 96) dX9_driftOf_96 rfl <|
          cw_iload (pc := 98) dX9_driftOf_98 rfl <|
          cw_iload (pc := 100) dX9_driftOf_100 rfl <|
          cw_iadd (pc := 102) dX9_driftOf_102 <|
          cw_icmp_ge_F (tgt := 407) (pc := 103) dX9_driftOf_103 (by decide) hlo <|
          cw_aload_n (pc := 106) dX9_driftOf_106 rfl rfl <|
          cw_getR (q := 67) (t := 68) (pc := 107) dX9_driftOf_107 fX9_9 sh_67 (by decide) rfl <|
          cw_iload (pc := 110) dX9_driftOf_110 rfl <|
          cw_ial (q := 68) (jn := (base + i)) (pc := 112) dX9_driftOf_112 sh_68 hidx (by omega) (by decide) <|
          ?_
        rw [hstp', hw]
        refine cw_istore (L' := [_, _, _, _, _, _, _, _, _, _, _, _, _, _]) (pc := 113) dX9_driftOf_113 (by decide) rfl rfl <|
          cw_iload (pc := 115) dX9_driftOf_115 rfl <|
          cw_if_lt_T (tgt := 214) (pc := 117) dX9_driftOf_117 (by decide) q5 <|
          cw_iload (pc := 214) dX9_driftOf_214 rfl <|
          cw_iconst (v := -1) (pc := 216) dX9_driftOf_216 (by decide) <|
          cw_icmp_ne_T (tgt := 249) (pc := 217) dX9_driftOf_217 (by decide) q4 <|
          cw_iload (pc := 249) dX9_driftOf_249 rfl <|
          cw_bipush (v := -10) (pc := 251) dX9_driftOf_251 (by decide) <|
          cw_icmp_le_T (tgt := 335) (pc := 253) dX9_driftOf_253 (by decide) q1 <|
          cw_iconst (v := 0) (pc := 335) dX9_driftOf_335 (by decide) <|
          cw_istore (L' := [_, _, _, _, _, _, _, _, _, _, _, _, _, _]) (pc := 336) dX9_driftOf_336 (by decide) rfl rfl <|
          cw_aload_n (pc := 338) dX9_driftOf_338 rfl rfl <|
          cw_getR (q := 67) (t := 72) (pc := 339) dX9_driftOf_339 fX9_24 sh_67 (by decide) rfl <|
          cw_iconst (v := 0) (pc := 342) dX9_driftOf_342 (by decide) <|
          cw_bal (q := 72) (jn := 0) (pc := 343) dX9_driftOf_343 sh_72 rfl (by decide) (by decide) <|
          ?_
        rw [hb0]
        refine cw_istore (L' := [_, _, _, _, _, _, _, _, _, _, _, _, _, _]) (pc := 344) dX9_driftOf_344 (by decide) rfl rfl <|
          cw_iload (pc := 346) dX9_driftOf_346 rfl <|
          cw_iload (pc := 348) dX9_driftOf_348 rfl <|
          cw_if_eq_T (tgt := 369) (pc := 350) dX9_driftOf_350 (by decide) rfl <|
          cw_iconst (v := 0) (pc := 369) dX9_driftOf_369 (by decide) <|
          cw_iadd (pc := 370) dX9_driftOf_370 <|
          cw_istore (L' := [_, _, _, _, _, _, _, _, _, _, _, _, _, _]) (pc := 371) dX9_driftOf_371 (by decide) rfl rfl <|
          cw_iload (pc := 373) dX9_driftOf_373 rfl <|
          cw_iload (pc := 375) dX9_driftOf_375 rfl <|
          cw_if_eq_T (tgt := 397) (pc := 377) dX9_driftOf_377 (by decide) rfl <|
          cw_iconst (v := 0) (pc := 397) dX9_driftOf_397 (by decide) <|
          cw_isub (pc := 398) dX9_driftOf_398 <|
          cw_istore (L' := [_, _, _, _, _, _, _, _, _, _, _, _, _, _]) (pc := 399) dX9_driftOf_399 (by decide) rfl rfl <|
          cw_iincL (L' := [_, _, _, _, _, _, _, _, _, _, _, _, _, _]) (c := 1) (pc := 401) dX9_driftOf_401 rfl (by decide) (by decide) rfl rfl <|
          cw_goto (tgt := 96) (pc := 404) dX9_driftOf_404 (by decide) <|
          ?_
        exact nxt ([], s + (if false then nI c.2 else 0)) _ _ _ _ _ _ _ (by simp [dst, e]) (by simp) rfl trivial Same.rf (by simp) (by simpa using k2)
      · refine cw_iload (pc := 96) dX9_driftOf_96 rfl <|
          cw_iload (pc := 98) dX9_driftOf_98 rfl <|
          cw_iload (pc := 100) dX9_driftOf_100 rfl <|
          cw_iadd (pc := 102) dX9_driftOf_102 <|
          cw_icmp_ge_F (tgt := 407) (pc := 103) dX9_driftOf_103 (by decide) hlo <|
          cw_aload_n (pc := 106) dX9_driftOf_106 rfl rfl <|
          cw_getR (q := 67) (t := 68) (pc := 107) dX9_driftOf_107 fX9_9 sh_67 (by decide) rfl <|
          cw_iload (pc := 110) dX9_driftOf_110 rfl <|
          cw_ial (q := 68) (jn := (base + i)) (pc := 112) dX9_driftOf_112 sh_68 hidx (by omega) (by decide) <|
          ?_
        rw [hstp', hw]
        refine cw_istore (L' := [_, _, _, _, _, _, _, _, _, _, _, _, _, _]) (pc := 113) dX9_driftOf_113 (by decide) rfl rfl <|
          cw_iload (pc := 115) dX9_driftOf_115 rfl <|
          cw_if_lt_T (tgt := 214) (pc := 117) dX9_driftOf_117 (by decide) q5 <|
          cw_iload (pc := 214) dX9_driftOf_214 rfl <|
          cw_iconst (v := -1) (pc := 216) dX9_driftOf_216 (by decide) <|
          cw_icmp_ne_T (tgt := 249) (pc := 217) dX9_driftOf_217 (by decide) q4 <|
          cw_iload (pc := 249) dX9_driftOf_249 rfl <|
          cw_bipush (v := -10) (pc := 251) dX9_driftOf_251 (by decide) <|
          cw_icmp_le_T (tgt := 335) (pc := 253) dX9_driftOf_253 (by decide) q1 <|
          cw_iconst (v := 0) (pc := 335) dX9_driftOf_335 (by decide) <|
          cw_istore (L' := [_, _, _, _, _, _, _, _, _, _, _, _, _, _]) (pc := 336) dX9_driftOf_336 (by decide) rfl rfl <|
          cw_aload_n (pc := 338) dX9_driftOf_338 rfl rfl <|
          cw_getR (q := 67) (t := 72) (pc := 339) dX9_driftOf_339 fX9_24 sh_67 (by decide) rfl <|
          cw_iconst (v := 0) (pc := 342) dX9_driftOf_342 (by decide) <|
          cw_bal (q := 72) (jn := 0) (pc := 343) dX9_driftOf_343 sh_72 rfl (by decide) (by decide) <|
          ?_
        rw [hb0]
        refine cw_istore (L' := [_, _, _, _, _, _, _, _, _, _, _, _, _, _]) (pc := 344) dX9_driftOf_344 (by decide) rfl rfl <|
          cw_iload (pc := 346) dX9_driftOf_346 rfl <|
          cw_iload (pc := 348) dX9_driftOf_348 rfl <|
          cw_if_eq_F (tgt := 369) (pc := 350) dX9_driftOf_350 (by decide) (by decide) <|
          cw_iload (pc := 353) dX9_driftOf_353 rfl <|
          cw_sipush (v := -200) (pc := 355) dX9_driftOf_355 (by decide) <|
          cw_icmp_le_F (tgt := 369) (pc := 358) dX9_driftOf_358 (by decide) (Int32.not_le.mpr q2) <|
          cw_bipush (v := -10) (pc := 361) dX9_driftOf_361 (by decide) <|
          cw_iload (pc := 363) dX9_driftOf_363 rfl <|
          cw_isub (pc := 365) dX9_driftOf_365 <|
          cw_goto (tgt := 370) (pc := 366) dX9_driftOf_366 (by decide) <|
          cw_iadd (pc := 370) dX9_driftOf_370 <|
          cw_istore (L' := [_, _, _, _, _, _, _, _, _, _, _, _, _, _]) (pc := 371) dX9_driftOf_371 (by decide) rfl rfl <|
          cw_iload (pc := 373) dX9_driftOf_373 rfl <|
          cw_iload (pc := 375) dX9_driftOf_375 rfl <|
          cw_if_eq_F (tgt := 397) (pc := 377) dX9_driftOf_377 (by decide) (by decide) <|
          cw_iload (pc := 380) dX9_driftOf_380 rfl <|
          cw_sipush (v := -200) (pc := 382) dX9_driftOf_382 (by decide) <|
          cw_icmp_gt_T (tgt := 397) (pc := 385) dX9_driftOf_385 (by decide) q2 <|
          cw_iconst (v := 0) (pc := 397) dX9_driftOf_397 (by decide) <|
          cw_isub (pc := 398) dX9_driftOf_398 <|
          cw_istore (L' := [_, _, _, _, _, _, _, _, _, _, _, _, _, _]) (pc := 399) dX9_driftOf_399 (by decide) rfl rfl <|
          cw_iincL (L' := [_, _, _, _, _, _, _, _, _, _, _, _, _, _]) (c := 1) (pc := 401) dX9_driftOf_401 rfl (by decide) (by decide) rfl rfl <|
          cw_goto (tgt := 96) (pc := 404) dX9_driftOf_404 (by decide) <|
          ?_
        exact nxt ([], s + (if true then nI c.2 else 0)) _ _ _ _ _ _ _ (by simp [dst, e]) (by rw [q3, Int32.sub_zero]; simp) rfl trivial Same.rf (by simp) (by simpa using k2)
    · obtain ⟨k1, k2⟩ := g6 (by omega)
      have hw : mst c = -200 - nI c.2 := by unfold mst; rw [if_neg (by omega), if_neg (by omega), if_neg (by omega), if_neg (by omega), if_neg (by omega)]
      obtain ⟨b, rfl⟩ : ∃ b, stk = [b] := by match stk, k1 with | [b], _ => exact ⟨b, rfl⟩
      obtain ⟨q1, q2, q3, q4, q5⟩ := hold_f c.2 (by omega)
      have hb0 : μ' 72 0 = (if b then 1 else 0) := hsk.1
      cases b
      · refine cw_iload (pc := 96) dX9_driftOf_96 rfl <|
          cw_iload (pc := 98) dX9_driftOf_98 rfl <|
          cw_iload (pc := 100) dX9_driftOf_100 rfl <|
          cw_iadd (pc := 102) dX9_driftOf_102 <|
          cw_icmp_ge_F (tgt := 407) (pc := 103) dX9_driftOf_103 (by decide) hlo <|
          cw_aload_n (pc := 106) dX9_driftOf_106 rfl rfl <|
          cw_getR (q := 67) (t := 68) (pc := 107) dX9_driftOf_107 fX9_9 sh_67 (by decide) rfl <|
          cw_iload (pc := 110) dX9_driftOf_110 rfl <|
          cw_ial (q := 68) (jn := (base + i)) (pc := 112) dX9_driftOf_112 sh_68 hidx (by omega) (by decide) <|
          ?_
        rw [hstp', hw]
        refine cw_istore (L' := [_, _, _, _, _, _, _, _, _, _, _, _, _, _]) (pc := 113) dX9_driftOf_113 (by decide) rfl rfl <|
          cw_iload (pc := 115) dX9_driftOf_115 rfl <|
          cw_if_lt_T (tgt := 214) (pc := 117) dX9_driftOf_117 (by decide) q5 <|
          cw_iload (pc := 214) dX9_driftOf_214 rfl <|
          cw_iconst (v := -1) (pc := 216) dX9_driftOf_216 (by decide) <|
          cw_icmp_ne_T (tgt := 249) (pc := 217) dX9_driftOf_217 (by decide) q4 <|
          cw_iload (pc := 249) dX9_driftOf_249 rfl <|
          cw_bipush (v := -10) (pc := 251) dX9_driftOf_251 (by decide) <|
          cw_icmp_le_T (tgt := 335) (pc := 253) dX9_driftOf_253 (by decide) q1 <|
          cw_iconst (v := 0) (pc := 335) dX9_driftOf_335 (by decide) <|
          cw_istore (L' := [_, _, _, _, _, _, _, _, _, _, _, _, _, _]) (pc := 336) dX9_driftOf_336 (by decide) rfl rfl <|
          cw_aload_n (pc := 338) dX9_driftOf_338 rfl rfl <|
          cw_getR (q := 67) (t := 72) (pc := 339) dX9_driftOf_339 fX9_24 sh_67 (by decide) rfl <|
          cw_iconst (v := 0) (pc := 342) dX9_driftOf_342 (by decide) <|
          cw_bal (q := 72) (jn := 0) (pc := 343) dX9_driftOf_343 sh_72 rfl (by decide) (by decide) <|
          ?_
        rw [hb0]
        refine cw_istore (L' := [_, _, _, _, _, _, _, _, _, _, _, _, _, _]) (pc := 344) dX9_driftOf_344 (by decide) rfl rfl <|
          cw_iload (pc := 346) dX9_driftOf_346 rfl <|
          cw_iload (pc := 348) dX9_driftOf_348 rfl <|
          cw_if_eq_T (tgt := 369) (pc := 350) dX9_driftOf_350 (by decide) rfl <|
          cw_iconst (v := 0) (pc := 369) dX9_driftOf_369 (by decide) <|
          cw_iadd (pc := 370) dX9_driftOf_370 <|
          cw_istore (L' := [_, _, _, _, _, _, _, _, _, _, _, _, _, _]) (pc := 371) dX9_driftOf_371 (by decide) rfl rfl <|
          cw_iload (pc := 373) dX9_driftOf_373 rfl <|
          cw_iload (pc := 375) dX9_driftOf_375 rfl <|
          cw_if_eq_T (tgt := 397) (pc := 377) dX9_driftOf_377 (by decide) rfl <|
          cw_iconst (v := 0) (pc := 397) dX9_driftOf_397 (by decide) <|
          cw_isub (pc := 398) dX9_driftOf_398 <|
          cw_istore (L' := [_, _, _, _, _, _, _, _, _, _, _, _, _, _]) (pc := 399) dX9_driftOf_399 (by decide) rfl rfl <|
          cw_iincL (L' := [_, _, _, _, _, _, _, _, _, _, _, _, _, _]) (c := 1) (pc := 401) dX9_driftOf_401 rfl (by decide) (by decide) rfl rfl <|
          cw_goto (tgt := 96) (pc := 404) dX9_driftOf_404 (by decide) <|
          ?_
        exact nxt ([], s - (if false then nI c.2 else 0)) _ _ _ _ _ _ _ (by simp [dst, e]) (by simp) rfl trivial Same.rf (by simp) (by simpa using k2)
      · refine cw_iload (pc := 96) dX9_driftOf_96 rfl <|
          cw_iload (pc := 98) dX9_driftOf_98 rfl <|
          cw_iload (pc := 100) dX9_driftOf_100 rfl <|
          cw_iadd (pc := 102) dX9_driftOf_102 <|
          cw_icmp_ge_F (tgt := 407) (pc := 103) dX9_driftOf_103 (by decide) hlo <|
          cw_aload_n (pc := 106) dX9_driftOf_106 rfl rfl <|
          cw_getR (q := 67) (t := 68) (pc := 107) dX9_driftOf_107 fX9_9 sh_67 (by decide) rfl <|
          cw_iload (pc := 110) dX9_driftOf_110 rfl <|
          cw_ial (q := 68) (jn := (base + i)) (pc := 112) dX9_driftOf_112 sh_68 hidx (by omega) (by decide) <|
          ?_
        rw [hstp', hw]
        refine cw_istore (L' := [_, _, _, _, _, _, _, _, _, _, _, _, _, _]) (pc := 113) dX9_driftOf_113 (by decide) rfl rfl <|
          cw_iload (pc := 115) dX9_driftOf_115 rfl <|
          cw_if_lt_T (tgt := 214) (pc := 117) dX9_driftOf_117 (by decide) q5 <|
          cw_iload (pc := 214) dX9_driftOf_214 rfl <|
          cw_iconst (v := -1) (pc := 216) dX9_driftOf_216 (by decide) <|
          cw_icmp_ne_T (tgt := 249) (pc := 217) dX9_driftOf_217 (by decide) q4 <|
          cw_iload (pc := 249) dX9_driftOf_249 rfl <|
          cw_bipush (v := -10) (pc := 251) dX9_driftOf_251 (by decide) <|
          cw_icmp_le_T (tgt := 335) (pc := 253) dX9_driftOf_253 (by decide) q1 <|
          cw_iconst (v := 0) (pc := 335) dX9_driftOf_335 (by decide) <|
          cw_istore (L' := [_, _, _, _, _, _, _, _, _, _, _, _, _, _]) (pc := 336) dX9_driftOf_336 (by decide) rfl rfl <|
          cw_aload_n (pc := 338) dX9_driftOf_338 rfl rfl <|
          cw_getR (q := 67) (t := 72) (pc := 339) dX9_driftOf_339 fX9_24 sh_67 (by decide) rfl <|
          cw_iconst (v := 0) (pc := 342) dX9_driftOf_342 (by decide) <|
          cw_bal (q := 72) (jn := 0) (pc := 343) dX9_driftOf_343 sh_72 rfl (by decide) (by decide) <|
          ?_
        rw [hb0]
        refine cw_istore (L' := [_, _, _, _, _, _, _, _, _, _, _, _, _, _]) (pc := 344) dX9_driftOf_344 (by decide) rfl rfl <|
          cw_iload (pc := 346) dX9_driftOf_346 rfl <|
          cw_iload (pc := 348) dX9_driftOf_348 rfl <|
          cw_if_eq_F (tgt := 369) (pc := 350) dX9_driftOf_350 (by decide) (by decide) <|
          cw_iload (pc := 353) dX9_driftOf_353 rfl <|
          cw_sipush (v := -200) (pc := 355) dX9_driftOf_355 (by decide) <|
          cw_icmp_le_T (tgt := 369) (pc := 358) dX9_driftOf_358 (by decide) (Int32.not_lt.mp q2) <|
          cw_iconst (v := 0) (pc := 369) dX9_driftOf_369 (by decide) <|
          cw_iadd (pc := 370) dX9_driftOf_370 <|
          cw_istore (L' := [_, _, _, _, _, _, _, _, _, _, _, _, _, _]) (pc := 371) dX9_driftOf_371 (by decide) rfl rfl <|
          cw_iload (pc := 373) dX9_driftOf_373 rfl <|
          cw_iload (pc := 375) dX9_driftOf_375 rfl <|
          cw_if_eq_F (tgt := 397) (pc := 377) dX9_driftOf_377 (by decide) (by decide) <|
          cw_iload (pc := 380) dX9_driftOf_380 rfl <|
          cw_sipush (v := -200) (pc := 382) dX9_driftOf_382 (by decide) <|
          cw_icmp_gt_F (tgt := 397) (pc := 385) dX9_driftOf_385 (by decide) q2 <|
          cw_sipush (v := -200) (pc := 388) dX9_driftOf_388 (by decide) <|
          cw_iload (pc := 391) dX9_driftOf_391 rfl <|
          cw_isub (pc := 393) dX9_driftOf_393 <|
          cw_goto (tgt := 398) (pc := 394) dX9_driftOf_394 (by decide) <|
          cw_isub (pc := 398) dX9_driftOf_398 <|
          cw_istore (L' := [_, _, _, _, _, _, _, _, _, _, _, _, _, _]) (pc := 399) dX9_driftOf_399 (by decide) rfl rfl <|
          cw_iincL (L' := [_, _, _, _, _, _, _, _, _, _, _, _, _, _]) (c := 1) (pc := 401) dX9_driftOf_401 rfl (by decide) (by decide) rfl rfl <|
          cw_goto (tgt := 96) (pc := 404) dX9_driftOf_404 (by decide) <|
          ?_
        exact nxt ([], s - (if true then nI c.2 else 0)) _ _ _ _ _ _ _ (by simp [dst, e]) (by rw [q3, Int32.add_zero]; simp) rfl trivial Same.rf (by simp) (by simpa using k2)
