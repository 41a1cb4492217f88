set_option maxHeartbeats 4000000 in
set_option maxRecDepth 100000 in
theorem c_X8_isKind {E : Ev} {x : Int32} {μ : Mem} : AM E yX8_isKind cX8_isKind 1 (some .boolean) 0 [.int x] μ (fun r μ' => r = some (.int (bI (0 ≤ x ∧ x < 7))) ∧ μ' = μ) := by
  refine am_of (own := RX8) (L := [.int x]) (by decide) rfl (Nat.le_of_ble_eq_true rfl) rfl (fun Γ hR => ?_)
  refine cw_iload_n (pc := 0) dX8_isKind_0 rfl rfl <|
    cw_if_lt (tgt := 14) (pc := 1) dX8_isKind_1 (by decide) (fun c1 => ?_) (fun c1 => ?_)
  · refine cw_iconst (v := 0) (pc := 14) dX8_isKind_14 (by decide) <|
      cw_zret (pc := 15) dX8_isKind_15 hR rfl <|
      (by first | exact ⟨by rw [bI_t (by grind)], rfl⟩ | exact ⟨by rw [bI_f (by grind)], rfl⟩)
  · refine cw_iload_n (pc := 4) dX8_isKind_4 rfl rfl <|
      cw_bipush (v := 7) (pc := 5) dX8_isKind_5 (by decide) <|
      cw_icmp_ge (tgt := 14) (pc := 7) dX8_isKind_7 (by decide) (fun c7 => ?_) (fun c7 => ?_)
    · refine cw_iconst (v := 0) (pc := 14) dX8_isKind_14 (by decide) <|
        cw_zret (pc := 15) dX8_isKind_15 hR rfl <|
        (by first | exact ⟨by rw [bI_t (by grind)], rfl⟩ | exact ⟨by rw [bI_f (by grind)], rfl⟩)
    · refine cw_iconst (v := 1) (pc := 10) dX8_isKind_10 (by decide) <|
        cw_goto (tgt := 15) (pc := 11) dX8_isKind_11 (by decide) <|
        cw_zret (pc := 15) dX8_isKind_15 hR rfl <|
        (by first | exact ⟨by rw [bI_t (by grind)], rfl⟩ | exact ⟨by rw [bI_f (by grind)], rfl⟩)
set_option maxHeartbeats 4000000 in
set_option maxRecDepth 100000 in
theorem c_X8_isStep {E : Ev} {x : Int32} {μ : Mem} : AM E yX8_isStep cX8_isStep 1 (some .boolean) 0 [.int x] μ (fun r μ' => r = some (.int (bI (0 ≤ x ∧ x < 12))) ∧ μ' = μ) := by
  refine am_of (own := RX8) (L := [.int x]) (by decide) rfl (Nat.le_of_ble_eq_true rfl) rfl (fun Γ hR => ?_)
  refine cw_iload_n (pc := 0) dX8_isStep_0 rfl rfl <|
    cw_if_lt (tgt := 14) (pc := 1) dX8_isStep_1 (by decide) (fun c1 => ?_) (fun c1 => ?_)
  · refine cw_iconst (v := 0) (pc := 14) dX8_isStep_14 (by decide) <|
      cw_zret (pc := 15) dX8_isStep_15 hR rfl <|
      (by first | exact ⟨by rw [bI_t (by grind)], rfl⟩ | exact ⟨by rw [bI_f (by grind)], rfl⟩)
  · refine cw_iload_n (pc := 4) dX8_isStep_4 rfl rfl <|
      cw_bipush (v := 12) (pc := 5) dX8_isStep_5 (by decide) <|
      cw_icmp_ge (tgt := 14) (pc := 7) dX8_isStep_7 (by decide) (fun c7 => ?_) (fun c7 => ?_)
    · refine cw_iconst (v := 0) (pc := 14) dX8_isStep_14 (by decide) <|
        cw_zret (pc := 15) dX8_isStep_15 hR rfl <|
        (by first | exact ⟨by rw [bI_t (by grind)], rfl⟩ | exact ⟨by rw [bI_f (by grind)], rfl⟩)
    · refine cw_iconst (v := 1) (pc := 10) dX8_isStep_10 (by decide) <|
        cw_goto (tgt := 15) (pc := 11) dX8_isStep_11 (by decide) <|
        cw_zret (pc := 15) dX8_isStep_15 hR rfl <|
        (by first | exact ⟨by rw [bI_t (by grind)], rfl⟩ | exact ⟨by rw [bI_f (by grind)], rfl⟩)
set_option maxHeartbeats 4000000 in
set_option maxRecDepth 100000 in
theorem c_X8_isLane {E : Ev} {x : Int32} {μ : Mem} : AM E yX8_isLane cX8_isLane 1 (some .boolean) 0 [.int x] μ (fun r μ' => r = some (.int (bI (0 ≤ x ∧ x < 9))) ∧ μ' = μ) := by
  refine am_of (own := RX8) (L := [.int x]) (by decide) rfl (Nat.le_of_ble_eq_true rfl) rfl (fun Γ hR => ?_)
  refine cw_iload_n (pc := 0) dX8_isLane_0 rfl rfl <|
    cw_if_lt (tgt := 14) (pc := 1) dX8_isLane_1 (by decide) (fun c1 => ?_) (fun c1 => ?_)
  · refine cw_iconst (v := 0) (pc := 14) dX8_isLane_14 (by decide) <|
      cw_zret (pc := 15) dX8_isLane_15 hR rfl <|
      (by first | exact ⟨by rw [bI_t (by grind)], rfl⟩ | exact ⟨by rw [bI_f (by grind)], rfl⟩)
  · refine cw_iload_n (pc := 4) dX8_isLane_4 rfl rfl <|
      cw_bipush (v := 9) (pc := 5) dX8_isLane_5 (by decide) <|
      cw_icmp_ge (tgt := 14) (pc := 7) dX8_isLane_7 (by decide) (fun c7 => ?_) (fun c7 => ?_)
    · refine cw_iconst (v := 0) (pc := 14) dX8_isLane_14 (by decide) <|
        cw_zret (pc := 15) dX8_isLane_15 hR rfl <|
        (by first | exact ⟨by rw [bI_t (by grind)], rfl⟩ | exact ⟨by rw [bI_f (by grind)], rfl⟩)
    · refine cw_iconst (v := 1) (pc := 10) dX8_isLane_10 (by decide) <|
        cw_goto (tgt := 15) (pc := 11) dX8_isLane_11 (by decide) <|
        cw_zret (pc := 15) dX8_isLane_15 hR rfl <|
        (by first | exact ⟨by rw [bI_t (by grind)], rfl⟩ | exact ⟨by rw [bI_f (by grind)], rfl⟩)
set_option maxHeartbeats 4000000 in
set_option maxRecDepth 100000 in
theorem c_X8_isDigit {E : Ev} {x : Int32} {μ : Mem} : AM E yX8_isDigit cX8_isDigit 1 (some .boolean) 0 [.int x] μ (fun r μ' => r = some (.int (bI (0 ≤ x ∧ x ≤ 9))) ∧ μ' = μ) := by
  refine am_of (own := RX8) (L := [.int x]) (by decide) rfl (Nat.le_of_ble_eq_true rfl) rfl (fun Γ hR => ?_)
  refine cw_iload_n (pc := 0) dX8_isDigit_0 rfl rfl <|
    cw_if_lt (tgt := 14) (pc := 1) dX8_isDigit_1 (by decide) (fun c1 => ?_) (fun c1 => ?_)
  · refine cw_iconst (v := 0) (pc := 14) dX8_isDigit_14 (by decide) <|
      cw_zret (pc := 15) dX8_isDigit_15 hR rfl <|
      (by first | exact ⟨by rw [bI_t (by grind)], rfl⟩ | exact ⟨by rw [bI_f (by grind)], rfl⟩)
  · refine cw_iload_n (pc := 4) dX8_isDigit_4 rfl rfl <|
      cw_bipush (v := 9) (pc := 5) dX8_isDigit_5 (by decide) <|
      cw_icmp_gt (tgt := 14) (pc := 7) dX8_isDigit_7 (by decide) (fun c7 => ?_) (fun c7 => ?_)
    · refine cw_iconst (v := 0) (pc := 14) dX8_isDigit_14 (by decide) <|
        cw_zret (pc := 15) dX8_isDigit_15 hR rfl <|
        (by first | exact ⟨by rw [bI_t (by grind)], rfl⟩ | exact ⟨by rw [bI_f (by grind)], rfl⟩)
    · refine cw_iconst (v := 1) (pc := 10) dX8_isDigit_10 (by decide) <|
        cw_goto (tgt := 15) (pc := 11) dX8_isDigit_11 (by decide) <|
        cw_zret (pc := 15) dX8_isDigit_15 hR rfl <|
        (by first | exact ⟨by rw [bI_t (by grind)], rfl⟩ | exact ⟨by rw [bI_f (by grind)], rfl⟩)
set_option maxHeartbeats 4000000 in
set_option maxRecDepth 100000 in
theorem c_X8_isFind {E : Ev} {x : Int32} {μ : Mem} : AM E yX8_isFind cX8_isFind 1 (some .boolean) 0 [.int x] μ (fun r μ' => r = some (.int (bI (1 ≤ x ∧ x ≤ 9))) ∧ μ' = μ) := by
  refine am_of (own := RX8) (L := [.int x]) (by decide) rfl (Nat.le_of_ble_eq_true rfl) rfl (fun Γ hR => ?_)
  refine cw_iload_n (pc := 0) dX8_isFind_0 rfl rfl <|
    cw_iconst (v := 1) (pc := 1) dX8_isFind_1 (by decide) <|
    cw_icmp_lt (tgt := 15) (pc := 2) dX8_isFind_2 (by decide) (fun c2 => ?_) (fun c2 => ?_)
  · refine cw_iconst (v := 0) (pc := 15) dX8_isFind_15 (by decide) <|
      cw_zret (pc := 16) dX8_isFind_16 hR rfl <|
      (by first | exact ⟨by rw [bI_t (by grind)], rfl⟩ | exact ⟨by rw [bI_f (by grind)], rfl⟩)
  · refine cw_iload_n (pc := 5) dX8_isFind_5 rfl rfl <|
      cw_bipush (v := 9) (pc := 6) dX8_isFind_6 (by decide) <|
      cw_icmp_gt (tgt := 15) (pc := 8) dX8_isFind_8 (by decide) (fun c8 => ?_) (fun c8 => ?_)
    · refine cw_iconst (v := 0) (pc := 15) dX8_isFind_15 (by decide) <|
        cw_zret (pc := 16) dX8_isFind_16 hR rfl <|
        (by first | exact ⟨by rw [bI_t (by grind)], rfl⟩ | exact ⟨by rw [bI_f (by grind)], rfl⟩)
    · refine cw_iconst (v := 1) (pc := 11) dX8_isFind_11 (by decide) <|
        cw_goto (tgt := 16) (pc := 12) dX8_isFind_12 (by decide) <|
        cw_zret (pc := 16) dX8_isFind_16 hR rfl <|
        (by first | exact ⟨by rw [bI_t (by grind)], rfl⟩ | exact ⟨by rw [bI_f (by grind)], rfl⟩)
set_option maxHeartbeats 4000000 in
set_option maxRecDepth 100000 in
theorem c_X8_isPart {E : Ev} {x : Int32} {μ : Mem} : AM E yX8_isPart cX8_isPart 1 (some .boolean) 0 [.int x] μ (fun r μ' => r = some (.int (bI (x = 0 ∨ x = 1))) ∧ μ' = μ) := by
  refine am_of (own := RX8) (L := [.int x]) (by decide) rfl (Nat.le_of_ble_eq_true rfl) rfl (fun Γ hR => ?_)
  refine cw_iload_n (pc := 0) dX8_isPart_0 rfl rfl <|
    cw_if_eq (tgt := 9) (pc := 1) dX8_isPart_1 (by decide) (fun c1 => ?_) (fun c1 => ?_)
  · refine cw_iconst (v := 1) (pc := 9) dX8_isPart_9 (by decide) <|
      cw_goto (tgt := 14) (pc := 10) dX8_isPart_10 (by decide) <|
      cw_zret (pc := 14) dX8_isPart_14 hR rfl <|
      (by first | exact ⟨by rw [bI_t (by grind)], rfl⟩ | exact ⟨by rw [bI_f (by grind)], rfl⟩)
  · refine cw_iload_n (pc := 4) dX8_isPart_4 rfl rfl <|
      cw_iconst (v := 1) (pc := 5) dX8_isPart_5 (by decide) <|
      cw_icmp_ne (tgt := 13) (pc := 6) dX8_isPart_6 (by decide) (fun c6 => ?_) (fun c6 => ?_)
    · refine cw_iconst (v := 0) (pc := 13) dX8_isPart_13 (by decide) <|
        cw_zret (pc := 14) dX8_isPart_14 hR rfl <|
        (by first | exact ⟨by rw [bI_t (by grind)], rfl⟩ | exact ⟨by rw [bI_f (by grind)], rfl⟩)
    · refine cw_iconst (v := 1) (pc := 9) dX8_isPart_9 (by decide) <|
        cw_goto (tgt := 14) (pc := 10) dX8_isPart_10 (by decide) <|
        cw_zret (pc := 14) dX8_isPart_14 hR rfl <|
        (by first | exact ⟨by rw [bI_t (by grind)], rfl⟩ | exact ⟨by rw [bI_f (by grind)], rfl⟩)
set_option maxHeartbeats 4000000 in
set_option maxRecDepth 100000 in
theorem c_X8_bit {E : Ev} {x y : Int32} {μ : Mem} : AM E yX8_bit cX8_bit 2 (some .int) 0 [.int x, .int y] μ (fun r μ' => r = some (.int (x >>> (y &&& 31) &&& 1)) ∧ μ' = μ) := by
  refine am_of (own := RX8) (L := [.int x, .int y]) (by decide) rfl (Nat.le_of_ble_eq_true rfl) rfl (fun Γ hR => ?_)
  refine cw_iload_n (pc := 0) dX8_bit_0 rfl rfl <|
    cw_iload_n (pc := 1) dX8_bit_1 rfl rfl <|
    cw_ishr (pc := 2) dX8_bit_2 <|
    cw_iconst (v := 1) (pc := 3) dX8_bit_3 (by decide) <|
    cw_iand (pc := 4) dX8_bit_4 <|
    cw_iret (pc := 5) dX8_bit_5 hR <|
    ⟨rfl, rfl⟩
def LandAt (k : Nat) : Prop := shape[k]? = some (2, 0, [none, none, none, none, some (k + 1), some (k + 2), some (k + 3), some (k + 4), some (k + 5), some (k + 6)]) ∧ shape[k + 1]? = some (100, 12, []) ∧ shape[k + 2]? = some (100, 6, []) ∧ shape[k + 3]? = some (100, 6, []) ∧ shape[k + 4]? = some (100, 6, []) ∧ shape[k + 5]? = some (100, 6, []) ∧ shape[k + 6]? = some (100, 24, [])
theorem land_2 : LandAt 2 := ⟨rfl, rfl, rfl, rfl, rfl, rfl, rfl⟩
theorem land_23 : LandAt 23 := ⟨rfl, rfl, rfl, rfl, rfl, rfl, rfl⟩
theorem land_43 : LandAt 43 := ⟨rfl, rfl, rfl, rfl, rfl, rfl, rfl⟩
set_option maxHeartbeats 4000000 in
set_option maxRecDepth 100000 in
theorem c_X2_has {E : Ev} {k : Nat} (hk : LandAt k) {x : Int32} {μ : Mem} : AM E yX2_has cX2_has 2 (some .boolean) 0 [.ref k, .int x] μ (fun r μ' => r = some (.int (bI (0 ≤ x ∧ x < μ k 1 ∧ x < 6))) ∧ μ' = μ) := by
  refine am_of (own := RX2) (L := [.ref k, .int x]) (by decide) rfl (Nat.le_of_ble_eq_true rfl) rfl (fun Γ hR => ?_)
  refine cw_iload_n (pc := 0) dX2_has_0 rfl rfl <|
    cw_if_lt (tgt := 22) (pc := 1) dX2_has_1 (by decide) (fun c1 => ?_) (fun c1 => ?_)
  · refine cw_iconst (v := 0) (pc := 22) dX2_has_22 (by decide) <|
      cw_zret (pc := 23) dX2_has_23 hR rfl <|
      (by first | exact ⟨by rw [bI_t (by grind)], rfl⟩ | exact ⟨by rw [bI_f (by grind)], rfl⟩)
  · refine cw_iload_n (pc := 4) dX2_has_4 rfl rfl <|
      cw_aload_n (pc := 5) dX2_has_5 rfl rfl <|
      cw_getI (q := k) (pc := 6) dX2_has_6 fX2_30 hk.1 (by decide) rfl <|
      cw_icmp_ge (tgt := 22) (pc := 9) dX2_has_9 (by decide) (fun c9 => ?_) (fun c9 => ?_)
    · refine cw_iconst (v := 0) (pc := 22) dX2_has_22 (by decide) <|
        cw_zret (pc := 23) dX2_has_23 hR rfl <|
        (by first | exact ⟨by rw [bI_t (by grind)], rfl⟩ | exact ⟨by rw [bI_f (by grind)], rfl⟩)
    · refine cw_iload_n (pc := 12) dX2_has_12 rfl rfl <|
        cw_bipush (v := 6) (pc := 13) dX2_has_13 (by decide) <|
        cw_icmp_ge (tgt := 22) (pc := 15) dX2_has_15 (by decide) (fun c15 => ?_) (fun c15 => ?_)
      · refine cw_iconst (v := 0) (pc := 22) dX2_has_22 (by decide) <|
          cw_zret (pc := 23) dX2_has_23 hR rfl <|
          (by first | exact ⟨by rw [bI_t (by grind)], rfl⟩ | exact ⟨by rw [bI_f (by grind)], rfl⟩)
      · refine cw_iconst (v := 1) (pc := 18) dX2_has_18 (by decide) <|
          cw_goto (tgt := 23) (pc := 19) dX2_has_19 (by decide) <|
          cw_zret (pc := 23) dX2_has_23 hR rfl <|
          (by first | exact ⟨by rw [bI_t (by grind)], rfl⟩ | exact ⟨by rw [bI_f (by grind)], rfl⟩)
