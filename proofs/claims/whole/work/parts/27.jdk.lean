theorem cw_ldcw {E : Ev} {Γ : Cx} {cc : ByteArray} {nL : Nat} {own : String} {d pc : Nat} {L S : List Value} {μ : Mem} {idx : Nat} {v : Int32} (hd : decode cc pc = .ok (.ldc_w idx, 3)) (hw : Jvm.Cond.constant own idx v ∈ lw_good) (k : CW E Γ cc nL own d (pc + 3) L (.int v :: S) μ) : CW E Γ cc nL own d pc L S μ :=
  fun C H locs ls hP hS hl => lv_ldcw C.1 C.2.1 C.2.2.2.1 (C.2.2.2.2.1 _ hw) hd (k C H locs ls hP hS hl)
theorem cw_i2c {E : Ev} {Γ : Cx} {cc : ByteArray} {nL : Nat} {own : String} {d pc : Nat} {L S : List Value} {μ : Mem} {x : Int32} (hd : decode cc pc = .ok (.i2c, 1)) (k : CW E Γ cc nL own d (pc + 1) L (.int (x.toUInt32 % 65536).toInt32 :: S) μ) : CW E Γ cc nL own d pc L (.int x :: S) μ :=
  fun C H locs ls hP hS hl => lv_i2c C.1 C.2.1 hd rfl (k C H locs ls hP hS hl)
def ushr (x y : Int32) : Int32 := (x.toUInt32 >>> (y.toUInt32 &&& Int32.toUInt32 31)).toInt32
/-- what bitCount computes -/
def bcI (x : Int32) : Int32 :=
  let a := x - (ushr x 1 &&& 1431655765)
  let b := (a &&& 858993459) + (ushr a 2 &&& 858993459)
  let c := (b + ushr b 4) &&& 252645135
  let e := c + ushr c 8
  (e + ushr e 16) &&& 63
def popN : Nat → Nat → Nat
  | 0, _ => 0
  | k + 1, m => m % 2 + popN k (m / 2)
theorem bc_small0 : (List.range 64).all (fun a => (List.range 64).all fun b => decide (bcI (nI (64 * a + b)) = nI (popN 12 (64 * a + b)))) = true := by decide +kernel
theorem bc_small {m : Nat} (h : m < 4096) : bcI (nI m) = nI (popN 12 m) := by
  have h1 := List.all_eq_true.mp bc_small0 (m / 64) (List.mem_range.mpr (by omega))
  have h2 := List.all_eq_true.mp h1 (m % 64) (List.mem_range.mpr (by omega))
  rw [show 64 * (m / 64) + m % 64 = m by omega] at h2
  exact of_decide_eq_true h2
set_option maxHeartbeats 4000000 in
set_option maxRecDepth 100000 in
theorem c_J6_bitCount_0f7a4 {E : Ev} {x : Int32} {μ : Mem} : AM E yJ6_bitCount_0f7a4 cJ6_bitCount_0f7a4 1 (some .int) 0 [.int x] μ (fun r μ' => r = some (.int (bcI x)) ∧ μ' = μ) := by
  refine am_ofF (own := RJ6) (L := [.int x]) (by decide +kernel) rfl (Nat.le_of_ble_eq_true rfl) rfl (fun Γ hR => ?_)
  refine cw_iload_n (pc := 0) dJ6_bitCount_0f7a4_0 rfl rfl <|
    cw_iload_n (pc := 1) dJ6_bitCount_0f7a4_1 rfl rfl <|
    cw_iconst (v := 1) (pc := 2) dJ6_bitCount_0f7a4_2 (by decide) <|
    cw_iushr (pc := 3) dJ6_bitCount_0f7a4_3 <|
    cw_ldcw (pc := 4) dJ6_bitCount_0f7a4_4 kJ6_265 <|
    cw_iand (pc := 7) dJ6_bitCount_0f7a4_7 <|
    cw_isub (pc := 8) dJ6_bitCount_0f7a4_8 <|
    cw_istore_n (L' := [_]) (pc := 9) dJ6_bitCount_0f7a4_9 rfl (by decide) rfl rfl <|
    cw_iload_n (pc := 10) dJ6_bitCount_0f7a4_10 rfl rfl <|
    cw_ldcw (pc := 11) dJ6_bitCount_0f7a4_11 kJ6_266 <|
    cw_iand (pc := 14) dJ6_bitCount_0f7a4_14 <|
    cw_iload_n (pc := 15) dJ6_bitCount_0f7a4_15 rfl rfl <|
    cw_iconst (v := 2) (pc := 16) dJ6_bitCount_0f7a4_16 (by decide) <|
    cw_iushr (pc := 17) dJ6_bitCount_0f7a4_17 <|
    cw_ldcw (pc := 18) dJ6_bitCount_0f7a4_18 kJ6_266 <|
    cw_iand (pc := 21) dJ6_bitCount_0f7a4_21 <|
    cw_iadd (pc := 22) dJ6_bitCount_0f7a4_22 <|
    cw_istore_n (L' := [_]) (pc := 23) dJ6_bitCount_0f7a4_23 rfl (by decide) rfl rfl <|
    cw_iload_n (pc := 24) dJ6_bitCount_0f7a4_24 rfl rfl <|
    cw_iload_n (pc := 25) dJ6_bitCount_0f7a4_25 rfl rfl <|
    cw_iconst (v := 4) (pc := 26) dJ6_bitCount_0f7a4_26 (by decide) <|
    cw_iushr (pc := 27) dJ6_bitCount_0f7a4_27 <|
    cw_iadd (pc := 28) dJ6_bitCount_0f7a4_28 <|
    cw_ldcw (pc := 29) dJ6_bitCount_0f7a4_29 kJ6_267 <|
    cw_iand (pc := 32) dJ6_bitCount_0f7a4_32 <|
    cw_istore_n (L' := [_]) (pc := 33) dJ6_bitCount_0f7a4_33 rfl (by decide) rfl rfl <|
    cw_iload_n (pc := 34) dJ6_bitCount_0f7a4_34 rfl rfl <|
    cw_iload_n (pc := 35) dJ6_bitCount_0f7a4_35 rfl rfl <|
    cw_bipush (v := 8) (pc := 36) dJ6_bitCount_0f7a4_36 (by decide) <|
    cw_iushr (pc := 38) dJ6_bitCount_0f7a4_38 <|
    cw_iadd (pc := 39) dJ6_bitCount_0f7a4_39 <|
    cw_istore_n (L' := [_]) (pc := 40) dJ6_bitCount_0f7a4_40 rfl (by decide) rfl rfl <|
    cw_iload_n (pc := 41) dJ6_bitCount_0f7a4_41 rfl rfl <|
    cw_iload_n (pc := 42) dJ6_bitCount_0f7a4_42 rfl rfl <|
    cw_bipush (v := 16) (pc := 43) dJ6_bitCount_0f7a4_43 (by decide) <|
    cw_iushr (pc := 45) dJ6_bitCount_0f7a4_45 <|
    cw_iadd (pc := 46) dJ6_bitCount_0f7a4_46 <|
    cw_istore_n (L' := [_]) (pc := 47) dJ6_bitCount_0f7a4_47 rfl (by decide) rfl rfl <|
    cw_iload_n (pc := 48) dJ6_bitCount_0f7a4_48 rfl rfl <|
    cw_bipush (v := 63) (pc := 49) dJ6_bitCount_0f7a4_49 (by decide) <|
    cw_iand (pc := 51) dJ6_bitCount_0f7a4_51 <|
    cw_iret (pc := 52) dJ6_bitCount_0f7a4_52 hR <|
    ⟨rfl, rfl⟩
set_option maxHeartbeats 4000000 in
set_option maxRecDepth 100000 in
theorem c_J7_fill_53178 {E : Ev} {μ : Mem} {q n : Nat} (hq : shape[q]? = some (100, n, [])) (hn : n < 2 ^ 31) {v : Int32} : AM E yJ7_fill_53178 cJ7_fill_53178 4 none 0 [.ref q, .int v] μ (fun r μ' => r = none ∧ (∀ j, j < n → μ' q j = v) ∧ Same (fun a _ => a = q) μ μ') := by
  refine am_ofF (own := RJ7) (L := [.ref q, .int v, .null, .null]) (by decide +kernel) rfl (Nat.le_of_ble_eq_true rfl) rfl (fun Γ hR => ?_)
  refine cw_iconst (v := 0) (pc := 0) dJ7_fill_53178_0 (by decide) <|
    cw_istore_n (L' := [_, _, _, _]) (pc := 1) dJ7_fill_53178_1 rfl (by decide) rfl rfl <|
    cw_aload_n (pc := 2) dJ7_fill_53178_2 rfl rfl <|
    cw_alenN (q := q) (pc := 3) dJ7_fill_53178_3 hq <|
    cw_istore_n (L' := [_, _, _, _]) (pc := 4) dJ7_fill_53178_4 rfl (by decide) rfl rfl <|
    ?_
  refine cw_for (σ := Unit) n (fun i _ m => (∀ j, j < i → m q j = v) ∧ (∀ j, i ≤ j → m q j = μ q j) ∧ Same (fun a _ => a = q) μ m) (fun i _ => [.ref q, .int v, .int (nI i), .int (nI n)]) ?_ ?_ 0 () μ (Nat.zero_le _) ⟨fun j h => absurd h (Nat.not_lt_zero j), fun _ _ => rfl, Same.rf⟩
  · rintro _ m ⟨h1, h2, hS1⟩
    refine cw_iload_n (pc := 5) dJ7_fill_53178_5 rfl rfl <|
      cw_iload_n (pc := 6) dJ7_fill_53178_6 rfl rfl <|
      cw_icmp_ge_T (tgt := 20) (pc := 7) dJ7_fill_53178_7 (by decide) (nI_le (Nat.le_refl _) hn) <|
      cw_vret (pc := 20) dJ7_fill_53178_20 hR <|
      ⟨rfl, h1, hS1⟩
  · rintro i _ m hi ⟨h1, h2, hS1⟩ ih
    refine cw_iload_n (pc := 5) dJ7_fill_53178_5 rfl rfl <|
      cw_iload_n (pc := 6) dJ7_fill_53178_6 rfl rfl <|
      cw_icmp_ge_F (tgt := 20) (pc := 7) dJ7_fill_53178_7 (by decide) (nI_ge hi hn) <|
      cw_aload_n (pc := 10) dJ7_fill_53178_10 rfl rfl <|
      cw_iload_n (pc := 11) dJ7_fill_53178_11 rfl rfl <|
      cw_iload_n (pc := 12) dJ7_fill_53178_12 rfl rfl <|
      cw_ias (q := q) (jn := i) (pc := 13) dJ7_fill_53178_13 hq rfl hi hn <|
      cw_iincL (L' := [_, _, _, _]) (c := 1) (pc := 14) dJ7_fill_53178_14 rfl (by decide) (by decide) rfl rfl <|
      cw_goto (tgt := 5) (pc := 17) dJ7_fill_53178_17 (by decide) <|
      ?_
    rw [nI_1]
    exact ih () _ ⟨fun j hj => by
      by_cases e : j = i
      · subst e; exact st_eq _ _ _ _
      · rw [st_at, if_neg (fun h => e h.2)]; exact h1 j (by omega), fun j hj => by rw [st_at, if_neg (by omega)]; exact h2 j (by omega), hS1.s1 rfl⟩
theorem wJ0_9 : Cond.fieldLink RJ0 9 "java/lang/String" "value" "[B" ∈ lw_good := mg (mT 1187 (by decide +kernel)) rfl
theorem wJ0_15 : Cond.fieldLink RJ0 15 "java/lang/String" "coder" "B" ∈ lw_good := mg (mT 1188 (by decide +kernel)) rfl
set_option maxHeartbeats 4000000 in
set_option maxRecDepth 100000 in
theorem c_J0_coder_7d493 {E : Ev} {i : Nat} (hi : i < 8) {μ : Mem} : AM E yJ0_coder_7d493 cJ0_coder_7d493 1 (some .byte) 0 [.ref (80 + i)] μ (fun r μ' => r = some (.int 0) ∧ μ' = μ) := by
  refine am_ofF (own := RJ0) (L := [.ref (80 + i)]) (by decide +kernel) rfl (Nat.le_of_ble_eq_true rfl) rfl (fun Γ hR => ?_)
  refine cw_compact (pc := 0) dJ0_coder_7d493_0 zJ0_38 <|
    cw_if_eq_F (tgt := 13) (pc := 3) dJ0_coder_7d493_3 (by decide) (by decide) <|
    cw_aload_n (pc := 6) dJ0_coder_7d493_6 rfl rfl <|
    cw_strCod (pc := 7) hi dJ0_coder_7d493_7 wJ0_15 <|
    cw_goto (tgt := 14) (pc := 10) dJ0_coder_7d493_10 (by decide) <|
    cw_zret (pc := 14) dJ0_coder_7d493_14 hR rfl <|
    ⟨rfl, rfl⟩
set_option maxHeartbeats 4000000 in
set_option maxRecDepth 100000 in
theorem c_J0_isLatin1_aae02 {E : Ev} {i : Nat} (hi : i < 8) {μ : Mem} : AM E yJ0_isLatin1_aae02 cJ0_isLatin1_aae02 1 (some .boolean) 0 [.ref (80 + i)] μ (fun r μ' => r = some (.int 1) ∧ μ' = μ) := by
  refine am_ofF (own := RJ0) (L := [.ref (80 + i)]) (by decide +kernel) rfl (Nat.le_of_ble_eq_true rfl) rfl (fun Γ hR => ?_)
  refine cw_compact (pc := 0) dJ0_isLatin1_aae02_0 zJ0_38 <|
    cw_if_eq_F (tgt := 17) (pc := 3) dJ0_isLatin1_aae02_3 (by decide) (by decide) <|
    cw_aload_n (pc := 6) dJ0_isLatin1_aae02_6 rfl rfl <|
    cw_strCod (pc := 7) hi dJ0_isLatin1_aae02_7 wJ0_15 <|
    cw_if_ne_F (tgt := 17) (pc := 10) dJ0_isLatin1_aae02_10 (by decide) (by decide) <|
    cw_iconst (v := 1) (pc := 13) dJ0_isLatin1_aae02_13 (by decide) <|
    cw_goto (tgt := 18) (pc := 14) dJ0_isLatin1_aae02_14 (by decide) <|
    cw_zret (pc := 18) dJ0_isLatin1_aae02_18 hR rfl <|
    ⟨rfl, rfl⟩
theorem len_sh {i : Nat} (hi : i < 8) : nI (lenS.getD i 0) >>> ((0 : Int32) &&& 31) = nI (lenS.getD i 0) := by
  rcases (show i = 0 ∨ i = 1 ∨ i = 2 ∨ i = 3 ∨ i = 4 ∨ i = 5 ∨ i = 6 ∨ i = 7 by omega) with rfl | rfl | rfl | rfl | rfl | rfl | rfl | rfl <;> rfl
set_option maxHeartbeats 4000000 in
set_option maxRecDepth 100000 in
theorem c_J0_length_8abf5 {E : Ev} {i : Nat} (hi : i < 8) {μ : Mem} : AM E yJ0_length_8abf5 cJ0_length_8abf5 1 (some .int) 1 [.ref (80 + i)] μ (fun r μ' => r = some (.int (nI (lenS.getD i 0))) ∧ μ' = μ) := by
  refine am_ofF (own := RJ0) (L := [.ref (80 + i)]) (by decide +kernel) rfl (Nat.le_of_ble_eq_true rfl) rfl (fun Γ hR => ?_)
  refine cw_aload_n (pc := 0) dJ0_length_8abf5_0 rfl rfl <|
    cw_strVal (pc := 1) hi dJ0_length_8abf5_1 wJ0_9 <|
    cw_strLen (pc := 4) hi dJ0_length_8abf5_4 <|
    cw_aload_n (pc := 5) dJ0_length_8abf5_5 rfl rfl <|
    cw_invSI (pc := 6) (by assumption) dJ0_length_8abf5_6 (c_J0_coder_7d493 hi) vJ0_335 rfl rfl rfl (by decide) <|
    cw_ishr (pc := 9) dJ0_length_8abf5_9 <|
    ?_
  rw [len_sh hi]
  refine cw_iret (pc := 10) dJ0_length_8abf5_10 hR <|
    ⟨rfl, rfl⟩
set_option maxHeartbeats 4000000 in
set_option maxRecDepth 100000 in
theorem c_J3_checkIndex_8e157_n {E : Ev} {j n : Nat} (h : j < n) (hn : n < 2 ^ 31) {μ : Mem} : AM E yJ3_checkIndex_8e157 cJ3_checkIndex_8e157 3 (some .int) 0 [.int (nI j), .int (nI n), .null] μ (fun r μ' => r = some (.int (nI j)) ∧ μ' = μ) := by
  refine am_ofF (own := RJ3) (L := [.int (nI j), .int (nI n), .null]) (by decide +kernel) rfl (Nat.le_of_ble_eq_true rfl) rfl (fun Γ hR => ?_)
  refine cw_iload_n (pc := 0) dJ3_checkIndex_8e157_0 rfl rfl <|
    cw_if_lt_F (tgt := 9) (pc := 1) dJ3_checkIndex_8e157_1 (by decide) (nI_pos (by omega)) <|
    cw_iload_n (pc := 4) dJ3_checkIndex_8e157_4 rfl rfl <|
    cw_iload_n (pc := 5) dJ3_checkIndex_8e157_5 rfl rfl <|
    cw_icmp_lt_T (tgt := 16) (pc := 6) dJ3_checkIndex_8e157_6 (by decide) (nI_lt h hn) <|
    cw_iload_n (pc := 16) dJ3_checkIndex_8e157_16 rfl rfl <|
    cw_iret (pc := 17) dJ3_checkIndex_8e157_17 hR <|
    ⟨rfl, rfl⟩
set_option maxHeartbeats 4000000 in
set_option maxRecDepth 100000 in
theorem c_J3_checkIndex_8e157_r {E : Ev} {j n : Nat} (h : j < n) (hn : n < 2 ^ 31) {μ : Mem} : AM E yJ3_checkIndex_8e157 cJ3_checkIndex_8e157 3 (some .int) 0 [.int (nI j), .int (nI n), .ref 79] μ (fun r μ' => r = some (.int (nI j)) ∧ μ' = μ) := by
  refine am_ofF (own := RJ3) (L := [.int (nI j), .int (nI n), .ref 79]) (by decide +kernel) rfl (Nat.le_of_ble_eq_true rfl) rfl (fun Γ hR => ?_)
  refine cw_iload_n (pc := 0) dJ3_checkIndex_8e157_0 rfl rfl <|
    cw_if_lt_F (tgt := 9) (pc := 1) dJ3_checkIndex_8e157_1 (by decide) (nI_pos (by omega)) <|
    cw_iload_n (pc := 4) dJ3_checkIndex_8e157_4 rfl rfl <|
    cw_iload_n (pc := 5) dJ3_checkIndex_8e157_5 rfl rfl <|
    cw_icmp_lt_T (tgt := 16) (pc := 6) dJ3_checkIndex_8e157_6 (by decide) (nI_lt h hn) <|
    cw_iload_n (pc := 16) dJ3_checkIndex_8e157_16 rfl rfl <|
    cw_iret (pc := 17) dJ3_checkIndex_8e157_17 hR <|
    ⟨rfl, rfl⟩
set_option maxHeartbeats 4000000 in
set_option maxRecDepth 100000 in
theorem c_J0_checkIndex_df160 {E : Ev} {j n : Nat} (h : j < n) (hn : n < 2 ^ 31) {μ : Mem} : AM E yJ0_checkIndex_df160 cJ0_checkIndex_df160 2 none 1 [.int (nI j), .int (nI n)] μ (fun r μ' => r = none ∧ μ' = μ) := by
  refine am_ofF (own := RJ0) (L := [.int (nI j), .int (nI n)]) (by decide +kernel) rfl (Nat.le_of_ble_eq_true rfl) rfl (fun Γ hR => ?_)
  refine cw_iload_n (pc := 0) dJ0_checkIndex_df160_0 rfl rfl <|
    cw_iload_n (pc := 1) dJ0_checkIndex_df160_1 rfl rfl <|
    cw_sioobe (pc := 2) dJ0_checkIndex_df160_2 zJ0_1053 (fun v hv => ?_)
  rcases hv with rfl | rfl
  · refine cw_insI (pc := 5) dJ0_checkIndex_df160_5 (c_J3_checkIndex_8e157_n h hn) vJ0_1059 rfl rfl rfl (by decide) <|
      cw_pop (pc := 8) dJ0_checkIndex_df160_8 rfl <|
      cw_vret (pc := 9) dJ0_checkIndex_df160_9 hR <|
      ⟨rfl, rfl⟩
  · refine cw_insI (pc := 5) dJ0_checkIndex_df160_5 (c_J3_checkIndex_8e157_r h hn) vJ0_1059 rfl rfl rfl (by decide) <|
      cw_pop (pc := 8) dJ0_checkIndex_df160_8 rfl <|
      cw_vret (pc := 9) dJ0_checkIndex_df160_9 hR <|
      ⟨rfl, rfl⟩
def chS (i j : Nat) : Int32 := (bytS.getD i []).getD j 0
theorem ch_ok : ∀ i, i < 8 → ∀ j, j < lenS.getD i 0 → ((chS i j &&& 255).toUInt32 % 65536).toInt32 = chS i j := by decide +kernel
theorem ch_nr : ∀ i, i < 8 → ∀ j, j < lenS.getD i 0 → narrow .char (.int (chS i j)) = .int (chS i j) := by decide +kernel
theorem len_lt : ∀ i, i < 8 → lenS.getD i 0 < 10 := by decide
set_option maxHeartbeats 4000000 in
set_option maxRecDepth 100000 in
theorem c_J1_charAt_3b067 {E : Ev} {i j : Nat} (hi : i < 8) (hj : j < lenS.getD i 0) {μ : Mem} : AM E yJ1_charAt_3b067 cJ1_charAt_3b067 2 (some .char) 2 [.ref (90 + i), .int (nI j)] μ (fun r μ' => r = some (.int (chS i j)) ∧ μ' = μ) := by
  refine am_ofF (own := RJ1) (L := [.ref (90 + i), .int (nI j)]) (by decide +kernel) rfl (Nat.le_of_ble_eq_true rfl) rfl (fun Γ hR => ?_)
  refine cw_iload_n (pc := 0) dJ1_charAt_3b067_0 rfl rfl <|
    cw_aload_n (pc := 1) dJ1_charAt_3b067_1 rfl rfl <|
    cw_strLen (pc := 2) hi dJ1_charAt_3b067_2 <|
    cw_insV (pc := 3) dJ1_charAt_3b067_3 (c_J0_checkIndex_df160 hj (by have := len_lt i hi; omega)) vJ1_9 rfl rfl rfl (by decide) <|
    cw_aload_n (pc := 6) dJ1_charAt_3b067_6 rfl rfl <|
    cw_iload_n (pc := 7) dJ1_charAt_3b067_7 rfl rfl <|
    cw_strByt (pc := 8) hi (vp_in_nI hj (by have := len_lt i hi; omega)) dJ1_charAt_3b067_8 <|
    ?_
  rw [nI_clamp (by have := len_lt i hi; omega)]
  refine cw_sipush (v := 255) (pc := 9) dJ1_charAt_3b067_9 (by decide) <|
    cw_iand (pc := 12) dJ1_charAt_3b067_12 <|
    cw_i2c (pc := 13) dJ1_charAt_3b067_13 <|
    ?_
  rw [show (bytS.getD i []).getD j 0 = chS i j from rfl, ch_ok i hi j hj]
  refine cw_zret (pc := 14) dJ1_charAt_3b067_14 hR (ch_nr i hi j hj) <|
    ⟨rfl, rfl⟩
set_option maxHeartbeats 4000000 in
set_option maxRecDepth 100000 in
theorem c_J0_charAt_5068e {E : Ev} {i j : Nat} (hi : i < 8) (hj : j < lenS.getD i 0) {μ : Mem} : AM E yJ0_charAt_5068e cJ0_charAt_5068e 2 (some .char) 3 [.ref (80 + i), .int (nI j)] μ (fun r μ' => r = some (.int (chS i j)) ∧ μ' = μ) := by
  refine am_ofF (own := RJ0) (L := [.ref (80 + i), .int (nI j)]) (by decide +kernel) rfl (Nat.le_of_ble_eq_true rfl) rfl (fun Γ hR => ?_)
  refine cw_aload_n (pc := 0) dJ0_charAt_5068e_0 rfl rfl <|
    cw_invSI (pc := 1) (by assumption) dJ0_charAt_5068e_1 (c_J0_isLatin1_aae02 hi) vJ0_492 rfl rfl rfl (by decide) <|
    cw_if_eq_F (tgt := 16) (pc := 4) dJ0_charAt_5068e_4 (by decide) (by decide) <|
    cw_aload_n (pc := 7) dJ0_charAt_5068e_7 rfl rfl <|
    cw_strVal (pc := 8) hi dJ0_charAt_5068e_8 wJ0_9 <|
    cw_iload_n (pc := 11) dJ0_charAt_5068e_11 rfl rfl <|
    cw_insI (pc := 12) dJ0_charAt_5068e_12 (c_J1_charAt_3b067 hi hj) vJ0_495 rfl rfl rfl (by decide) <|
    cw_zret (pc := 15) dJ0_charAt_5068e_15 hR (ch_nr i hi j hj) <|
    ⟨rfl, rfl⟩
