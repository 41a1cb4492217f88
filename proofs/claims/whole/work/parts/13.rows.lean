/-- a land that is as another one was -/
def LandEq (μ' : Mem) (k : Nat) (μ : Mem) (o : Nat) : Prop := (∀ i, i < 4 → μ' k i = μ o i) ∧ (∀ j, j < 12 → μ' (k + 1) j = μ (o + 1) j) ∧ (∀ j, j < 6 → μ' (k + 2) j = μ (o + 2) j) ∧ (∀ j, j < 6 → μ' (k + 3) j = μ (o + 3) j) ∧ (∀ j, j < 6 → μ' (k + 4) j = μ (o + 4) j) ∧ (∀ j, j < 6 → μ' (k + 5) j = μ (o + 5) j) ∧ (∀ j, j < 24 → μ' (k + 6) j = μ (o + 6) j)
theorem cpy0 {f g : Nat → Int32} {n j : Nat} (h : j < n) : va_cpy f g 0 0 n j = f j := by simp [va_cpy, h]
set_option maxHeartbeats 4000000 in
set_option maxRecDepth 100000 in
theorem c_X2_takes {E : Ev} {k o : Nat} (hk : LandAt k) (ho : LandAt o) (hd : k + 6 < o ∨ o + 6 < k) {μ : Mem} : AM E yX2_takes cX2_takes 2 none 1 [.ref k, .ref o] μ (fun r μ' => r = none ∧ LandEq μ' k μ o ∧ Same (fun q _ => k ≤ q ∧ q ≤ k + 6) μ μ') := by
  refine am_of (own := RX2) (L := [.ref k, .ref o]) (by decide) rfl (Nat.le_of_ble_eq_true rfl) rfl (fun Γ hR => ?_)
  have o0 : ¬ o = k := by omega
  have o1 : ¬ o = k + 1 := by omega
  have o2 : ¬ o = k + 2 := by omega
  have o3 : ¬ o = k + 3 := by omega
  have o4 : ¬ o = k + 4 := by omega
  have o5 : ¬ o = k + 5 := by omega
  have o6 : ¬ o = k + 6 := by omega
  have e1 : ¬ o + 1 = k := by omega
  have e2 : ¬ o + 2 = k := by omega
  have e3 : ¬ o + 3 = k := by omega
  have e4 : ¬ o + 4 = k := by omega
  have e5 : ¬ o + 5 = k := by omega
  have e6 : ¬ o + 6 = k := by omega
  have e_1_1 : ¬ o + 1 = k + 1 := by omega
  have e_2_1 : ¬ o + 2 = k + 1 := by omega
  have e_3_1 : ¬ o + 3 = k + 1 := by omega
  have e_4_1 : ¬ o + 4 = k + 1 := by omega
  have e_5_1 : ¬ o + 5 = k + 1 := by omega
  have e_6_1 : ¬ o + 6 = k + 1 := by omega
  have e_1_2 : ¬ o + 1 = k + 2 := by omega
  have e_2_2 : ¬ o + 2 = k + 2 := by omega
  have e_3_2 : ¬ o + 3 = k + 2 := by omega
  have e_4_2 : ¬ o + 4 = k + 2 := by omega
  have e_5_2 : ¬ o + 5 = k + 2 := by omega
  have e_6_2 : ¬ o + 6 = k + 2 := by omega
  have e_1_3 : ¬ o + 1 = k + 3 := by omega
  have e_2_3 : ¬ o + 2 = k + 3 := by omega
  have e_3_3 : ¬ o + 3 = k + 3 := by omega
  have e_4_3 : ¬ o + 4 = k + 3 := by omega
  have e_5_3 : ¬ o + 5 = k + 3 := by omega
  have e_6_3 : ¬ o + 6 = k + 3 := by omega
  have e_1_4 : ¬ o + 1 = k + 4 := by omega
  have e_2_4 : ¬ o + 2 = k + 4 := by omega
  have e_3_4 : ¬ o + 3 = k + 4 := by omega
  have e_4_4 : ¬ o + 4 = k + 4 := by omega
  have e_5_4 : ¬ o + 5 = k + 4 := by omega
  have e_6_4 : ¬ o + 6 = k + 4 := by omega
  have e_1_5 : ¬ o + 1 = k + 5 := by omega
  have e_2_5 : ¬ o + 2 = k + 5 := by omega
  have e_3_5 : ¬ o + 3 = k + 5 := by omega
  have e_4_5 : ¬ o + 4 = k + 5 := by omega
  have e_5_5 : ¬ o + 5 = k + 5 := by omega
  have e_6_5 : ¬ o + 6 = k + 5 := by omega
  have e_1_6 : ¬ o + 1 = k + 6 := by omega
  have e_2_6 : ¬ o + 2 = k + 6 := by omega
  have e_3_6 : ¬ o + 3 = k + 6 := by omega
  have e_4_6 : ¬ o + 4 = k + 6 := by omega
  have e_5_6 : ¬ o + 5 = k + 6 := by omega
  have e_6_6 : ¬ o + 6 = k + 6 := by omega
  refine cw_aload_n (pc := 0) dX2_takes_0 rfl rfl <|
    cw_aload_n (pc := 1) dX2_takes_1 rfl rfl <|
    cw_getI (q := o) (pc := 2) dX2_takes_2 fX2_41 ho.1 (by decide) rfl <|
    cw_putI (q := k) (pc := 5) dX2_takes_5 pX2_41 hk.1 (by decide) rfl <|
    cw_aload_n (pc := 8) dX2_takes_8 rfl rfl <|
    cw_aload_n (pc := 9) dX2_takes_9 rfl rfl <|
    cw_getI (q := o) (pc := 10) dX2_takes_10 fX2_30 ho.1 (by decide) rfl <|
    cw_putI (q := k) (pc := 13) dX2_takes_13 pX2_30 hk.1 (by decide) rfl <|
    cw_aload_n (pc := 16) dX2_takes_16 rfl rfl <|
    cw_aload_n (pc := 17) dX2_takes_17 rfl rfl <|
    cw_getI (q := o) (pc := 18) dX2_takes_18 fX2_38 ho.1 (by decide) rfl <|
    cw_putI (q := k) (pc := 21) dX2_takes_21 pX2_38 hk.1 (by decide) rfl <|
    cw_aload_n (pc := 24) dX2_takes_24 rfl rfl <|
    cw_aload_n (pc := 25) dX2_takes_25 rfl rfl <|
    cw_getI (q := o) (pc := 26) dX2_takes_26 fX2_44 ho.1 (by decide) rfl <|
    cw_putI (q := k) (pc := 29) dX2_takes_29 pX2_44 hk.1 (by decide) rfl <|
    cw_aload_n (pc := 32) dX2_takes_32 rfl rfl <|
    cw_getR (q := o) (t := o + 1) (pc := 33) dX2_takes_33 fX2_9 ho.1 (by decide) rfl <|
    cw_iconst (v := 0) (pc := 36) dX2_takes_36 (by decide) <|
    cw_aload_n (pc := 37) dX2_takes_37 rfl rfl <|
    cw_getR (q := k) (t := k + 1) (pc := 38) dX2_takes_38 fX2_9 hk.1 (by decide) rfl <|
    cw_iconst (v := 0) (pc := 41) dX2_takes_41 (by decide) <|
    cw_bipush (v := 12) (pc := 42) dX2_takes_42 (by decide) <|
    cw_acopy (q0 := o + 1) (q1 := k + 1) (pc := 44) dX2_takes_44 aX2_47 ho.2.1 hk.2.1 (by decide) (by omega) (by decide) (by decide) (by decide) (by decide) (by decide) <|
    cw_aload_n (pc := 47) dX2_takes_47 rfl rfl <|
    cw_getR (q := o) (t := o + 2) (pc := 48) dX2_takes_48 fX2_15 ho.1 (by decide) rfl <|
    cw_iconst (v := 0) (pc := 51) dX2_takes_51 (by decide) <|
    cw_aload_n (pc := 52) dX2_takes_52 rfl rfl <|
    cw_getR (q := k) (t := k + 2) (pc := 53) dX2_takes_53 fX2_15 hk.1 (by decide) rfl <|
    cw_iconst (v := 0) (pc := 56) dX2_takes_56 (by decide) <|
    cw_bipush (v := 6) (pc := 57) dX2_takes_57 (by decide) <|
    cw_acopy (q0 := o + 2) (q1 := k + 2) (pc := 59) dX2_takes_59 aX2_47 ho.2.2.1 hk.2.2.1 (by decide) (by omega) (by decide) (by decide) (by decide) (by decide) (by decide) <|
    cw_aload_n (pc := 62) dX2_takes_62 rfl rfl <|
    cw_getR (q := o) (t := o + 3) (pc := 63) dX2_takes_63 fX2_18 ho.1 (by decide) rfl <|
    cw_iconst (v := 0) (pc := 66) dX2_takes_66 (by decide) <|
    cw_aload_n (pc := 67) dX2_takes_67 rfl rfl <|
    cw_getR (q := k) (t := k + 3) (pc := 68) dX2_takes_68 fX2_18 hk.1 (by decide) rfl <|
    cw_iconst (v := 0) (pc := 71) dX2_takes_71 (by decide) <|
    cw_bipush (v := 6) (pc := 72) dX2_takes_72 (by decide) <|
    cw_acopy (q0 := o + 3) (q1 := k + 3) (pc := 74) dX2_takes_74 aX2_47 ho.2.2.2.1 hk.2.2.2.1 (by decide) (by omega) (by decide) (by decide) (by decide) (by decide) (by decide) <|
    cw_aload_n (pc := 77) dX2_takes_77 rfl rfl <|
    cw_getR (q := o) (t := o + 4) (pc := 78) dX2_takes_78 fX2_21 ho.1 (by decide) rfl <|
    cw_iconst (v := 0) (pc := 81) dX2_takes_81 (by decide) <|
    cw_aload_n (pc := 82) dX2_takes_82 rfl rfl <|
    cw_getR (q := k) (t := k + 4) (pc := 83) dX2_takes_83 fX2_21 hk.1 (by decide) rfl <|
    cw_iconst (v := 0) (pc := 86) dX2_takes_86 (by decide) <|
    cw_bipush (v := 6) (pc := 87) dX2_takes_87 (by decide) <|
    cw_acopy (q0 := o + 4) (q1 := k + 4) (pc := 89) dX2_takes_89 aX2_47 ho.2.2.2.2.1 hk.2.2.2.2.1 (by decide) (by omega) (by decide) (by decide) (by decide) (by decide) (by decide) <|
    cw_aload_n (pc := 92) dX2_takes_92 rfl rfl <|
    cw_getR (q := o) (t := o + 5) (pc := 93) dX2_takes_93 fX2_24 ho.1 (by decide) rfl <|
    cw_iconst (v := 0) (pc := 96) dX2_takes_96 (by decide) <|
    cw_aload_n (pc := 97) dX2_takes_97 rfl rfl <|
    cw_getR (q := k) (t := k + 5) (pc := 98) dX2_takes_98 fX2_24 hk.1 (by decide) rfl <|
    cw_iconst (v := 0) (pc := 101) dX2_takes_101 (by decide) <|
    cw_bipush (v := 6) (pc := 102) dX2_takes_102 (by decide) <|
    cw_acopy (q0 := o + 5) (q1 := k + 5) (pc := 104) dX2_takes_104 aX2_47 ho.2.2.2.2.2.1 hk.2.2.2.2.2.1 (by decide) (by omega) (by decide) (by decide) (by decide) (by decide) (by decide) <|
    cw_aload_n (pc := 107) dX2_takes_107 rfl rfl <|
    cw_getR (q := o) (t := o + 6) (pc := 108) dX2_takes_108 fX2_27 ho.1 (by decide) rfl <|
    cw_iconst (v := 0) (pc := 111) dX2_takes_111 (by decide) <|
    cw_aload_n (pc := 112) dX2_takes_112 rfl rfl <|
    cw_getR (q := k) (t := k + 6) (pc := 113) dX2_takes_113 fX2_27 hk.1 (by decide) rfl <|
    cw_iconst (v := 0) (pc := 116) dX2_takes_116 (by decide) <|
    cw_bipush (v := 24) (pc := 117) dX2_takes_117 (by decide) <|
    cw_acopy (q0 := o + 6) (q1 := k + 6) (pc := 119) dX2_takes_119 aX2_47 ho.2.2.2.2.2.2 hk.2.2.2.2.2.2 (by decide) (by omega) (by decide) (by decide) (by decide) (by decide) (by decide) <|
    ?_
  refine cw_vret (pc := 122) dX2_takes_122 hR ?_
  have z0 : (0 : Int32).toNatClampNeg = 0 := rfl
  have z6 : (6 : Int32).toNatClampNeg = 6 := rfl
  have z12 : (12 : Int32).toNatClampNeg = 12 := rfl
  have z24 : (24 : Int32).toNatClampNeg = 24 := rfl
  simp only [z0, z6, z12, z24]
  refine ⟨by trivial, ⟨fun i hi => ?_, fun j hj => ?_, fun j hj => ?_, fun j hj => ?_, fun j hj => ?_, fun j hj => ?_, fun j hj => ?_⟩, ?_⟩
  · rcases (show i = 0 ∨ i = 1 ∨ i = 2 ∨ i = 3 by omega) with rfl | rfl | rfl | rfl <;> simp [str_at, st_at, o0, o1, e1, o2, e2, o3, e3, o4, e4, o5, e5, o6, e6, e_1_1, e_2_1, e_3_1, e_4_1, e_5_1, e_6_1, e_1_2, e_2_2, e_3_2, e_4_2, e_5_2, e_6_2, e_1_3, e_2_3, e_3_3, e_4_3, e_5_3, e_6_3, e_1_4, e_2_4, e_3_4, e_4_4, e_5_4, e_6_4, e_1_5, e_2_5, e_3_5, e_4_5, e_5_5, e_6_5, e_1_6, e_2_6, e_3_6, e_4_6, e_5_6, e_6_6]
  · simp [str_at, st_at, cpy0, hj, o0, o1, e1, o2, e2, o3, e3, o4, e4, o5, e5, o6, e6, e_1_1, e_2_1, e_3_1, e_4_1, e_5_1, e_6_1, e_1_2, e_2_2, e_3_2, e_4_2, e_5_2, e_6_2, e_1_3, e_2_3, e_3_3, e_4_3, e_5_3, e_6_3, e_1_4, e_2_4, e_3_4, e_4_4, e_5_4, e_6_4, e_1_5, e_2_5, e_3_5, e_4_5, e_5_5, e_6_5, e_1_6, e_2_6, e_3_6, e_4_6, e_5_6, e_6_6]
  · simp [str_at, st_at, cpy0, hj, o0, o1, e1, o2, e2, o3, e3, o4, e4, o5, e5, o6, e6, e_1_1, e_2_1, e_3_1, e_4_1, e_5_1, e_6_1, e_1_2, e_2_2, e_3_2, e_4_2, e_5_2, e_6_2, e_1_3, e_2_3, e_3_3, e_4_3, e_5_3, e_6_3, e_1_4, e_2_4, e_3_4, e_4_4, e_5_4, e_6_4, e_1_5, e_2_5, e_3_5, e_4_5, e_5_5, e_6_5, e_1_6, e_2_6, e_3_6, e_4_6, e_5_6, e_6_6]
  · simp [str_at, st_at, cpy0, hj, o0, o1, e1, o2, e2, o3, e3, o4, e4, o5, e5, o6, e6, e_1_1, e_2_1, e_3_1, e_4_1, e_5_1, e_6_1, e_1_2, e_2_2, e_3_2, e_4_2, e_5_2, e_6_2, e_1_3, e_2_3, e_3_3, e_4_3, e_5_3, e_6_3, e_1_4, e_2_4, e_3_4, e_4_4, e_5_4, e_6_4, e_1_5, e_2_5, e_3_5, e_4_5, e_5_5, e_6_5, e_1_6, e_2_6, e_3_6, e_4_6, e_5_6, e_6_6]
  · simp [str_at, st_at, cpy0, hj, o0, o1, e1, o2, e2, o3, e3, o4, e4, o5, e5, o6, e6, e_1_1, e_2_1, e_3_1, e_4_1, e_5_1, e_6_1, e_1_2, e_2_2, e_3_2, e_4_2, e_5_2, e_6_2, e_1_3, e_2_3, e_3_3, e_4_3, e_5_3, e_6_3, e_1_4, e_2_4, e_3_4, e_4_4, e_5_4, e_6_4, e_1_5, e_2_5, e_3_5, e_4_5, e_5_5, e_6_5, e_1_6, e_2_6, e_3_6, e_4_6, e_5_6, e_6_6]
  · simp [str_at, st_at, cpy0, hj, o0, o1, e1, o2, e2, o3, e3, o4, e4, o5, e5, o6, e6, e_1_1, e_2_1, e_3_1, e_4_1, e_5_1, e_6_1, e_1_2, e_2_2, e_3_2, e_4_2, e_5_2, e_6_2, e_1_3, e_2_3, e_3_3, e_4_3, e_5_3, e_6_3, e_1_4, e_2_4, e_3_4, e_4_4, e_5_4, e_6_4, e_1_5, e_2_5, e_3_5, e_4_5, e_5_5, e_6_5, e_1_6, e_2_6, e_3_6, e_4_6, e_5_6, e_6_6]
  · simp [str_at, st_at, cpy0, hj, o0, o1, e1, o2, e2, o3, e3, o4, e4, o5, e5, o6, e6, e_1_1, e_2_1, e_3_1, e_4_1, e_5_1, e_6_1, e_1_2, e_2_2, e_3_2, e_4_2, e_5_2, e_6_2, e_1_3, e_2_3, e_3_3, e_4_3, e_5_3, e_6_3, e_1_4, e_2_4, e_3_4, e_4_4, e_5_4, e_6_4, e_1_5, e_2_5, e_3_5, e_4_5, e_5_5, e_6_5, e_1_6, e_2_6, e_3_6, e_4_6, e_5_6, e_6_6]
  · intro q i hq
    have g : ∀ a, a ≤ 6 → ¬ q = k + a := by intro a ha; omega
    have g0 : ¬ q = k := by omega
    simp [str_at, st_at, g0, g 1 (by omega), g 2 (by omega), g 3 (by omega), g 4 (by omega), g 5 (by omega), g 6 (by omega)]
def ParEq (μ' : Mem) (k : Nat) (μ : Mem) (o : Nat) : Prop := μ' k 2 = μ o 2 ∧ μ' k 3 = μ o 3 ∧ (∀ j, j < 100 → μ' (k + 1) j = μ (o + 1) j) ∧ (∀ j, j < 100 → μ' (k + 2) j = μ (o + 2) j)
set_option maxHeartbeats 4000000 in
set_option maxRecDepth 100000 in
theorem c_X3_takes {E : Ev} {k o : Nat} (hk : ParAt k) (ho : ParAt o) (hd : k + 2 < o ∨ o + 2 < k) {μ : Mem} : AM E yX3_takes cX3_takes 2 none 1 [.ref k, .ref o] μ (fun r μ' => r = none ∧ ParEq μ' k μ o ∧ Same (fun q _ => k ≤ q ∧ q ≤ k + 2) μ μ') := by
  refine am_of (own := RX3) (L := [.ref k, .ref o]) (by decide) rfl (Nat.le_of_ble_eq_true rfl) rfl (fun Γ hR => ?_)
  have o0 : ¬ o = k := by omega
  have o1 : ¬ o = k + 1 := by omega
  have o2 : ¬ o = k + 2 := by omega
  have e1 : ¬ o + 1 = k := by omega
  have e2 : ¬ o + 2 = k := by omega
  have e_1_1 : ¬ o + 1 = k + 1 := by omega
  have e_2_1 : ¬ o + 2 = k + 1 := by omega
  have e_1_2 : ¬ o + 1 = k + 2 := by omega
  have e_2_2 : ¬ o + 2 = k + 2 := by omega
  refine cw_aload_n (pc := 0) dX3_takes_0 rfl rfl <|
    cw_getR (q := o) (t := o + 1) (pc := 1) dX3_takes_1 fX3_9 ho.1 (by decide) rfl <|
    cw_iconst (v := 0) (pc := 4) dX3_takes_4 (by decide) <|
    cw_aload_n (pc := 5) dX3_takes_5 rfl rfl <|
    cw_getR (q := k) (t := k + 1) (pc := 6) dX3_takes_6 fX3_9 hk.1 (by decide) rfl <|
    cw_iconst (v := 0) (pc := 9) dX3_takes_9 (by decide) <|
    cw_bipush (v := 100) (pc := 10) dX3_takes_10 (by decide) <|
    cw_acopy (q0 := o + 1) (q1 := k + 1) (pc := 12) dX3_takes_12 aX3_25 ho.2.1 hk.2.1 (by decide) (by omega) (by decide) (by decide) (by decide) (by decide) (by decide) <|
    cw_aload_n (pc := 15) dX3_takes_15 rfl rfl <|
    cw_getR (q := o) (t := o + 2) (pc := 16) dX3_takes_16 fX3_15 ho.1 (by decide) rfl <|
    cw_iconst (v := 0) (pc := 19) dX3_takes_19 (by decide) <|
    cw_aload_n (pc := 20) dX3_takes_20 rfl rfl <|
    cw_getR (q := k) (t := k + 2) (pc := 21) dX3_takes_21 fX3_15 hk.1 (by decide) rfl <|
    cw_iconst (v := 0) (pc := 24) dX3_takes_24 (by decide) <|
    cw_bipush (v := 100) (pc := 25) dX3_takes_25 (by decide) <|
    cw_acopy (q0 := o + 2) (q1 := k + 2) (pc := 27) dX3_takes_27 aX3_25 ho.2.2 hk.2.2 (by decide) (by omega) (by decide) (by decide) (by decide) (by decide) (by decide) <|
    cw_aload_n (pc := 30) dX3_takes_30 rfl rfl <|
    cw_aload_n (pc := 31) dX3_takes_31 rfl rfl <|
    cw_getI (q := o) (pc := 32) dX3_takes_32 fX3_22 ho.1 (by decide) rfl <|
    cw_putI (q := k) (pc := 35) dX3_takes_35 pX3_22 hk.1 (by decide) rfl <|
    cw_aload_n (pc := 38) dX3_takes_38 rfl rfl <|
    cw_aload_n (pc := 39) dX3_takes_39 rfl rfl <|
    cw_getI (q := o) (pc := 40) dX3_takes_40 fX3_18 ho.1 (by decide) rfl <|
    cw_putI (q := k) (pc := 43) dX3_takes_43 pX3_18 hk.1 (by decide) rfl <|
    ?_
  refine cw_vret (pc := 46) dX3_takes_46 hR ?_
  have z0 : (0 : Int32).toNatClampNeg = 0 := rfl
  have z100 : (100 : Int32).toNatClampNeg = 100 := rfl
  simp only [z0, z100]
  refine ⟨by trivial, ⟨by simp [str_at, st_at, o0, o1, o2, e1, e2, e_1_1, e_2_1, e_1_2, e_2_2], by simp [str_at, st_at, o0, o1, o2, e1, e2, e_1_1, e_2_1, e_1_2, e_2_2], fun j hj => by simp [str_at, st_at, cpy0, hj, o0, o1, o2, e1, e2, e_1_1, e_2_1, e_1_2, e_2_2], fun j hj => by simp [str_at, st_at, cpy0, hj, o0, o1, o2, e1, e2, e_1_1, e_2_1, e_1_2, e_2_2]⟩, fun q i hq => ?_⟩
  have g0 : ¬ q = k := by omega
  have g1 : ¬ q = k + 1 := by omega
  have g2 : ¬ q = k + 2 := by omega
  simp [str_at, st_at, g0, g1, g2]
set_option maxHeartbeats 4000000 in
set_option maxRecDepth 100000 in
theorem c_X3_empties {E : Ev} {k : Nat} (hk : ParAt k) {μ : Mem} : AM E yX3_empties cX3_empties 1 none 0 [.ref k] μ (fun r μ' => r = none ∧ μ' = st (st μ k 2 0) k 3 30) := by
  refine am_of (own := RX3) (L := [.ref k]) (by decide) rfl (Nat.le_of_ble_eq_true rfl) rfl (fun Γ hR => ?_)
  refine cw_aload_n (pc := 0) dX3_empties_0 rfl rfl <|
    cw_iconst (v := 0) (pc := 1) dX3_empties_1 (by decide) <|
    cw_putI (q := k) (pc := 2) dX3_empties_2 pX3_22 hk.1 (by decide) rfl <|
    cw_aload_n (pc := 5) dX3_empties_5 rfl rfl <|
    cw_bipush (v := 30) (pc := 6) dX3_empties_6 (by decide) <|
    cw_putI (q := k) (pc := 8) dX3_empties_8 pX3_18 hk.1 (by decide) rfl <|
    cw_vret (pc := 11) dX3_empties_11 hR <|
    ⟨rfl, rfl⟩
set_option maxHeartbeats 4000000 in
set_option maxRecDepth 100000 in
theorem c_X3_adds {E : Ev} {k : Nat} (hk : ParAt k) {μ : Mem} {a b : Int32} {sz : Nat} (hs : μ k 2 = nI sz) (hsz : sz ≤ 100) : AM E yX3_adds cX3_adds 3 none 0 [.ref k, .int a, .int b] μ (fun r μ' => r = none ∧ (sz < 100 → μ' = st (st (st μ (k + 1) sz a) (k + 2) sz b) k 2 (nI (sz + 1))) ∧ (100 ≤ sz → μ' = μ)) := by
  refine am_of (own := RX3) (L := [.ref k, .int a, .int b]) (by decide) rfl (Nat.le_of_ble_eq_true rfl) rfl (fun Γ hR => ?_)
  refine cw_aload_n (pc := 0) dX3_adds_0 rfl rfl <|
    cw_getI (q := k) (pc := 1) dX3_adds_1 fX3_22 hk.1 (by decide) rfl <|
    cw_if_lt_F (tgt := 46) (pc := 4) dX3_adds_4 (by decide) (by rw [hs]; exact nI_pos (by omega)) <|
    cw_aload_n (pc := 7) dX3_adds_7 rfl rfl <|
    cw_getI (q := k) (pc := 8) dX3_adds_8 fX3_22 hk.1 (by decide) rfl <|
    cw_bipush (v := 100) (pc := 11) dX3_adds_11 (by decide) <|
    cw_icmp_ge (tgt := 46) (pc := 13) dX3_adds_13 (by decide) (fun c13 => ?_) (fun c13 => ?_)
  · refine cw_vret (pc := 46) dX3_adds_46 hR ⟨rfl, ?_⟩
    rw [hs] at c13
    have n1 : ¬ k = k + 1 := by omega
    have n2 : ¬ k = k + 2 := by omega
    have n3 : ¬ k + 1 = k + 2 := by omega
    first
      | (have hlt : 100 ≤ sz := (nI_leI (a := 100) (b := sz) (by decide) (by omega)).mp c13
         exact ⟨fun h => by omega, fun _ => rfl⟩)
      | (refine ⟨fun _ => ?_, fun h => absurd (nI_le (a := 100) (b := sz) h (by omega)) c13⟩
         simp [st_at, n1, n2, n3, hs, nI_1])
  · refine cw_aload_n (pc := 16) dX3_adds_16 rfl rfl <|
      cw_getR (q := k) (t := k + 1) (pc := 17) dX3_adds_17 fX3_9 hk.1 (by decide) rfl <|
      cw_aload_n (pc := 20) dX3_adds_20 rfl rfl <|
      cw_getI (q := k) (pc := 21) dX3_adds_21 fX3_22 hk.1 (by decide) rfl <|
      cw_iload_n (pc := 24) dX3_adds_24 rfl rfl <|
      cw_ias (q := k + 1) (jn := sz) (pc := 25) dX3_adds_25 hk.2.1 (by simp [st_at, hs]) (Nat.lt_of_not_le (fun z => c13 (by rw [hs]; exact nI_le (a := 100) z (by omega)))) (by decide) <|
      cw_aload_n (pc := 26) dX3_adds_26 rfl rfl <|
      cw_getR (q := k) (t := k + 2) (pc := 27) dX3_adds_27 fX3_15 hk.1 (by decide) rfl <|
      cw_aload_n (pc := 30) dX3_adds_30 rfl rfl <|
      cw_getI (q := k) (pc := 31) dX3_adds_31 fX3_22 hk.1 (by decide) rfl <|
      cw_iload_n (pc := 34) dX3_adds_34 rfl rfl <|
      cw_ias (q := k + 2) (jn := sz) (pc := 35) dX3_adds_35 hk.2.2 (by simp [st_at, hs]) (Nat.lt_of_not_le (fun z => c13 (by rw [hs]; exact nI_le (a := 100) z (by omega)))) (by decide) <|
      cw_aload_n (pc := 36) dX3_adds_36 rfl rfl <|
      cw_dup (pc := 37) dX3_adds_37 rfl <|
      cw_getI (q := k) (pc := 38) dX3_adds_38 fX3_22 hk.1 (by decide) rfl <|
      cw_iconst (v := 1) (pc := 41) dX3_adds_41 (by decide) <|
      cw_iadd (pc := 42) dX3_adds_42 <|
      cw_putI (q := k) (pc := 43) dX3_adds_43 pX3_22 hk.1 (by decide) rfl <|
      ?_
    refine cw_vret (pc := 46) dX3_adds_46 hR ⟨rfl, ?_⟩
    rw [hs] at c13
    have n1 : ¬ k = k + 1 := by omega
    have n2 : ¬ k = k + 2 := by omega
    have n3 : ¬ k + 1 = k + 2 := by omega
    first
      | (have hlt : 100 ≤ sz := (nI_leI (a := 100) (b := sz) (by decide) (by omega)).mp c13
         exact ⟨fun h => by omega, fun _ => rfl⟩)
      | (refine ⟨fun _ => ?_, fun h => absurd (nI_le (a := 100) (b := sz) h (by omega)) c13⟩
         simp [st_at, n1, n2, n3, hs, nI_1])
def RowAt (k n : Nat) : Prop := shape[k]? = some (6, 0, [none, some (k + 1), none]) ∧ shape[k + 1]? = some (100, n, []) ∧ n ≤ 100
theorem row_12 : RowAt 12 100 := ⟨rfl, rfl, by decide⟩
theorem row_14 : RowAt 14 10 := ⟨rfl, rfl, by decide⟩
theorem row_16 : RowAt 16 15 := ⟨rfl, rfl, by decide⟩
theorem row_18 : RowAt 18 16 := ⟨rfl, rfl, by decide⟩
theorem row_20 : RowAt 20 16 := ⟨rfl, rfl, by decide⟩
theorem row_33 : RowAt 33 100 := ⟨rfl, rfl, by decide⟩
theorem row_35 : RowAt 35 10 := ⟨rfl, rfl, by decide⟩
theorem row_37 : RowAt 37 15 := ⟨rfl, rfl, by decide⟩
theorem row_39 : RowAt 39 16 := ⟨rfl, rfl, by decide⟩
theorem row_41 : RowAt 41 16 := ⟨rfl, rfl, by decide⟩
def RowEq (μ' : Mem) (k n : Nat) (μ : Mem) (o : Nat) : Prop := μ' k 2 = μ o 2 ∧ ∀ j, j < n → μ' (k + 1) j = μ (o + 1) j
theorem cw_alenN {E : Ev} {Γ : Cx} {cc : ByteArray} {nL : Nat} {own : String} {d pc : Nat} {L S : List Value} {μ : Mem} {q n : Nat} {x : List (Option Nat)} (hd : decode cc pc = .ok (.arraylength, 1)) (hs : shape[q]? = some (100, n, x)) (k : CW E Γ cc nL own d (pc + 1) L (.int (nI n) :: S) μ) : CW E Γ cc nL own d pc L (.ref q :: S) μ := cw_alen hd hs rfl k
set_option maxHeartbeats 4000000 in
set_option maxRecDepth 100000 in
theorem c_X6_takes {E : Ev} {k o n : Nat} (hk : RowAt k n) (ho : RowAt o n) (hd : k + 1 < o ∨ o + 1 < k) {μ : Mem} : AM E yX6_takes cX6_takes 3 none 1 [.ref k, .ref o] μ (fun r μ' => r = none ∧ RowEq μ' k n μ o ∧ Same (fun q i => (q = k ∧ i = 2) ∨ q = k + 1) μ μ') := by
  refine am_of (own := RX6) (L := [.ref k, .ref o, .null]) (by decide) rfl (Nat.le_of_ble_eq_true rfl) rfl (fun Γ hR => ?_)
  have o0 : ¬ o = k := by omega
  have o1 : ¬ o = k + 1 := by omega
  have e1 : ¬ o + 1 = k := by omega
  have e_1_1 : ¬ o + 1 = k + 1 := by omega
  have hn := hk.2.2
  have hmin : (if nI n < nI n then nI n else nI n) = nI n := by simp
  have hcl : (nI n).toNatClampNeg = n := nI_clamp (by omega)
  refine cw_aload_n (pc := 0) dX6_takes_0 rfl rfl <|
    cw_getR (q := k) (t := k + 1) (pc := 1) dX6_takes_1 fX6_24 hk.1 (by decide) rfl <|
    cw_alenN (q := k + 1) (pc := 4) dX6_takes_4 hk.2.1 <|
    cw_aload_n (pc := 5) dX6_takes_5 rfl rfl <|
    cw_getR (q := o) (t := o + 1) (pc := 6) dX6_takes_6 fX6_24 ho.1 (by decide) rfl <|
    cw_alenN (q := o + 1) (pc := 9) dX6_takes_9 ho.2.1 <|
    cw_insI (pc := 10) dX6_takes_10 c_J9_min_7cf53 vX6_9 rfl rfl rfl (by decide) <|
    ?_
  rw [hmin]
  refine cw_istore_n (L' := [_, _, _]) (pc := 13) dX6_takes_13 rfl (by decide) rfl rfl <|
    cw_aload_n (pc := 14) dX6_takes_14 rfl rfl <|
    cw_getR (q := o) (t := o + 1) (pc := 15) dX6_takes_15 fX6_24 ho.1 (by decide) rfl <|
    cw_iconst (v := 0) (pc := 18) dX6_takes_18 (by decide) <|
    cw_aload_n (pc := 19) dX6_takes_19 rfl rfl <|
    cw_getR (q := k) (t := k + 1) (pc := 20) dX6_takes_20 fX6_24 hk.1 (by decide) rfl <|
    cw_iconst (v := 0) (pc := 23) dX6_takes_23 (by decide) <|
    cw_iload_n (pc := 24) dX6_takes_24 rfl rfl <|
    cw_acopy (q0 := o + 1) (q1 := k + 1) (pc := 25) dX6_takes_25 aX6_31 ho.2.1 hk.2.1 (by decide) (by omega) (by decide) (by decide) (nI_pos (by omega)) (by rw [hcl]; exact Nat.le_of_eq (Nat.zero_add n)) (by rw [hcl]; exact Nat.le_of_eq (Nat.zero_add n)) <|
    cw_aload_n (pc := 28) dX6_takes_28 rfl rfl <|
    cw_aload_n (pc := 29) dX6_takes_29 rfl rfl <|
    cw_getI (q := o) (pc := 30) dX6_takes_30 fX6_28 ho.1 (by decide) rfl <|
    cw_putI (q := k) (pc := 33) dX6_takes_33 pX6_28 hk.1 (by decide) rfl <|
    ?_
  refine cw_vret (pc := 36) dX6_takes_36 hR ?_
  have z0 : (0 : Int32).toNatClampNeg = 0 := rfl
  simp only [z0, hcl]
  refine ⟨by trivial, ⟨by simp [str_at, st_at, o0, o1, e1, e_1_1], fun j hj => by simp [str_at, st_at, cpy0, hj, o0, o1, e1, e_1_1]⟩, fun q i hq => ?_⟩
  have g0 : ¬ (q = k ∧ i = 2) := fun h => hq (Or.inl h)
  have g1 : ¬ q = k + 1 := fun h => hq (Or.inr h)
  simp [str_at, st_at, g0, g1]
set_option maxHeartbeats 4000000 in
set_option maxRecDepth 100000 in
theorem c_X6_empties {E : Ev} {k n : Nat} (hk : RowAt k n) {μ : Mem} : AM E yX6_empties cX6_empties 1 (some .int) 0 [.ref k] μ (fun r μ' => r = some (.int 0) ∧ μ' = st μ k 2 0) := by
  refine am_of (own := RX6) (L := [.ref k]) (by decide) rfl (Nat.le_of_ble_eq_true rfl) rfl (fun Γ hR => ?_)
  refine cw_aload_n (pc := 0) dX6_empties_0 rfl rfl <|
    cw_iconst (v := 0) (pc := 1) dX6_empties_1 (by decide) <|
    cw_putI (q := k) (pc := 2) dX6_empties_2 pX6_28 hk.1 (by decide) rfl <|
    cw_iconst (v := 0) (pc := 5) dX6_empties_5 (by decide) <|
    cw_iret (pc := 6) dX6_empties_6 hR <|
    ⟨rfl, rfl⟩
set_option maxHeartbeats 4000000 in
set_option maxRecDepth 100000 in
theorem c_X6_at {E : Ev} {k n : Nat} (hk : RowAt k n) {μ : Mem} {w sz row col : Nat} (hw : μ k 0 = nI w) (hw3 : w ≤ 3) (hs : μ k 2 = nI sz) (hsn : sz * w ≤ n) (hsz : sz ≤ 100) (hr : row < sz) (hc : col < w) : AM E yX6_at cX6_at 4 (some .int) 0 [.ref k, .int (nI row), .int (nI col)] μ (fun r μ' => r = some (.int (μ (k + 1) (row * w + col))) ∧ μ' = μ) := by
  refine am_of (own := RX6) (L := [.ref k, .int (nI row), .int (nI col), .null]) (by decide) rfl (Nat.le_of_ble_eq_true rfl) rfl (fun Γ hR => ?_)
  have hn := hk.2.2
  refine cw_iload_n (pc := 0) dX6_at_0 rfl rfl <|
    cw_if_lt_F (tgt := 28) (pc := 1) dX6_at_1 (by decide) (nI_pos (by omega)) <|
    cw_iload_n (pc := 4) dX6_at_4 rfl rfl <|
    cw_aload_n (pc := 5) dX6_at_5 rfl rfl <|
    cw_getI (q := k) (pc := 6) dX6_at_6 fX6_28 hk.1 (by decide) rfl <|
    cw_icmp_ge_F (tgt := 28) (pc := 9) dX6_at_9 (by decide) (by rw [hs]; exact nI_ge hr (by omega)) <|
    cw_iload_n (pc := 12) dX6_at_12 rfl rfl <|
    cw_if_lt_F (tgt := 28) (pc := 13) dX6_at_13 (by decide) (nI_pos (by omega)) <|
    cw_iload_n (pc := 16) dX6_at_16 rfl rfl <|
    cw_aload_n (pc := 17) dX6_at_17 rfl rfl <|
    cw_getI (q := k) (pc := 18) dX6_at_18 fX6_18 hk.1 (by decide) rfl <|
    cw_icmp_ge_F (tgt := 28) (pc := 21) dX6_at_21 (by decide) (by rw [hw]; exact nI_ge hc (by omega)) <|
    cw_iconst (v := 1) (pc := 24) dX6_at_24 (by decide) <|
    cw_goto (tgt := 29) (pc := 25) dX6_at_25 (by decide) <|
    cw_istore_n (L' := [_, _, _, _]) (pc := 29) dX6_at_29 rfl (by decide) rfl rfl <|
    cw_iload_n (pc := 30) dX6_at_30 rfl rfl <|
    cw_if_eq_F (tgt := 50) (pc := 31) dX6_at_31 (by decide) (by decide) <|
    cw_aload_n (pc := 34) dX6_at_34 rfl rfl <|
    cw_getR (q := k) (t := k + 1) (pc := 35) dX6_at_35 fX6_24 hk.1 (by decide) rfl <|
    cw_iload_n (pc := 38) dX6_at_38 rfl rfl <|
    cw_aload_n (pc := 39) dX6_at_39 rfl rfl <|
    cw_getI (q := k) (pc := 40) dX6_at_40 fX6_18 hk.1 (by decide) rfl <|
    cw_imul (pc := 43) dX6_at_43 <|
    cw_iload_n (pc := 44) dX6_at_44 rfl rfl <|
    cw_iadd (pc := 45) dX6_at_45 <|
    cw_ial (q := k + 1) (jn := (row * w + col)) (pc := 46) dX6_at_46 hk.2.1 (by rw [hw]; exact nx_add (nx_mul rfl rfl) rfl) (by have := Nat.mul_le_mul_right w (show row + 1 ≤ sz from hr); rw [Nat.add_mul] at this; omega) (by omega) <|
    cw_goto (tgt := 51) (pc := 47) dX6_at_47 (by decide) <|
    cw_iret (pc := 51) dX6_at_51 hR <|
    ⟨rfl, rfl⟩
set_option maxHeartbeats 4000000 in
set_option maxRecDepth 100000 in
theorem c_X6_adds_1 {E : Ev} {k n : Nat} (hk : RowAt k n) {μ : Mem} {a b c : Int32} {sz most : Nat} (hw : μ k 0 = 1) (hs : μ k 2 = nI sz) (hm : n = most * 1) (hsm : sz ≤ most) : AM E yX6_adds cX6_adds 5 (some .int) 0 [.ref k, .int a, .int b, .int c] μ (fun r μ' => (sz < most → r = some (.int (nI (sz + 1))) ∧ μ' = st (st μ (k + 1) (sz * 1) a) k 2 (nI (sz + 1))) ∧ (¬ sz < most → r = some (.int (-4)) ∧ μ' = μ)) := by
  refine am_of (own := RX6) (L := [.ref k, .int a, .int b, .int c, .null]) (by decide) rfl (Nat.le_of_ble_eq_true rfl) rfl (fun Γ hR => ?_)
  have hn := hk.2.2
  have n1 : ¬ k = k + 1 := by omega
  have n2 : ¬ k + 1 = k := by omega
  refine cw_aload_n (pc := 0) dX6_adds_0 rfl rfl <|
    cw_getI (q := k) (pc := 1) dX6_adds_1 fX6_28 hk.1 (by decide) rfl <|
    cw_aload_n (pc := 4) dX6_adds_4 rfl rfl <|
    cw_getI (q := k) (pc := 5) dX6_adds_5 fX6_18 hk.1 (by decide) rfl <|
    cw_imul (pc := 8) dX6_adds_8 <|
    cw_istore (L' := [_, _, _, _, _]) (pc := 9) dX6_adds_9 (by decide) rfl rfl <|
    cw_iload (pc := 11) dX6_adds_11 rfl <|
    cw_if_lt_F (tgt := 31) (pc := 13) dX6_adds_13 (by decide) (by rw [hs, hw]; rw [show nI sz * 1 = nI (sz * 1) from pk_mul sz 1]; exact nI_pos (by omega)) <|
    cw_iload (pc := 16) dX6_adds_16 rfl <|
    cw_aload_n (pc := 18) dX6_adds_18 rfl rfl <|
    cw_getI (q := k) (pc := 19) dX6_adds_19 fX6_18 hk.1 (by decide) rfl <|
    cw_iadd (pc := 22) dX6_adds_22 <|
    cw_aload_n (pc := 23) dX6_adds_23 rfl rfl <|
    cw_getR (q := k) (t := k + 1) (pc := 24) dX6_adds_24 fX6_24 hk.1 (by decide) rfl <|
    cw_alenN (q := k + 1) (pc := 27) dX6_adds_27 hk.2.1 <|
    ?_
  rw [hs, hw, show nI sz * 1 = nI (sz * 1) from pk_mul sz 1, show nI (sz * 1) + 1 = nI (sz * 1 + 1) from nI_add _ 1]
  by_cases hfl : sz < most
  · refine cw_icmp_le_T (tgt := 34) (pc := 28) dX6_adds_28 (by decide) (nI_le (by omega) (by omega)) <|
      cw_aload_n (pc := 34) dX6_adds_34 rfl rfl <|
      cw_getR (q := k) (t := k + 1) (pc := 35) dX6_adds_35 fX6_24 hk.1 (by decide) rfl <|
      cw_iload (pc := 38) dX6_adds_38 rfl <|
      cw_iload_n (pc := 40) dX6_adds_40 rfl rfl <|
      cw_ias (q := k + 1) (jn := (sz * 1)) (pc := 41) dX6_adds_41 hk.2.1 rfl (by omega) (by omega) <|
      cw_aload_n (pc := 42) dX6_adds_42 rfl rfl <|
      cw_getI (q := k) (pc := 43) dX6_adds_43 fX6_18 hk.1 (by decide) rfl <|
      cw_iconst (v := 1) (pc := 46) dX6_adds_46 (by decide) <|
      cw_icmp_le_T (tgt := 60) (pc := 47) dX6_adds_47 (by decide) (by simp [st_at, n1, hw]) <|
      cw_aload_n (pc := 60) dX6_adds_60 rfl rfl <|
      cw_getI (q := k) (pc := 61) dX6_adds_61 fX6_18 hk.1 (by decide) rfl <|
      cw_iconst (v := 2) (pc := 64) dX6_adds_64 (by decide) <|
      cw_icmp_le_T (tgt := 78) (pc := 65) dX6_adds_65 (by decide) (by simp [st_at, n1, hw]) <|
      cw_aload_n (pc := 78) dX6_adds_78 rfl rfl <|
      cw_dup (pc := 79) dX6_adds_79 rfl <|
      cw_getI (q := k) (pc := 80) dX6_adds_80 fX6_28 hk.1 (by decide) rfl <|
      cw_iconst (v := 1) (pc := 83) dX6_adds_83 (by decide) <|
      cw_iadd (pc := 84) dX6_adds_84 <|
      cw_putI (q := k) (pc := 85) dX6_adds_85 pX6_28 hk.1 (by decide) rfl <|
      cw_aload_n (pc := 88) dX6_adds_88 rfl rfl <|
      cw_getI (q := k) (pc := 89) dX6_adds_89 fX6_28 hk.1 (by decide) rfl <|
      cw_iret (pc := 92) dX6_adds_92 hR <|
      ?_
    exact ⟨fun _ => ⟨by simp [st_at, n1, n2, hs, nI_1], by simp [st_at, n1, n2, hs, nI_1]⟩, fun h => absurd hfl h⟩
  · refine cw_icmp_le_F (tgt := 34) (pc := 28) dX6_adds_28 (by decide) (nI_ge (by omega) (by omega)) <|
      cw_bipush (v := -4) (pc := 31) dX6_adds_31 (by decide) <|
      cw_iret (pc := 33) dX6_adds_33 hR <|
      ⟨fun h => absurd h hfl, fun _ => ⟨rfl, rfl⟩⟩
set_option maxHeartbeats 4000000 in
set_option maxRecDepth 100000 in
theorem c_X6_adds_2 {E : Ev} {k n : Nat} (hk : RowAt k n) {μ : Mem} {a b c : Int32} {sz most : Nat} (hw : μ k 0 = 2) (hs : μ k 2 = nI sz) (hm : n = most * 2) (hsm : sz ≤ most) : AM E yX6_adds cX6_adds 5 (some .int) 0 [.ref k, .int a, .int b, .int c] μ (fun r μ' => (sz < most → r = some (.int (nI (sz + 1))) ∧ μ' = st (st (st μ (k + 1) (sz * 2) a) (k + 1) (sz * 2 + 1) b) k 2 (nI (sz + 1))) ∧ (¬ sz < most → r = some (.int (-4)) ∧ μ' = μ)) := by
  refine am_of (own := RX6) (L := [.ref k, .int a, .int b, .int c, .null]) (by decide) rfl (Nat.le_of_ble_eq_true rfl) rfl (fun Γ hR => ?_)
  have hn := hk.2.2
  have n1 : ¬ k = k + 1 := by omega
  have n2 : ¬ k + 1 = k := by omega
  refine cw_aload_n (pc := 0) dX6_adds_0 rfl rfl <|
    cw_getI (q := k) (pc := 1) dX6_adds_1 fX6_28 hk.1 (by decide) rfl <|
    cw_aload_n (pc := 4) dX6_adds_4 rfl rfl <|
    cw_getI (q := k) (pc := 5) dX6_adds_5 fX6_18 hk.1 (by decide) rfl <|
    cw_imul (pc := 8) dX6_adds_8 <|
    cw_istore (L' := [_, _, _, _, _]) (pc := 9) dX6_adds_9 (by decide) rfl rfl <|
    cw_iload (pc := 11) dX6_adds_11 rfl <|
    cw_if_lt_F (tgt := 31) (pc := 13) dX6_adds_13 (by decide) (by rw [hs, hw]; rw [show nI sz * 2 = nI (sz * 2) from pk_mul sz 2]; exact nI_pos (by omega)) <|
    cw_iload (pc := 16) dX6_adds_16 rfl <|
    cw_aload_n (pc := 18) dX6_adds_18 rfl rfl <|
    cw_getI (q := k) (pc := 19) dX6_adds_19 fX6_18 hk.1 (by decide) rfl <|
    cw_iadd (pc := 22) dX6_adds_22 <|
    cw_aload_n (pc := 23) dX6_adds_23 rfl rfl <|
    cw_getR (q := k) (t := k + 1) (pc := 24) dX6_adds_24 fX6_24 hk.1 (by decide) rfl <|
    cw_alenN (q := k + 1) (pc := 27) dX6_adds_27 hk.2.1 <|
    ?_
  rw [hs, hw, show nI sz * 2 = nI (sz * 2) from pk_mul sz 2, show nI (sz * 2) + 2 = nI (sz * 2 + 2) from nI_add _ 2]
  by_cases hfl : sz < most
  · refine cw_icmp_le_T (tgt := 34) (pc := 28) dX6_adds_28 (by decide) (nI_le (by omega) (by omega)) <|
      cw_aload_n (pc := 34) dX6_adds_34 rfl rfl <|
      cw_getR (q := k) (t := k + 1) (pc := 35) dX6_adds_35 fX6_24 hk.1 (by decide) rfl <|
      cw_iload (pc := 38) dX6_adds_38 rfl <|
      cw_iload_n (pc := 40) dX6_adds_40 rfl rfl <|
      cw_ias (q := k + 1) (jn := (sz * 2)) (pc := 41) dX6_adds_41 hk.2.1 rfl (by omega) (by omega) <|
      cw_aload_n (pc := 42) dX6_adds_42 rfl rfl <|
      cw_getI (q := k) (pc := 43) dX6_adds_43 fX6_18 hk.1 (by decide) rfl <|
      cw_iconst (v := 1) (pc := 46) dX6_adds_46 (by decide) <|
      cw_icmp_le_F (tgt := 60) (pc := 47) dX6_adds_47 (by decide) (by simp [st_at, n1, hw]) <|
      cw_aload_n (pc := 50) dX6_adds_50 rfl rfl <|
      cw_getR (q := k) (t := k + 1) (pc := 51) dX6_adds_51 fX6_24 hk.1 (by decide) rfl <|
      cw_iload (pc := 54) dX6_adds_54 rfl <|
      cw_iconst (v := 1) (pc := 56) dX6_adds_56 (by decide) <|
      cw_iadd (pc := 57) dX6_adds_57 <|
      cw_iload_n (pc := 58) dX6_adds_58 rfl rfl <|
      cw_ias (q := k + 1) (jn := ((sz * 2) + 1)) (pc := 59) dX6_adds_59 hk.2.1 (nx_add rfl rfl) (by omega) (by omega) <|
      cw_aload_n (pc := 60) dX6_adds_60 rfl rfl <|
      cw_getI (q := k) (pc := 61) dX6_adds_61 fX6_18 hk.1 (by decide) rfl <|
      cw_iconst (v := 2) (pc := 64) dX6_adds_64 (by decide) <|
      cw_icmp_le_T (tgt := 78) (pc := 65) dX6_adds_65 (by decide) (by simp [st_at, n1, hw]) <|
      cw_aload_n (pc := 78) dX6_adds_78 rfl rfl <|
      cw_dup (pc := 79) dX6_adds_79 rfl <|
      cw_getI (q := k) (pc := 80) dX6_adds_80 fX6_28 hk.1 (by decide) rfl <|
      cw_iconst (v := 1) (pc := 83) dX6_adds_83 (by decide) <|
      cw_iadd (pc := 84) dX6_adds_84 <|
      cw_putI (q := k) (pc := 85) dX6_adds_85 pX6_28 hk.1 (by decide) rfl <|
      cw_aload_n (pc := 88) dX6_adds_88 rfl rfl <|
      cw_getI (q := k) (pc := 89) dX6_adds_89 fX6_28 hk.1 (by decide) rfl <|
      cw_iret (pc := 92) dX6_adds_92 hR <|
      ?_
    exact ⟨fun _ => ⟨by simp [st_at, n1, n2, hs, nI_1], by simp [st_at, n1, n2, hs, nI_1]⟩, fun h => absurd hfl h⟩
  · refine cw_icmp_le_F (tgt := 34) (pc := 28) dX6_adds_28 (by decide) (nI_ge (by omega) (by omega)) <|
      cw_bipush (v := -4) (pc := 31) dX6_adds_31 (by decide) <|
      cw_iret (pc := 33) dX6_adds_33 hR <|
      ⟨fun h => absurd h hfl, fun _ => ⟨rfl, rfl⟩⟩
set_option maxHeartbeats 4000000 in
set_option maxRecDepth 100000 in
theorem c_X6_adds_3 {E : Ev} {k n : Nat} (hk : RowAt k n) {μ : Mem} {a b c : Int32} {sz most : Nat} (hw : μ k 0 = 3) (hs : μ k 2 = nI sz) (hm : n = most * 3) (hsm : sz ≤ most) : AM E yX6_adds cX6_adds 5 (some .int) 0 [.ref k, .int a, .int b, .int c] μ (fun r μ' => (sz < most → r = some (.int (nI (sz + 1))) ∧ μ' = st (st (st (st μ (k + 1) (sz * 3) a) (k + 1) (sz * 3 + 1) b) (k + 1) (sz * 3 + 2) c) k 2 (nI (sz + 1))) ∧ (¬ sz < most → r = some (.int (-4)) ∧ μ' = μ)) := by
  refine am_of (own := RX6) (L := [.ref k, .int a, .int b, .int c, .null]) (by decide) rfl (Nat.le_of_ble_eq_true rfl) rfl (fun Γ hR => ?_)
  have hn := hk.2.2
  have n1 : ¬ k = k + 1 := by omega
  have n2 : ¬ k + 1 = k := by omega
  refine cw_aload_n (pc := 0) dX6_adds_0 rfl rfl <|
    cw_getI (q := k) (pc := 1) dX6_adds_1 fX6_28 hk.1 (by decide) rfl <|
    cw_aload_n (pc := 4) dX6_adds_4 rfl rfl <|
    cw_getI (q := k) (pc := 5) dX6_adds_5 fX6_18 hk.1 (by decide) rfl <|
    cw_imul (pc := 8) dX6_adds_8 <|
    cw_istore (L' := [_, _, _, _, _]) (pc := 9) dX6_adds_9 (by decide) rfl rfl <|
    cw_iload (pc := 11) dX6_adds_11 rfl <|
    cw_if_lt_F (tgt := 31) (pc := 13) dX6_adds_13 (by decide) (by rw [hs, hw]; rw [show nI sz * 3 = nI (sz * 3) from pk_mul sz 3]; exact nI_pos (by omega)) <|
    cw_iload (pc := 16) dX6_adds_16 rfl <|
    cw_aload_n (pc := 18) dX6_adds_18 rfl rfl <|
    cw_getI (q := k) (pc := 19) dX6_adds_19 fX6_18 hk.1 (by decide) rfl <|
    cw_iadd (pc := 22) dX6_adds_22 <|
    cw_aload_n (pc := 23) dX6_adds_23 rfl rfl <|
    cw_getR (q := k) (t := k + 1) (pc := 24) dX6_adds_24 fX6_24 hk.1 (by decide) rfl <|
    cw_alenN (q := k + 1) (pc := 27) dX6_adds_27 hk.2.1 <|
    ?_
  rw [hs, hw, show nI sz * 3 = nI (sz * 3) from pk_mul sz 3, show nI (sz * 3) + 3 = nI (sz * 3 + 3) from nI_add _ 3]
  by_cases hfl : sz < most
  · refine cw_icmp_le_T (tgt := 34) (pc := 28) dX6_adds_28 (by decide) (nI_le (by omega) (by omega)) <|
      cw_aload_n (pc := 34) dX6_adds_34 rfl rfl <|
      cw_getR (q := k) (t := k + 1) (pc := 35) dX6_adds_35 fX6_24 hk.1 (by decide) rfl <|
      cw_iload (pc := 38) dX6_adds_38 rfl <|
      cw_iload_n (pc := 40) dX6_adds_40 rfl rfl <|
      cw_ias (q := k + 1) (jn := (sz * 3)) (pc := 41) dX6_adds_41 hk.2.1 rfl (by omega) (by omega) <|
      cw_aload_n (pc := 42) dX6_adds_42 rfl rfl <|
      cw_getI (q := k) (pc := 43) dX6_adds_43 fX6_18 hk.1 (by decide) rfl <|
      cw_iconst (v := 1) (pc := 46) dX6_adds_46 (by decide) <|
      cw_icmp_le_F (tgt := 60) (pc := 47) dX6_adds_47 (by decide) (by simp [st_at, n1, hw]) <|
      cw_aload_n (pc := 50) dX6_adds_50 rfl rfl <|
      cw_getR (q := k) (t := k + 1) (pc := 51) dX6_adds_51 fX6_24 hk.1 (by decide) rfl <|
      cw_iload (pc := 54) dX6_adds_54 rfl <|
      cw_iconst (v := 1) (pc := 56) dX6_adds_56 (by decide) <|
      cw_iadd (pc := 57) dX6_adds_57 <|
      cw_iload_n (pc := 58) dX6_adds_58 rfl rfl <|
      cw_ias (q := k + 1) (jn := ((sz * 3) + 1)) (pc := 59) dX6_adds_59 hk.2.1 (nx_add rfl rfl) (by omega) (by omega) <|
      cw_aload_n (pc := 60) dX6_adds_60 rfl rfl <|
      cw_getI (q := k) (pc := 61) dX6_adds_61 fX6_18 hk.1 (by decide) rfl <|
      cw_iconst (v := 2) (pc := 64) dX6_adds_64 (by decide) <|
      cw_icmp_le_F (tgt := 78) (pc := 65) dX6_adds_65 (by decide) (by simp [st_at, n1, hw]) <|
      cw_aload_n (pc := 68) dX6_adds_68 rfl rfl <|
      cw_getR (q := k) (t := k + 1) (pc := 69) dX6_adds_69 fX6_24 hk.1 (by decide) rfl <|
      cw_iload (pc := 72) dX6_adds_72 rfl <|
      cw_iconst (v := 2) (pc := 74) dX6_adds_74 (by decide) <|
      cw_iadd (pc := 75) dX6_adds_75 <|
      cw_iload_n (pc := 76) dX6_adds_76 rfl rfl <|
      cw_ias (q := k + 1) (jn := ((sz * 3) + 2)) (pc := 77) dX6_adds_77 hk.2.1 (nx_add rfl rfl) (by omega) (by omega) <|
      cw_aload_n (pc := 78) dX6_adds_78 rfl rfl <|
      cw_dup (pc := 79) dX6_adds_79 rfl <|
      cw_getI (q := k) (pc := 80) dX6_adds_80 fX6_28 hk.1 (by decide) rfl <|
      cw_iconst (v := 1) (pc := 83) dX6_adds_83 (by decide) <|
      cw_iadd (pc := 84) dX6_adds_84 <|
      cw_putI (q := k) (pc := 85) dX6_adds_85 pX6_28 hk.1 (by decide) rfl <|
      cw_aload_n (pc := 88) dX6_adds_88 rfl rfl <|
      cw_getI (q := k) (pc := 89) dX6_adds_89 fX6_28 hk.1 (by decide) rfl <|
      cw_iret (pc := 92) dX6_adds_92 hR <|
      ?_
    exact ⟨fun _ => ⟨by simp [st_at, n1, n2, hs, nI_1], by simp [st_at, n1, n2, hs, nI_1]⟩, fun h => absurd hfl h⟩
  · refine cw_icmp_le_F (tgt := 34) (pc := 28) dX6_adds_28 (by decide) (nI_ge (by omega) (by omega)) <|
      cw_bipush (v := -4) (pc := 31) dX6_adds_31 (by decide) <|
      cw_iret (pc := 33) dX6_adds_33 hR <|
      ⟨fun h => absurd h hfl, fun _ => ⟨rfl, rfl⟩⟩
