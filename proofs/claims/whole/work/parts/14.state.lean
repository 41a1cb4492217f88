/-- a State that is as another one was (their MEN's land, PARISH, TAPE, CASES, SEEN, PLAN, BOOK, how many PARISHES) -/
def StEq (μ' : Mem) (b : Nat) (μ : Mem) (o : Nat) : Prop := LandEq μ' (b + 1) μ (o + 1) ∧ ParEq μ' (b + 8) μ (o + 8) ∧ RowEq μ' (b + 11) 100 μ (o + 11) ∧ RowEq μ' (b + 13) 10 μ (o + 13) ∧ RowEq μ' (b + 15) 15 μ (o + 15) ∧ RowEq μ' (b + 17) 16 μ (o + 17) ∧ RowEq μ' (b + 19) 16 μ (o + 19) ∧ μ' b 7 = μ o 7
def StF (b : Nat) : Nat → Nat → Prop := fun q i => (q = b ∧ i = 7) ∨ (b + 1 ≤ q ∧ q ≤ b + 20 ∧ ((q = b + 11 ∨ q = b + 13 ∨ q = b + 15 ∨ q = b + 17 ∨ q = b + 19) → i = 2))
set_option maxHeartbeats 4000000 in
set_option maxRecDepth 100000 in
theorem c_X7_takes_22 {E : Ev} {μ : Mem} : AM E yX7_takes cX7_takes 2 none 2 [.ref 22, .ref 1] μ (fun r μ' => r = none ∧ StEq μ' 22 μ 1 ∧ Same (StF 22) μ μ') := by
  refine am_of (own := RX7) (L := [.ref 22, .ref 1]) (by decide) rfl (Nat.le_of_ble_eq_true rfl) rfl (fun Γ hR => ?_)
  refine cw_aload_n (pc := 0) dX7_takes_0 rfl rfl <|
    cw_getR (q := 22) (t := 23) (pc := 1) dX7_takes_1 fX7_12 sh_22 (by decide) rfl <|
    cw_aload_n (pc := 4) dX7_takes_4 rfl rfl <|
    cw_getR (q := 1) (t := 2) (pc := 5) dX7_takes_5 fX7_12 sh_1 (by decide) rfl <|
    cw_invP (q := 23) (pc := 8) dX7_takes_8 (c_X2_takes land_23 land_2 (by decide)) rfl vX7_46 sh_23 (by decide) rfl rfl rfl (by decide) <|
    ?_
  rintro _ m1 ⟨rfl, q1, s1⟩
  refine cw_aload_n (pc := 11) dX7_takes_11 rfl rfl <|
    cw_getR (q := 22) (t := 30) (pc := 12) dX7_takes_12 fX7_21 sh_22 (by decide) rfl <|
    cw_aload_n (pc := 15) dX7_takes_15 rfl rfl <|
    cw_getR (q := 1) (t := 9) (pc := 16) dX7_takes_16 fX7_21 sh_1 (by decide) rfl <|
    cw_invP (q := 30) (pc := 19) dX7_takes_19 (c_X3_takes par_30 par_9 (by decide)) rfl vX7_50 sh_30 (by decide) rfl rfl rfl (by decide) <|
    ?_
  rintro _ m2 ⟨rfl, q2, s2⟩
  refine cw_aload_n (pc := 22) dX7_takes_22 rfl rfl <|
    cw_getR (q := 22) (t := 33) (pc := 23) dX7_takes_23 fX7_30 sh_22 (by decide) rfl <|
    cw_aload_n (pc := 26) dX7_takes_26 rfl rfl <|
    cw_getR (q := 1) (t := 12) (pc := 27) dX7_takes_27 fX7_30 sh_1 (by decide) rfl <|
    cw_invP (q := 33) (pc := 30) dX7_takes_30 (c_X6_takes row_33 row_12 (by decide)) rfl vX7_53 sh_33 (by decide) rfl rfl rfl (by decide) <|
    ?_
  rintro _ m3 ⟨rfl, q3, s3⟩
  refine cw_aload_n (pc := 33) dX7_takes_33 rfl rfl <|
    cw_getR (q := 22) (t := 35) (pc := 34) dX7_takes_34 fX7_34 sh_22 (by decide) rfl <|
    cw_aload_n (pc := 37) dX7_takes_37 rfl rfl <|
    cw_getR (q := 1) (t := 14) (pc := 38) dX7_takes_38 fX7_34 sh_1 (by decide) rfl <|
    cw_invP (q := 35) (pc := 41) dX7_takes_41 (c_X6_takes row_35 row_14 (by decide)) rfl vX7_53 sh_35 (by decide) rfl rfl rfl (by decide) <|
    ?_
  rintro _ m4 ⟨rfl, q4, s4⟩
  refine cw_aload_n (pc := 44) dX7_takes_44 rfl rfl <|
    cw_getR (q := 22) (t := 37) (pc := 45) dX7_takes_45 fX7_37 sh_22 (by decide) rfl <|
    cw_aload_n (pc := 48) dX7_takes_48 rfl rfl <|
    cw_getR (q := 1) (t := 16) (pc := 49) dX7_takes_49 fX7_37 sh_1 (by decide) rfl <|
    cw_invP (q := 37) (pc := 52) dX7_takes_52 (c_X6_takes row_37 row_16 (by decide)) rfl vX7_53 sh_37 (by decide) rfl rfl rfl (by decide) <|
    ?_
  rintro _ m5 ⟨rfl, q5, s5⟩
  refine cw_aload_n (pc := 55) dX7_takes_55 rfl rfl <|
    cw_getR (q := 22) (t := 39) (pc := 56) dX7_takes_56 fX7_40 sh_22 (by decide) rfl <|
    cw_aload_n (pc := 59) dX7_takes_59 rfl rfl <|
    cw_getR (q := 1) (t := 18) (pc := 60) dX7_takes_60 fX7_40 sh_1 (by decide) rfl <|
    cw_invP (q := 39) (pc := 63) dX7_takes_63 (c_X6_takes row_39 row_18 (by decide)) rfl vX7_53 sh_39 (by decide) rfl rfl rfl (by decide) <|
    ?_
  rintro _ m6 ⟨rfl, q6, s6⟩
  refine cw_aload_n (pc := 66) dX7_takes_66 rfl rfl <|
    cw_getR (q := 22) (t := 41) (pc := 67) dX7_takes_67 fX7_43 sh_22 (by decide) rfl <|
    cw_aload_n (pc := 70) dX7_takes_70 rfl rfl <|
    cw_getR (q := 1) (t := 20) (pc := 71) dX7_takes_71 fX7_43 sh_1 (by decide) rfl <|
    cw_invP (q := 41) (pc := 74) dX7_takes_74 (c_X6_takes row_41 row_20 (by decide)) rfl vX7_53 sh_41 (by decide) rfl rfl rfl (by decide) <|
    ?_
  rintro _ m7 ⟨rfl, q7, s7⟩
  refine cw_aload_n (pc := 77) dX7_takes_77 rfl rfl <|
    cw_aload_n (pc := 78) dX7_takes_78 rfl rfl <|
    cw_getI (q := 1) (pc := 79) dX7_takes_79 fX7_56 sh_1 (by decide) rfl <|
    cw_putI (q := 22) (pc := 82) dX7_takes_82 pX7_56 sh_22 (by decide) rfl <|
    ?_
  have u7 : Same (fun q i => q = 22 ∧ i = 7) m7 (st m7 22 7 (m7 1 7)) := Same.rf.s1 ⟨rfl, rfl⟩
  generalize hm8 : st m7 22 7 (m7 1 7) = m8 at u7 ⊢
  have u6 : Same (fun q i => (41 ≤ q ∧ q ≤ 42) ∨ (q = 22 ∧ i = 7)) m6 m8 := (s7.mo (fun q i h => by omega)).tr (u7.mo (fun q i h => by omega))
  have u5 : Same (fun q i => (39 ≤ q ∧ q ≤ 42) ∨ (q = 22 ∧ i = 7)) m5 m8 := (s6.mo (fun q i h => by omega)).tr (u6.mo (fun q i h => by omega))
  have u4 : Same (fun q i => (37 ≤ q ∧ q ≤ 42) ∨ (q = 22 ∧ i = 7)) m4 m8 := (s5.mo (fun q i h => by omega)).tr (u5.mo (fun q i h => by omega))
  have u3 : Same (fun q i => (35 ≤ q ∧ q ≤ 42) ∨ (q = 22 ∧ i = 7)) m3 m8 := (s4.mo (fun q i h => by omega)).tr (u4.mo (fun q i h => by omega))
  have u2 : Same (fun q i => (33 ≤ q ∧ q ≤ 42) ∨ (q = 22 ∧ i = 7)) m2 m8 := (s3.mo (fun q i h => by omega)).tr (u3.mo (fun q i h => by omega))
  have u1 : Same (fun q i => (30 ≤ q ∧ q ≤ 42) ∨ (q = 22 ∧ i = 7)) m1 m8 := (s2.mo (fun q i h => by omega)).tr (u2.mo (fun q i h => by omega))
  have d1 : Same (fun q i => 23 ≤ q ∧ q ≤ 42) μ m1 := (s1.mo (fun q i h => by omega))
  have d2 : Same (fun q i => 23 ≤ q ∧ q ≤ 42) μ m2 := d1.tr (s2.mo (fun q i h => by omega))
  have d3 : Same (fun q i => 23 ≤ q ∧ q ≤ 42) μ m3 := d2.tr (s3.mo (fun q i h => by omega))
  have d4 : Same (fun q i => 23 ≤ q ∧ q ≤ 42) μ m4 := d3.tr (s4.mo (fun q i h => by omega))
  have d5 : Same (fun q i => 23 ≤ q ∧ q ≤ 42) μ m5 := d4.tr (s5.mo (fun q i h => by omega))
  have d6 : Same (fun q i => 23 ≤ q ∧ q ≤ 42) μ m6 := d5.tr (s6.mo (fun q i h => by omega))
  have d7 : Same (fun q i => 23 ≤ q ∧ q ≤ 42) μ m7 := d6.tr (s7.mo (fun q i h => by omega))
  have hF : Same (StF 22) μ m8 := (s1.mo (fun q i h => by unfold StF; omega)).tr ((s2.mo (fun q i h => by unfold StF; omega)).tr ((s3.mo (fun q i h => by unfold StF; omega)).tr ((s4.mo (fun q i h => by unfold StF; omega)).tr ((s5.mo (fun q i h => by unfold StF; omega)).tr ((s6.mo (fun q i h => by unfold StF; omega)).tr ((s7.mo (fun q i h => by unfold StF; omega)).tr (u7.mo (fun q i h => by unfold StF; omega))))))))
  exact cw_vret (pc := 85) dX7_takes_85 hR ⟨rfl, ⟨⟨fun i h => (u1 _ _ (by omega)).trans (q1.1 i h), fun j h => (u1 _ _ (by omega)).trans (q1.2.1 j h), fun j h => (u1 _ _ (by omega)).trans (q1.2.2.1 j h), fun j h => (u1 _ _ (by omega)).trans (q1.2.2.2.1 j h), fun j h => (u1 _ _ (by omega)).trans (q1.2.2.2.2.1 j h), fun j h => (u1 _ _ (by omega)).trans (q1.2.2.2.2.2.1 j h), fun j h => (u1 _ _ (by omega)).trans (q1.2.2.2.2.2.2  j h)⟩, ⟨(u2 _ _ (by omega)).trans (q2.1.trans (d1 _ _ (by omega))), (u2 _ _ (by omega)).trans (q2.2.1.trans (d1 _ _ (by omega))), fun j h => (u2 _ _ (by omega)).trans ((q2.2.2.1 j h).trans (d1 _ _ (by omega))), fun j h => (u2 _ _ (by omega)).trans ((q2.2.2.2 j h).trans (d1 _ _ (by omega)))⟩, ⟨(u3 _ _ (by omega)).trans (q3.1.trans (d2 _ _ (by omega))), fun i h => (u3 _ _ (by omega)).trans ((q3.2 i h).trans (d2 _ _ (by omega)))⟩, ⟨(u4 _ _ (by omega)).trans (q4.1.trans (d3 _ _ (by omega))), fun i h => (u4 _ _ (by omega)).trans ((q4.2 i h).trans (d3 _ _ (by omega)))⟩, ⟨(u5 _ _ (by omega)).trans (q5.1.trans (d4 _ _ (by omega))), fun i h => (u5 _ _ (by omega)).trans ((q5.2 i h).trans (d4 _ _ (by omega)))⟩, ⟨(u6 _ _ (by omega)).trans (q6.1.trans (d5 _ _ (by omega))), fun i h => (u6 _ _ (by omega)).trans ((q6.2 i h).trans (d5 _ _ (by omega)))⟩, ⟨(u7 _ _ (by omega)).trans (q7.1.trans (d6 _ _ (by omega))), fun i h => (u7 _ _ (by omega)).trans ((q7.2 i h).trans (d6 _ _ (by omega)))⟩, by rw [← hm8, st_eq]; exact d7 _ _ (by omega)⟩, hF⟩
set_option maxHeartbeats 4000000 in
set_option maxRecDepth 100000 in
theorem c_X7_takes_1 {E : Ev} {μ : Mem} : AM E yX7_takes cX7_takes 2 none 2 [.ref 1, .ref 22] μ (fun r μ' => r = none ∧ StEq μ' 1 μ 22 ∧ Same (StF 1) μ μ') := by
  refine am_of (own := RX7) (L := [.ref 1, .ref 22]) (by decide) rfl (Nat.le_of_ble_eq_true rfl) rfl (fun Γ hR => ?_)
  refine cw_aload_n (pc := 0) dX7_takes_0 rfl rfl <|
    cw_getR (q := 1) (t := 2) (pc := 1) dX7_takes_1 fX7_12 sh_1 (by decide) rfl <|
    cw_aload_n (pc := 4) dX7_takes_4 rfl rfl <|
    cw_getR (q := 22) (t := 23) (pc := 5) dX7_takes_5 fX7_12 sh_22 (by decide) rfl <|
    cw_invP (q := 2) (pc := 8) dX7_takes_8 (c_X2_takes land_2 land_23 (by decide)) rfl vX7_46 sh_2 (by decide) rfl rfl rfl (by decide) <|
    ?_
  rintro _ m1 ⟨rfl, q1, s1⟩
  refine cw_aload_n (pc := 11) dX7_takes_11 rfl rfl <|
    cw_getR (q := 1) (t := 9) (pc := 12) dX7_takes_12 fX7_21 sh_1 (by decide) rfl <|
    cw_aload_n (pc := 15) dX7_takes_15 rfl rfl <|
    cw_getR (q := 22) (t := 30) (pc := 16) dX7_takes_16 fX7_21 sh_22 (by decide) rfl <|
    cw_invP (q := 9) (pc := 19) dX7_takes_19 (c_X3_takes par_9 par_30 (by decide)) rfl vX7_50 sh_9 (by decide) rfl rfl rfl (by decide) <|
    ?_
  rintro _ m2 ⟨rfl, q2, s2⟩
  refine cw_aload_n (pc := 22) dX7_takes_22 rfl rfl <|
    cw_getR (q := 1) (t := 12) (pc := 23) dX7_takes_23 fX7_30 sh_1 (by decide) rfl <|
    cw_aload_n (pc := 26) dX7_takes_26 rfl rfl <|
    cw_getR (q := 22) (t := 33) (pc := 27) dX7_takes_27 fX7_30 sh_22 (by decide) rfl <|
    cw_invP (q := 12) (pc := 30) dX7_takes_30 (c_X6_takes row_12 row_33 (by decide)) rfl vX7_53 sh_12 (by decide) rfl rfl rfl (by decide) <|
    ?_
  rintro _ m3 ⟨rfl, q3, s3⟩
  refine cw_aload_n (pc := 33) dX7_takes_33 rfl rfl <|
    cw_getR (q := 1) (t := 14) (pc := 34) dX7_takes_34 fX7_34 sh_1 (by decide) rfl <|
    cw_aload_n (pc := 37) dX7_takes_37 rfl rfl <|
    cw_getR (q := 22) (t := 35) (pc := 38) dX7_takes_38 fX7_34 sh_22 (by decide) rfl <|
    cw_invP (q := 14) (pc := 41) dX7_takes_41 (c_X6_takes row_14 row_35 (by decide)) rfl vX7_53 sh_14 (by decide) rfl rfl rfl (by decide) <|
    ?_
  rintro _ m4 ⟨rfl, q4, s4⟩
  refine cw_aload_n (pc := 44) dX7_takes_44 rfl rfl <|
    cw_getR (q := 1) (t := 16) (pc := 45) dX7_takes_45 fX7_37 sh_1 (by decide) rfl <|
    cw_aload_n (pc := 48) dX7_takes_48 rfl rfl <|
    cw_getR (q := 22) (t := 37) (pc := 49) dX7_takes_49 fX7_37 sh_22 (by decide) rfl <|
    cw_invP (q := 16) (pc := 52) dX7_takes_52 (c_X6_takes row_16 row_37 (by decide)) rfl vX7_53 sh_16 (by decide) rfl rfl rfl (by decide) <|
    ?_
  rintro _ m5 ⟨rfl, q5, s5⟩
  refine cw_aload_n (pc := 55) dX7_takes_55 rfl rfl <|
    cw_getR (q := 1) (t := 18) (pc := 56) dX7_takes_56 fX7_40 sh_1 (by decide) rfl <|
    cw_aload_n (pc := 59) dX7_takes_59 rfl rfl <|
    cw_getR (q := 22) (t := 39) (pc := 60) dX7_takes_60 fX7_40 sh_22 (by decide) rfl <|
    cw_invP (q := 18) (pc := 63) dX7_takes_63 (c_X6_takes row_18 row_39 (by decide)) rfl vX7_53 sh_18 (by decide) rfl rfl rfl (by decide) <|
    ?_
  rintro _ m6 ⟨rfl, q6, s6⟩
  refine cw_aload_n (pc := 66) dX7_takes_66 rfl rfl <|
    cw_getR (q := 1) (t := 20) (pc := 67) dX7_takes_67 fX7_43 sh_1 (by decide) rfl <|
    cw_aload_n (pc := 70) dX7_takes_70 rfl rfl <|
    cw_getR (q := 22) (t := 41) (pc := 71) dX7_takes_71 fX7_43 sh_22 (by decide) rfl <|
    cw_invP (q := 20) (pc := 74) dX7_takes_74 (c_X6_takes row_20 row_41 (by decide)) rfl vX7_53 sh_20 (by decide) rfl rfl rfl (by decide) <|
    ?_
  rintro _ m7 ⟨rfl, q7, s7⟩
  refine cw_aload_n (pc := 77) dX7_takes_77 rfl rfl <|
    cw_aload_n (pc := 78) dX7_takes_78 rfl rfl <|
    cw_getI (q := 22) (pc := 79) dX7_takes_79 fX7_56 sh_22 (by decide) rfl <|
    cw_putI (q := 1) (pc := 82) dX7_takes_82 pX7_56 sh_1 (by decide) rfl <|
    ?_
  have u7 : Same (fun q i => q = 1 ∧ i = 7) m7 (st m7 1 7 (m7 22 7)) := Same.rf.s1 ⟨rfl, rfl⟩
  generalize hm8 : st m7 1 7 (m7 22 7) = m8 at u7 ⊢
  have u6 : Same (fun q i => (20 ≤ q ∧ q ≤ 21) ∨ (q = 1 ∧ i = 7)) m6 m8 := (s7.mo (fun q i h => by omega)).tr (u7.mo (fun q i h => by omega))
  have u5 : Same (fun q i => (18 ≤ q ∧ q ≤ 21) ∨ (q = 1 ∧ i = 7)) m5 m8 := (s6.mo (fun q i h => by omega)).tr (u6.mo (fun q i h => by omega))
  have u4 : Same (fun q i => (16 ≤ q ∧ q ≤ 21) ∨ (q = 1 ∧ i = 7)) m4 m8 := (s5.mo (fun q i h => by omega)).tr (u5.mo (fun q i h => by omega))
  have u3 : Same (fun q i => (14 ≤ q ∧ q ≤ 21) ∨ (q = 1 ∧ i = 7)) m3 m8 := (s4.mo (fun q i h => by omega)).tr (u4.mo (fun q i h => by omega))
  have u2 : Same (fun q i => (12 ≤ q ∧ q ≤ 21) ∨ (q = 1 ∧ i = 7)) m2 m8 := (s3.mo (fun q i h => by omega)).tr (u3.mo (fun q i h => by omega))
  have u1 : Same (fun q i => (9 ≤ q ∧ q ≤ 21) ∨ (q = 1 ∧ i = 7)) m1 m8 := (s2.mo (fun q i h => by omega)).tr (u2.mo (fun q i h => by omega))
  have d1 : Same (fun q i => 2 ≤ q ∧ q ≤ 21) μ m1 := (s1.mo (fun q i h => by omega))
  have d2 : Same (fun q i => 2 ≤ q ∧ q ≤ 21) μ m2 := d1.tr (s2.mo (fun q i h => by omega))
  have d3 : Same (fun q i => 2 ≤ q ∧ q ≤ 21) μ m3 := d2.tr (s3.mo (fun q i h => by omega))
  have d4 : Same (fun q i => 2 ≤ q ∧ q ≤ 21) μ m4 := d3.tr (s4.mo (fun q i h => by omega))
  have d5 : Same (fun q i => 2 ≤ q ∧ q ≤ 21) μ m5 := d4.tr (s5.mo (fun q i h => by omega))
  have d6 : Same (fun q i => 2 ≤ q ∧ q ≤ 21) μ m6 := d5.tr (s6.mo (fun q i h => by omega))
  have d7 : Same (fun q i => 2 ≤ q ∧ q ≤ 21) μ m7 := d6.tr (s7.mo (fun q i h => by omega))
  have hF : Same (StF 1) μ m8 := (s1.mo (fun q i h => by unfold StF; omega)).tr ((s2.mo (fun q i h => by unfold StF; omega)).tr ((s3.mo (fun q i h => by unfold StF; omega)).tr ((s4.mo (fun q i h => by unfold StF; omega)).tr ((s5.mo (fun q i h => by unfold StF; omega)).tr ((s6.mo (fun q i h => by unfold StF; omega)).tr ((s7.mo (fun q i h => by unfold StF; omega)).tr (u7.mo (fun q i h => by unfold StF; omega))))))))
  exact cw_vret (pc := 85) dX7_takes_85 hR ⟨rfl, ⟨⟨fun i h => (u1 _ _ (by omega)).trans (q1.1 i h), fun j h => (u1 _ _ (by omega)).trans (q1.2.1 j h), fun j h => (u1 _ _ (by omega)).trans (q1.2.2.1 j h), fun j h => (u1 _ _ (by omega)).trans (q1.2.2.2.1 j h), fun j h => (u1 _ _ (by omega)).trans (q1.2.2.2.2.1 j h), fun j h => (u1 _ _ (by omega)).trans (q1.2.2.2.2.2.1 j h), fun j h => (u1 _ _ (by omega)).trans (q1.2.2.2.2.2.2  j h)⟩, ⟨(u2 _ _ (by omega)).trans (q2.1.trans (d1 _ _ (by omega))), (u2 _ _ (by omega)).trans (q2.2.1.trans (d1 _ _ (by omega))), fun j h => (u2 _ _ (by omega)).trans ((q2.2.2.1 j h).trans (d1 _ _ (by omega))), fun j h => (u2 _ _ (by omega)).trans ((q2.2.2.2 j h).trans (d1 _ _ (by omega)))⟩, ⟨(u3 _ _ (by omega)).trans (q3.1.trans (d2 _ _ (by omega))), fun i h => (u3 _ _ (by omega)).trans ((q3.2 i h).trans (d2 _ _ (by omega)))⟩, ⟨(u4 _ _ (by omega)).trans (q4.1.trans (d3 _ _ (by omega))), fun i h => (u4 _ _ (by omega)).trans ((q4.2 i h).trans (d3 _ _ (by omega)))⟩, ⟨(u5 _ _ (by omega)).trans (q5.1.trans (d4 _ _ (by omega))), fun i h => (u5 _ _ (by omega)).trans ((q5.2 i h).trans (d4 _ _ (by omega)))⟩, ⟨(u6 _ _ (by omega)).trans (q6.1.trans (d5 _ _ (by omega))), fun i h => (u6 _ _ (by omega)).trans ((q6.2 i h).trans (d5 _ _ (by omega)))⟩, ⟨(u7 _ _ (by omega)).trans (q7.1.trans (d6 _ _ (by omega))), fun i h => (u7 _ _ (by omega)).trans ((q7.2 i h).trans (d6 _ _ (by omega)))⟩, by rw [← hm8, st_eq]; exact d7 _ _ (by omega)⟩, hF⟩
set_option maxHeartbeats 4000000 in
set_option maxRecDepth 100000 in
theorem c_X2_adds {E : Ev} {k : Nat} (hk : LandAt k) {μ : Mem} {n : Nat} (hn : μ k 1 = nI n) (hn6 : n ≤ 6) {a b c : Int32} : AM E yX2_adds cX2_adds 5 (some .int) 0 [.ref k, .int a, .int b, .int c] μ (fun r μ' => (n < 6 → r = some (.int (nI n)) ∧ μ' = st (st (st (st μ (k + 2) n a) (k + 3) n b) (k + 4) n c) k 1 (nI (n + 1))) ∧ (¬ n < 6 → r = some (.int (-4)) ∧ μ' = μ)) := by
  refine am_of (own := RX2) (L := [.ref k, .int a, .int b, .int c, .null]) (by decide) rfl (Nat.le_of_ble_eq_true rfl) rfl (fun Γ hR => ?_)
  refine cw_aload_n (pc := 0) dX2_adds_0 rfl rfl <|
    cw_getI (q := k) (pc := 1) dX2_adds_1 fX2_30 hk.1 (by decide) rfl <|
    cw_if_lt_F (tgt := 16) (pc := 4) dX2_adds_4 (by decide) (by rw [hn]; exact nI_pos (by omega)) <|
    cw_aload_n (pc := 7) dX2_adds_7 rfl rfl <|
    cw_getI (q := k) (pc := 8) dX2_adds_8 fX2_30 hk.1 (by decide) rfl <|
    cw_bipush (v := 6) (pc := 11) dX2_adds_11 (by decide) <|
    ?_
  by_cases h6 : n < 6
  · refine cw_icmp_lt_T (tgt := 19) (pc := 13) dX2_adds_13 (by decide) (by rw [hn]; exact nI_lt (b := 6) h6 (by decide)) <|
      cw_aload_n (pc := 19) dX2_adds_19 rfl rfl <|
      cw_getI (q := k) (pc := 20) dX2_adds_20 fX2_30 hk.1 (by decide) rfl <|
      ?_
    rw [hn]
    refine cw_istore (L' := [_, _, _, _, _]) (pc := 23) dX2_adds_23 (by decide) rfl rfl <|
      ?_
    refine cw_aload_n (pc := 25) dX2_adds_25 rfl rfl <|
      cw_getR (q := k) (t := k + 2) (pc := 26) dX2_adds_26 fX2_15 hk.1 (by decide) rfl <|
      cw_iload (pc := 29) dX2_adds_29 rfl <|
      cw_iload_n (pc := 31) dX2_adds_31 rfl rfl <|
      cw_ias (q := k + 2) (jn := n) (pc := 32) dX2_adds_32 hk.2.2.1 rfl (by omega) (by decide) <|
      cw_aload_n (pc := 33) dX2_adds_33 rfl rfl <|
      cw_getR (q := k) (t := k + 3) (pc := 34) dX2_adds_34 fX2_18 hk.1 (by decide) rfl <|
      cw_iload (pc := 37) dX2_adds_37 rfl <|
      cw_iload_n (pc := 39) dX2_adds_39 rfl rfl <|
      cw_ias (q := k + 3) (jn := n) (pc := 40) dX2_adds_40 hk.2.2.2.1 rfl (by omega) (by decide) <|
      cw_aload_n (pc := 41) dX2_adds_41 rfl rfl <|
      cw_getR (q := k) (t := k + 4) (pc := 42) dX2_adds_42 fX2_21 hk.1 (by decide) rfl <|
      cw_iload (pc := 45) dX2_adds_45 rfl <|
      cw_iload_n (pc := 47) dX2_adds_47 rfl rfl <|
      cw_ias (q := k + 4) (jn := n) (pc := 48) dX2_adds_48 hk.2.2.2.2.1 rfl (by omega) (by decide) <|
      cw_aload_n (pc := 49) dX2_adds_49 rfl rfl <|
      cw_dup (pc := 50) dX2_adds_50 rfl <|
      cw_getI (q := k) (pc := 51) dX2_adds_51 fX2_30 hk.1 (by decide) rfl <|
      cw_iconst (v := 1) (pc := 54) dX2_adds_54 (by decide) <|
      cw_iadd (pc := 55) dX2_adds_55 <|
      cw_putI (q := k) (pc := 56) dX2_adds_56 pX2_30 hk.1 (by decide) rfl <|
      cw_iload (pc := 59) dX2_adds_59 rfl <|
      cw_iret (pc := 61) dX2_adds_61 hR <|
      ⟨fun _ => ⟨rfl, by simp [st_at, hn, nI_1]⟩, fun h => absurd h6 h⟩
  · refine cw_icmp_lt_F (tgt := 19) (pc := 13) dX2_adds_13 (by decide) (by rw [hn]; exact nI_nlt (a := n) (b := 6) (by omega) (by omega)) <|
      cw_bipush (v := -4) (pc := 16) dX2_adds_16 (by decide) <|
      cw_iret (pc := 18) dX2_adds_18 hR <|
      ⟨fun h => absurd h h6, fun _ => ⟨rfl, rfl⟩⟩
set_option maxHeartbeats 4000000 in
set_option maxRecDepth 100000 in
theorem c_X2_goesAway {E : Ev} {k : Nat} (hk : LandAt k) {μ : Mem} {n : Nat} (hn : μ k 1 = nI n) (hn6 : n ≤ 6) {p : Nat} (hp : p < n) {z : Int32} : AM E yX2_goesAway cX2_goesAway 3 none 1 [.ref k, .int (nI p), .int z] μ (fun r μ' => r = none ∧ μ' = st μ k 2 (if z = 0 then μ k 2 &&& (((1 : Int32) <<< (nI p &&& 31)) ^^^ (-1)) else μ k 2 ||| ((1 : Int32) <<< (nI p &&& 31)))) := by
  refine am_of (own := RX2) (L := [.ref k, .int (nI p), .int z]) (by decide) rfl (Nat.le_of_ble_eq_true rfl) rfl (fun Γ hR => ?_)
  refine cw_aload_n (pc := 0) dX2_goesAway_0 rfl rfl <|
    cw_iload_n (pc := 1) dX2_goesAway_1 rfl rfl <|
    cw_invI (q := k) (pc := 2) dX2_goesAway_2 (c_X2_has hk) rfl vX2_34 hk.1 (by decide) rfl rfl rfl (by decide) <|
    cw_if_eq_F (tgt := 37) (pc := 5) dX2_goesAway_5 (by decide) (by rw [bI_t ⟨nI_pos' (by omega), by rw [hn]; exact nI_lt hp (by omega), nI_lt (b := 6) (by omega) (by decide)⟩]; decide) <|
    cw_aload_n (pc := 8) dX2_goesAway_8 rfl rfl <|
    cw_iload_n (pc := 9) dX2_goesAway_9 rfl rfl <|
    cw_if_eq (tgt := 24) (pc := 10) dX2_goesAway_10 (by decide) (fun c10 => ?_) (fun c10 => ?_)
  · refine cw_aload_n (pc := 24) dX2_goesAway_24 rfl rfl <|
      cw_getI (q := k) (pc := 25) dX2_goesAway_25 fX2_38 hk.1 (by decide) rfl <|
      cw_iconst (v := 1) (pc := 28) dX2_goesAway_28 (by decide) <|
      cw_iload_n (pc := 29) dX2_goesAway_29 rfl rfl <|
      cw_ishl (pc := 30) dX2_goesAway_30 <|
      cw_iconst (v := -1) (pc := 31) dX2_goesAway_31 (by decide) <|
      cw_ixor (pc := 32) dX2_goesAway_32 <|
      cw_iand (pc := 33) dX2_goesAway_33 <|
      cw_putI (q := k) (pc := 34) dX2_goesAway_34 pX2_38 hk.1 (by decide) rfl <|
      ?_
    refine cw_vret (pc := 37) dX2_goesAway_37 hR ⟨rfl, ?_⟩
    first
      | rw [if_pos c10]
      | rw [if_neg c10]
  · refine cw_aload_n (pc := 13) dX2_goesAway_13 rfl rfl <|
      cw_getI (q := k) (pc := 14) dX2_goesAway_14 fX2_38 hk.1 (by decide) rfl <|
      cw_iconst (v := 1) (pc := 17) dX2_goesAway_17 (by decide) <|
      cw_iload_n (pc := 18) dX2_goesAway_18 rfl rfl <|
      cw_ishl (pc := 19) dX2_goesAway_19 <|
      cw_ior (pc := 20) dX2_goesAway_20 <|
      cw_goto (tgt := 34) (pc := 21) dX2_goesAway_21 (by decide) <|
      cw_putI (q := k) (pc := 34) dX2_goesAway_34 pX2_38 hk.1 (by decide) rfl <|
      ?_
    refine cw_vret (pc := 37) dX2_goesAway_37 hR ⟨rfl, ?_⟩
    first
      | rw [if_pos c10]
      | rw [if_neg c10]
def sumI (f : Nat → Int32) : Nat → Int32
  | 0 => 0
  | p + 1 => sumI f p + f p
set_option maxHeartbeats 4000000 in
set_option maxRecDepth 100000 in
theorem c_X2_winsOfAll {E : Ev} {k : Nat} (hk : LandAt k) {μ : Mem} {n : Nat} (hn : μ k 1 = nI n) (hn6 : n ≤ 6) : AM E yX2_winsOfAll cX2_winsOfAll 3 (some .int) 0 [.ref k] μ (fun r μ' => r = some (.int (sumI (μ (k + 5)) n)) ∧ μ' = μ) := by
  refine am_of (own := RX2) (L := [.ref k, .null, .null]) (by decide) rfl (Nat.le_of_ble_eq_true rfl) rfl (fun Γ hR => ?_)
  refine cw_iconst (v := 0) (pc := 0) dX2_winsOfAll_0 (by decide) <|
    cw_istore_n (L' := [_, _, _]) (pc := 1) dX2_winsOfAll_1 rfl (by decide) rfl rfl <|
    cw_iconst (v := 0) (pc := 2) dX2_winsOfAll_2 (by decide) <|
    cw_istore_n (L' := [_, _, _]) (pc := 3) dX2_winsOfAll_3 rfl (by decide) rfl rfl <|
    ?_
  refine cw_for (σ := Int32 × Int32) n (fun i a m => m = μ ∧ a.2 = nI i ∧ a.1 = sumI (μ (k + 5)) i) (fun _ a => [.ref k, .int a.1, .int a.2]) ?_ ?_ 0 (0, 0) μ (Nat.zero_le _) ⟨rfl, rfl, rfl⟩
  · rintro ⟨b, x⟩ m ⟨hm, hx, hb⟩
    dsimp only at hx hb ⊢
    subst hm; subst hx
    refine cw_iload_n (pc := 4) dX2_winsOfAll_4 rfl rfl <|
      cw_aload_n (pc := 5) dX2_winsOfAll_5 rfl rfl <|
      cw_getI (q := k) (pc := 6) dX2_winsOfAll_6 fX2_30 hk.1 (by decide) rfl <|
      cw_icmp_ge_T (tgt := 33) (pc := 9) dX2_winsOfAll_9 (by decide) (by rw [hn]; exact nI_le (Nat.le_refl _) (by omega)) <|
      cw_iload_n (pc := 33) dX2_winsOfAll_33 rfl rfl <|
      cw_iret (pc := 34) dX2_winsOfAll_34 hR <|
      ⟨by rw [hb], rfl⟩
  · rintro i ⟨b, x⟩ m hi ⟨hm, hx, hb⟩ ih
    dsimp only at hx hb ⊢
    subst hm; subst hx
    refine cw_iload_n (pc := 4) dX2_winsOfAll_4 rfl rfl <|
      cw_aload_n (pc := 5) dX2_winsOfAll_5 rfl rfl <|
      cw_getI (q := k) (pc := 6) dX2_winsOfAll_6 fX2_30 hk.1 (by decide) rfl <|
      cw_icmp_ge_F (tgt := 33) (pc := 9) dX2_winsOfAll_9 (by decide) (by rw [hn]; exact nI_ge hi (by omega)) <|
      cw_iload_n (pc := 12) dX2_winsOfAll_12 rfl rfl <|
      cw_bipush (v := 6) (pc := 13) dX2_winsOfAll_13 (by decide) <|
      cw_icmp_ge_F (tgt := 33) (pc := 15) dX2_winsOfAll_15 (by decide) (nI_ge (b := 6) (by omega) (by decide)) <|
      cw_iload_n (pc := 18) dX2_winsOfAll_18 rfl rfl <|
      cw_aload_n (pc := 19) dX2_winsOfAll_19 rfl rfl <|
      cw_getR (q := k) (t := k + 5) (pc := 20) dX2_winsOfAll_20 fX2_24 hk.1 (by decide) rfl <|
      cw_iload_n (pc := 23) dX2_winsOfAll_23 rfl rfl <|
      cw_ial (q := k + 5) (jn := i) (pc := 24) dX2_winsOfAll_24 hk.2.2.2.2.2.1 rfl (by omega) (by decide) <|
      cw_iadd (pc := 25) dX2_winsOfAll_25 <|
      cw_istore_n (L' := [_, _, _]) (pc := 26) dX2_winsOfAll_26 rfl (by decide) rfl rfl <|
      cw_iincL (L' := [_, _, _]) (c := 1) (pc := 27) dX2_winsOfAll_27 rfl (by decide) (by decide) rfl rfl <|
      cw_goto (tgt := 4) (pc := 30) dX2_winsOfAll_30 (by decide) <|
      ?_
    exact ih (_, _) _ ⟨rfl, nI_1 i, by rw [hb]; rfl⟩
set_option maxHeartbeats 4000000 in
set_option maxRecDepth 100000 in
theorem c_X8_winner {E : Ev} {μ : Mem} {code : PCo} (hc : CodeAt μ 9 code) (hw : WFc 0 code) {n : Nat} (hn : MenAt μ 2 n) : AM E yX8_winner cX8_winner 1 (some .int) 5 [.ref 0] μ (fun r μ' => r = some (.int (bestF (naB μ 2) (fun p => scY μ 2 code (μ 2 0) p) (-999999) n).1) ∧ Same (PS 50) μ μ') := by
  refine am_of (own := RX8) (L := [.ref 0]) (by decide) rfl (Nat.le_of_ble_eq_true rfl) rfl (fun Γ hR => ?_)
  refine cw_aload_n (pc := 0) dX8_winner_0 rfl rfl <|
    cw_getR (q := 0) (t := 50) (pc := 1) dX8_winner_1 fX8_35 sh_0 (by decide) rfl <|
    cw_invP (q := 50) (pc := 4) dX8_winner_4 (c_X4_scoresAll plo_50 land_2 par_9 hc hw hn) rfl vX8_225 sh_50 (by decide) rfl rfl rfl (by decide) <|
    ?_
  rintro _ m ⟨rfl, hsc, hS⟩
  refine cw_aload_n (pc := 7) dX8_winner_7 rfl rfl <|
    cw_getR (q := 0) (t := 50) (pc := 8) dX8_winner_8 fX8_35 sh_0 (by decide) rfl <|
    cw_invI (q := 50) (pc := 11) dX8_winner_11 (c_X4_bestOfAll plo_50 land_2 (hn.mo (hS _ _ (by unfold PS; omega)) (funext fun j => hS _ _ (by unfold PS; omega)))) rfl vX8_285 sh_50 (by decide) rfl rfl rfl (by decide) <|
    cw_iret (pc := 14) dX8_winner_14 hR <|
    ⟨by
  have e : naB m 2 = naB μ 2 := by funext p; unfold naB; rw [hS 2 2 (by unfold PS; omega)]
  rw [bestF_congr (na' := naB μ 2) (sc' := fun p => scY μ 2 code (μ 2 0) p) (fun p _ => by rw [e]) (fun p hp h => hsc p hp (by rw [← e]; exact h))], hS⟩
theorem bit_eq (f : Nat → Bool) {p : Nat} (hp : p < 6) : (bitsI f 6 >>> (nI p &&& 31)) &&& 1 = if f p then 1 else 0 := bits_get f hp
/-- for whom a CASE of these two is DECIDED, did these be BELIEVED -/
def decI (f : Nat → Bool) (so no : Nat) : Int32 := if f so = f no then -5 else if f so then nI so else nI no
set_option maxHeartbeats 4000000 in
set_option maxRecDepth 100000 in
theorem c_X8_decided {E : Ev} {μ : Mem} {cs c so no : Nat} (hw : μ 14 0 = 2) (hs : μ 14 2 = nI cs) (hcs : cs ≤ 5) (hc : c < cs) (h1 : μ 15 (c * 2 + 0) = nI so) (h2 : μ 15 (c * 2 + 1) = nI no) (hso : so < 6) (hno : no < 6) {f : Nat → Bool} : AM E yX8_decided cX8_decided 5 (some .int) 1 [.ref 0, .int (nI c), .int (bitsI f 6)] μ (fun r μ' => r = some (.int (decI f so no)) ∧ μ' = μ) := by
  refine am_of (own := RX8) (L := [.ref 0, .int (nI c), .int (bitsI f 6), .null, .null]) (by decide) rfl (Nat.le_of_ble_eq_true rfl) rfl (fun Γ hR => ?_)
  refine cw_aload_n (pc := 0) dX8_decided_0 rfl rfl <|
    cw_getR (q := 0) (t := 1) (pc := 1) dX8_decided_1 fX8_12 sh_0 (by decide) rfl <|
    cw_getR (q := 1) (t := 14) (pc := 4) dX8_decided_4 fX8_156 sh_1 (by decide) rfl <|
    cw_iload_n (pc := 7) dX8_decided_7 rfl rfl <|
    cw_iconst (v := 0) (pc := 8) dX8_decided_8 (by decide) <|
    cw_invI (q := 14) (pc := 9) dX8_decided_9 (c_X6_at row_14 (w := 2) (sz := cs) (row := c) (col := 0) hw (by decide) hs (by omega) (by omega) hc (by decide)) rfl vX8_206 sh_14 (by decide) rfl rfl rfl (by decide) <|
    ?_
  rw [h1]
  refine cw_istore_n (L' := [_, _, _, _, _]) (pc := 12) dX8_decided_12 rfl (by decide) rfl rfl <|
    cw_aload_n (pc := 13) dX8_decided_13 rfl rfl <|
    cw_getR (q := 0) (t := 1) (pc := 14) dX8_decided_14 fX8_12 sh_0 (by decide) rfl <|
    cw_getR (q := 1) (t := 14) (pc := 17) dX8_decided_17 fX8_156 sh_1 (by decide) rfl <|
    cw_iload_n (pc := 20) dX8_decided_20 rfl rfl <|
    cw_iconst (v := 1) (pc := 21) dX8_decided_21 (by decide) <|
    cw_invI (q := 14) (pc := 22) dX8_decided_22 (c_X6_at row_14 (w := 2) (sz := cs) (row := c) (col := 1) hw (by decide) hs (by omega) (by omega) hc (by decide)) rfl vX8_206 sh_14 (by decide) rfl rfl rfl (by decide) <|
    ?_
  rw [h2]
  refine cw_istore (L' := [_, _, _, _, _]) (pc := 25) dX8_decided_25 (by decide) rfl rfl <|
    ?_
  refine cw_iload_n (pc := 27) dX8_decided_27 rfl rfl <|
    cw_iload_n (pc := 28) dX8_decided_28 rfl rfl <|
    cw_insI (pc := 29) dX8_decided_29 c_X8_bit vX8_129 rfl rfl rfl (by decide) <|
    cw_iload_n (pc := 32) dX8_decided_32 rfl rfl <|
    cw_iload (pc := 33) dX8_decided_33 rfl <|
    cw_insI (pc := 35) dX8_decided_35 c_X8_bit vX8_129 rfl rfl rfl (by decide) <|
    cw_icmp_ne (tgt := 44) (pc := 38) dX8_decided_38 (by decide) (fun c38 => ?_) (fun c38 => ?_)
  · refine cw_iload_n (pc := 44) dX8_decided_44 rfl rfl <|
      cw_iload_n (pc := 45) dX8_decided_45 rfl rfl <|
      cw_insI (pc := 46) dX8_decided_46 c_X8_bit vX8_129 rfl rfl rfl (by decide) <|
      cw_iconst (v := 1) (pc := 49) dX8_decided_49 (by decide) <|
      cw_icmp_ne (tgt := 57) (pc := 50) dX8_decided_50 (by decide) (fun c50 => ?_) (fun c50 => ?_)
    · refine cw_iload (pc := 57) dX8_decided_57 rfl <|
        ?_
      refine cw_iret (pc := 59) dX8_decided_59 hR ⟨?_, rfl⟩
      rw [bits_get f hso, bits_get f hno] at c38
      rw [bits_get f hso] at c50
      simp only [decI]
      revert c38 c50
      cases f so <;> cases f no <;> simp
    · refine cw_iload_n (pc := 53) dX8_decided_53 rfl rfl <|
        cw_goto (tgt := 59) (pc := 54) dX8_decided_54 (by decide) <|
        ?_
      refine cw_iret (pc := 59) dX8_decided_59 hR ⟨?_, rfl⟩
      rw [bits_get f hso, bits_get f hno] at c38
      rw [bits_get f hso] at c50
      simp only [decI]
      revert c38 c50
      cases f so <;> cases f no <;> simp
  · refine cw_bipush (v := -5) (pc := 41) dX8_decided_41 (by decide) <|
      ?_
    refine cw_iret (pc := 43) dX8_decided_43 hR ?_
    exact ⟨by
        rw [bits_get f hso, bits_get f hno] at c38
        simp only [decI]
        revert c38
        cases f so <;> cases f no <;> simp, rfl⟩
