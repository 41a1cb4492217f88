/-! ===== the component's reader: factors, clauses, PARISH ===== -/
theorem neg_R (x : Rs) : (if x.1 = true then (true, x.2.1, x.2.2 ++ [(18, 0)]) else x : Rs).1 = x.1 ∧ (if x.1 = true then (true, x.2.1, x.2.2 ++ [(18, 0)]) else x : Rs).2.1 = x.2.1 ∧ (x.1 = true → (if x.1 = true then (true, x.2.1, x.2.2 ++ [(18, 0)]) else x : Rs).2.2 = x.2.2 ++ [(18, 0)]) := by
  by_cases h : x.1 = true
  · rw [if_pos h]; exact ⟨h.symm, rfl, fun _ => rfl⟩
  · rw [if_neg h]; exact ⟨rfl, rfl, fun q => absurd q h⟩
/-- a method that reads by f -/
def Rd4 (E : Ev) (s : Row) (k : Nat) (y : MethodName) (cc : ByteArray) (o d : Nat) (f : Nat → PCo → Rs) : Prop := ∀ (μ : Mem) (i : Nat) (c : PCo), RQ μ s → RA μ s i → CodeAt μ 62 c → c.length ≤ i → i ≤ k → AM E y cc 4 (some .boolean) d [.ref 61, .int (nI o)] μ (fun r μ' => PoR s (f i c) μ r μ')
set_option maxHeartbeats 4000000 in
set_option maxRecDepth 100000 in
theorem c_X5_factor_t {E : Ev} {μ : Mem} {s : Row} {k : Nat} (hT : InvT s) (hk : s 37 = nI k) (h100 : k ≤ 100) (hq : RQ μ s) {i : Nat} (ha : RA μ s i) {c : PCo} (hc : CodeAt μ 62 c) (hci : c.length ≤ i) (hik : i ≤ k) {o d : Nat} (hd : 5 < d) (h1 : ¬ nxT s i = 33) (h2 : ¬ nxT s i = 40) : AM E yX5_factor cX5_factor 4 (some .boolean) d [.ref 61, .int (nI o)] μ (fun r μ' => PoR s (tesT (nxT s) i c) μ r μ') := by
  refine am_of (own := RX5) (L := [.ref 61, .int (nI o), .null, .null]) (by decide) rfl (Nat.le_of_ble_eq_true rfl) rfl (fun Γ hR => ?_)
  refine cw_aload_n (pc := 0) dX5_factor_0 rfl rfl <|
    cw_getI (q := 61) (pc := 1) dX5_factor_1 fX5_32 sh_61 (by decide) rfl <|
    ?_
  rw [ha.2]
  refine cw_istore_n (L' := [_, _, _, _]) (pc := 4) dX5_factor_4 rfl (by decide) rfl rfl <|
    cw_iload_n (pc := 5) dX5_factor_5 rfl rfl <|
    cw_bipush (v := 33) (pc := 6) dX5_factor_6 (by decide) <|
    cw_icmp_eq_F (tgt := 22) (pc := 8) dX5_factor_8 (by decide) h1 <|
    cw_iload_n (pc := 11) dX5_factor_11 rfl rfl <|
    cw_bipush (v := 40) (pc := 12) dX5_factor_12 (by decide) <|
    cw_icmp_eq_F (tgt := 22) (pc := 14) dX5_factor_14 (by decide) h2 <|
    cw_aload_n (pc := 17) dX5_factor_17 rfl rfl <|
    cw_invP (q := 61) (pc := 18) dX5_factor_18 (c_X5_test hT hk h100 hq ha hc hci hik) rfl vX5_82 sh_61 (by decide) rfl rfl rfl (by omega) <|
    ?_
  rintro _ m1 ⟨rfl, a1, cx, s1⟩
  refine cw_zret (pc := 21) dX5_factor_21 hR nb <|
    ⟨rfl, a1, cx, s1⟩
set_option maxHeartbeats 4000000 in
set_option maxRecDepth 100000 in
theorem c_X5_factor_0 {E : Ev} {μ : Mem} {s : Row} {k : Nat} (hT : InvT s) (hk : s 37 = nI k) (h100 : k ≤ 100) (hq : RQ μ s) {i : Nat} (ha : RA μ s i) {c : PCo} (hc : CodeAt μ 62 c) (hci : c.length ≤ i) (hik : i ≤ k) {o d : Nat} (ho : o = 5) (h : nxT s i = 33 ∨ nxT s i = 40) : AM E yX5_factor cX5_factor 4 (some .boolean) d [.ref 61, .int (nI o)] μ (fun r μ' => PoR s ((false, i, c)) μ r μ') := by
  refine am_of (own := RX5) (L := [.ref 61, .int (nI o), .null, .null]) (by decide) rfl (Nat.le_of_ble_eq_true rfl) rfl (fun Γ hR => ?_)
  subst ho
  by_cases h1 : nxT s i = 33
  · refine cw_aload_n (pc := 0) dX5_factor_0 rfl rfl <|
      cw_getI (q := 61) (pc := 1) dX5_factor_1 fX5_32 sh_61 (by decide) rfl <|
      ?_
    rw [ha.2]
    refine cw_istore_n (L' := [_, _, _, _]) (pc := 4) dX5_factor_4 rfl (by decide) rfl rfl <|
      cw_iload_n (pc := 5) dX5_factor_5 rfl rfl <|
      cw_bipush (v := 33) (pc := 6) dX5_factor_6 (by decide) <|
      cw_icmp_eq_T (tgt := 22) (pc := 8) dX5_factor_8 (by decide) h1 <|
      cw_iload_n (pc := 22) dX5_factor_22 rfl rfl <|
      cw_iconst (v := 5) (pc := 23) dX5_factor_23 (by decide) <|
      cw_icmp_lt_F (tgt := 29) (pc := 24) dX5_factor_24 (by decide) (by decide) <|
      cw_iconst (v := 0) (pc := 27) dX5_factor_27 (by decide) <|
      cw_zret (pc := 28) dX5_factor_28 hR rfl <|
      ⟨rfl, ha, ⟨c, hc, fun q => by cases q⟩, Same.rf⟩
  · refine cw_aload_n (pc := 0) dX5_factor_0 rfl rfl <|
      cw_getI (q := 61) (pc := 1) dX5_factor_1 fX5_32 sh_61 (by decide) rfl <|
      ?_
    rw [ha.2]
    refine cw_istore_n (L' := [_, _, _, _]) (pc := 4) dX5_factor_4 rfl (by decide) rfl rfl <|
      cw_iload_n (pc := 5) dX5_factor_5 rfl rfl <|
      cw_bipush (v := 33) (pc := 6) dX5_factor_6 (by decide) <|
      cw_icmp_eq_F (tgt := 22) (pc := 8) dX5_factor_8 (by decide) h1 <|
      cw_iload_n (pc := 11) dX5_factor_11 rfl rfl <|
      cw_bipush (v := 40) (pc := 12) dX5_factor_12 (by decide) <|
      cw_icmp_eq_T (tgt := 22) (pc := 14) dX5_factor_14 (by decide) (h.resolve_left h1) <|
      cw_iload_n (pc := 22) dX5_factor_22 rfl rfl <|
      cw_iconst (v := 5) (pc := 23) dX5_factor_23 (by decide) <|
      cw_icmp_lt_F (tgt := 29) (pc := 24) dX5_factor_24 (by decide) (by decide) <|
      cw_iconst (v := 0) (pc := 27) dX5_factor_27 (by decide) <|
      cw_zret (pc := 28) dX5_factor_28 hR rfl <|
      ⟨rfl, ha, ⟨c, hc, fun q => by cases q⟩, Same.rf⟩
set_option maxHeartbeats 4000000 in
set_option maxRecDepth 100000 in
theorem c_X5_factor_n {E : Ev} {μ : Mem} {s : Row} {k : Nat} (hT : InvT s) (hk : s 37 = nI k) (h100 : k ≤ 100) (hq : RQ μ s) {i : Nat} (ha : RA μ s i) {c : PCo} (hc : CodeAt μ 62 c) (hci : c.length ≤ i) (hik : i ≤ k) {f : Nat → PCo → Rs} {mm dd d o : Nat} (ho : o < 5) (h1 : nxT s i = 33) (hfg : GoodF k mm f) (hd : dd < d) (hf : Rd4 E s k yX5_factor cX5_factor (o + 1) dd f) : AM E yX5_factor cX5_factor 4 (some .boolean) d [.ref 61, .int (nI o)] μ (fun r μ' => PoR s ((if (f (i + 1) c).1 = true then (true, (f (i + 1) c).2.1, (f (i + 1) c).2.2 ++ [(18, 0)]) else f (i + 1) c : Rs)) μ r μ') := by
  refine am_of (own := RX5) (L := [.ref 61, .int (nI o), .null, .null]) (by decide) rfl (Nat.le_of_ble_eq_true rfl) rfl (fun Γ hR => ?_)
  have hlt : i < k := lt_k hk h100 (by decide) h1
  have hgd := hfg (i + 1) c hlt
  obtain ⟨r1, r2, r3⟩ := neg_R (f (i + 1) c)
  generalize (if (f (i + 1) c).1 = true then (true, (f (i + 1) c).2.1, (f (i + 1) c).2.2 ++ [(18, 0)]) else f (i + 1) c : Rs) = R at r1 r2 r3 hR
  refine cw_aload_n (pc := 0) dX5_factor_0 rfl rfl <|
    cw_getI (q := 61) (pc := 1) dX5_factor_1 fX5_32 sh_61 (by decide) rfl <|
    ?_
  rw [ha.2]
  refine cw_istore_n (L' := [_, _, _, _]) (pc := 4) dX5_factor_4 rfl (by decide) rfl rfl <|
    cw_iload_n (pc := 5) dX5_factor_5 rfl rfl <|
    cw_bipush (v := 33) (pc := 6) dX5_factor_6 (by decide) <|
    cw_icmp_eq_T (tgt := 22) (pc := 8) dX5_factor_8 (by decide) h1 <|
    cw_iload_n (pc := 22) dX5_factor_22 rfl rfl <|
    cw_iconst (v := 5) (pc := 23) dX5_factor_23 (by decide) <|
    cw_icmp_lt_T (tgt := 29) (pc := 24) dX5_factor_24 (by decide) (nI_lt (b := 5) ho (by decide)) <|
    cw_aload_n (pc := 29) dX5_factor_29 rfl rfl <|
    cw_invP (q := 61) (pc := 30) dX5_factor_30 (c_goOn hk h100 hq ha hlt) rfl vX5_29 sh_61 (by decide) rfl rfl rfl (by omega) <|
    ?_
  rintro _ m1 ⟨rfl, a1, s1, -⟩
  refine cw_iload_n (pc := 33) dX5_factor_33 rfl rfl <|
    cw_bipush (v := 40) (pc := 34) dX5_factor_34 (by decide) <|
    cw_icmp_ne_T (tgt := 64) (pc := 36) dX5_factor_36 (by decide) (by rw [h1]; decide) <|
    cw_aload_n (pc := 64) dX5_factor_64 rfl rfl <|
    cw_iload_n (pc := 65) dX5_factor_65 rfl rfl <|
    cw_iconst (v := 1) (pc := 66) dX5_factor_66 (by decide) <|
    cw_iadd (pc := 67) dX5_factor_67 <|
    ?_
  rw [nI_1 o]
  refine cw_invP (q := 61) (pc := 68) dX5_factor_68 (hf m1 (i + 1) c (hq.mo (F61_Rd s1)) a1 (hc.m1 s1) (by omega) (by omega)) rfl vX5_79 sh_61 (by decide) rfl rfl rfl (by omega) <|
    ?_
  rintro _ m2 ⟨rfl, a2, ⟨c2, cc2, ce2⟩, s2⟩
  refine cw_istore_n (L' := [_, _, _, _]) (pc := 71) dX5_factor_71 rfl (by decide) rfl rfl <|
    cw_aload_n (pc := 72) dX5_factor_72 rfl rfl <|
    cw_getR (q := 61) (t := 62) (pc := 73) dX5_factor_73 fX5_12 sh_61 (by decide) rfl <|
    cw_bipush (v := 18) (pc := 76) dX5_factor_76 (by decide) <|
    cw_iconst (v := 0) (pc := 78) dX5_factor_78 (by decide) <|
    cw_invP (q := 62) (pc := 79) dX5_factor_79 (c_adds62 cc2 18 0) rfl vX5_58 sh_62 (by decide) rfl rfl rfl (by omega) <|
    ?_
  rintro _ m3 ⟨rfl, ⟨c3, cc3, ce3⟩, s3⟩
  refine cw_iload_n (pc := 82) dX5_factor_82 rfl rfl <|
    cw_zret (pc := 83) dX5_factor_83 hR nb <|
    ?_
  refine ⟨by rw [r1], by rw [r2]; exact a2.m2 s3, ⟨c3, cc3, fun q => ?_⟩, ((F61_Rd s1).tr s2).tr (F62_Rd s3)⟩
  rw [r1] at q
  have ec := ce2 q
  obtain ⟨e, ee, el, _⟩ := hgd.2.2 q
  have hp := hgd.2.1
  rw [r3 q, ← ec]
  exact ce3 (by rw [ec, ee, List.length_append]; omega)
set_option maxHeartbeats 4000000 in
set_option maxRecDepth 100000 in
theorem c_X5_factor_p {E : Ev} {μ : Mem} {s : Row} {k : Nat} (hT : InvT s) (hk : s 37 = nI k) (h100 : k ≤ 100) (hq : RQ μ s) {i : Nat} (ha : RA μ s i) {c : PCo} (hc : CodeAt μ 62 c) (hci : c.length ≤ i) (hik : i ≤ k) {g : Nat → PCo → Rs} {mm dd d o : Nat} (ho : o < 5) (h2 : nxT s i = 40) (hgE : GoodF k mm g) (hd : dd < d) (hd1 : 1 < d) (hf : Rd4 E s k yX5_either cX5_either (o + 1) dd g) : AM E yX5_factor cX5_factor 4 (some .boolean) d [.ref 61, .int (nI o)] μ (fun r μ' => PoR s ((if (g (i + 1) c).1 = true then (if nxT s (g (i + 1) c).2.1 = 41 then (true, (g (i + 1) c).2.1 + 1, (g (i + 1) c).2.2) else (false, (g (i + 1) c).2.1, c)) else g (i + 1) c : Rs)) μ r μ') := by
  refine am_of (own := RX5) (L := [.ref 61, .int (nI o), .null, .null]) (by decide) rfl (Nat.le_of_ble_eq_true rfl) rfl (fun Γ hR => ?_)
  have hlt : i < k := lt_k hk h100 (by decide) h2
  have hgd := hgE (i + 1) c hlt
  have h1 : ¬ nxT s i = 33 := by rw [h2]; decide
  by_cases hs : (g (i + 1) c).1 = true
  · rw [if_pos hs] at hR
    by_cases h3 : nxT s (g (i + 1) c).2.1 = 41
    · rw [if_pos h3] at hR
      refine cw_aload_n (pc := 0) dX5_factor_0 rfl rfl <|
        cw_getI (q := 61) (pc := 1) dX5_factor_1 fX5_32 sh_61 (by decide) rfl <|
        ?_
      rw [ha.2]
      refine cw_istore_n (L' := [_, _, _, _]) (pc := 4) dX5_factor_4 rfl (by decide) rfl rfl <|
        cw_iload_n (pc := 5) dX5_factor_5 rfl rfl <|
        cw_bipush (v := 33) (pc := 6) dX5_factor_6 (by decide) <|
        cw_icmp_eq_F (tgt := 22) (pc := 8) dX5_factor_8 (by decide) h1 <|
        cw_iload_n (pc := 11) dX5_factor_11 rfl rfl <|
        cw_bipush (v := 40) (pc := 12) dX5_factor_12 (by decide) <|
        cw_icmp_eq_T (tgt := 22) (pc := 14) dX5_factor_14 (by decide) h2 <|
        cw_iload_n (pc := 22) dX5_factor_22 rfl rfl <|
        cw_iconst (v := 5) (pc := 23) dX5_factor_23 (by decide) <|
        cw_icmp_lt_T (tgt := 29) (pc := 24) dX5_factor_24 (by decide) (nI_lt (b := 5) ho (by decide)) <|
        cw_aload_n (pc := 29) dX5_factor_29 rfl rfl <|
        cw_invP (q := 61) (pc := 30) dX5_factor_30 (c_goOn hk h100 hq ha hlt) rfl vX5_29 sh_61 (by decide) rfl rfl rfl (by omega) <|
        ?_
      rintro _ m1 ⟨rfl, a1, s1, -⟩
      refine cw_iload_n (pc := 33) dX5_factor_33 rfl rfl <|
        cw_bipush (v := 40) (pc := 34) dX5_factor_34 (by decide) <|
        cw_icmp_ne_F (tgt := 64) (pc := 36) dX5_factor_36 (by decide) h2 <|
        cw_aload_n (pc := 39) dX5_factor_39 rfl rfl <|
        cw_iload_n (pc := 40) dX5_factor_40 rfl rfl <|
        cw_iconst (v := 1) (pc := 41) dX5_factor_41 (by decide) <|
        cw_iadd (pc := 42) dX5_factor_42 <|
        ?_
      rw [nI_1 o]
      refine cw_invP (q := 61) (pc := 43) dX5_factor_43 (hf m1 (i + 1) c (hq.mo (F61_Rd s1)) a1 (hc.m1 s1) (by omega) (by omega)) rfl vX5_55 sh_61 (by decide) rfl rfl rfl (by omega) <|
        ?_
      rintro _ m2 ⟨rfl, a2, ⟨c2, cc2, ce2⟩, s2⟩
      have hq2 := (hq.mo (F61_Rd s1)).mo s2
      refine cw_if_eq_F (tgt := 62) (pc := 46) dX5_factor_46 (by decide) (bI_n0.mpr hs) <|
        cw_aload_n (pc := 49) dX5_factor_49 rfl rfl <|
        cw_bipush (v := 41) (pc := 50) dX5_factor_50 (by decide) <|
        cw_invP (q := 61) (pc := 52) dX5_factor_52 (c_X5_eats hk h100 hq2 a2 (x := 41) (by decide)) rfl vX5_51 sh_61 (by decide) rfl rfl rfl (by omega) <|
        ?_
      rintro _ m3 ⟨rfl, a3, s3⟩
      rw [if_pos h3] at a3
      refine cw_if_eq_F (tgt := 62) (pc := 55) dX5_factor_55 (by decide) (bI_n0.mpr h3) <|
        cw_iconst (v := 1) (pc := 58) dX5_factor_58 (by decide) <|
        cw_goto (tgt := 63) (pc := 59) dX5_factor_59 (by decide) <|
        cw_zret (pc := 63) dX5_factor_63 hR rfl <|
        ⟨rfl, a3, ⟨c2, cc2.m1 s3, fun _ => ce2 hs⟩, ((F61_Rd s1).tr s2).tr (F61_Rd s3)⟩
    · rw [if_neg h3] at hR
      refine cw_aload_n (pc := 0) dX5_factor_0 rfl rfl <|
        cw_getI (q := 61) (pc := 1) dX5_factor_1 fX5_32 sh_61 (by decide) rfl <|
        ?_
      rw [ha.2]
      refine cw_istore_n (L' := [_, _, _, _]) (pc := 4) dX5_factor_4 rfl (by decide) rfl rfl <|
        cw_iload_n (pc := 5) dX5_factor_5 rfl rfl <|
        cw_bipush (v := 33) (pc := 6) dX5_factor_6 (by decide) <|
        cw_icmp_eq_F (tgt := 22) (pc := 8) dX5_factor_8 (by decide) h1 <|
        cw_iload_n (pc := 11) dX5_factor_11 rfl rfl <|
        cw_bipush (v := 40) (pc := 12) dX5_factor_12 (by decide) <|
        cw_icmp_eq_T (tgt := 22) (pc := 14) dX5_factor_14 (by decide) h2 <|
        cw_iload_n (pc := 22) dX5_factor_22 rfl rfl <|
        cw_iconst (v := 5) (pc := 23) dX5_factor_23 (by decide) <|
        cw_icmp_lt_T (tgt := 29) (pc := 24) dX5_factor_24 (by decide) (nI_lt (b := 5) ho (by decide)) <|
        cw_aload_n (pc := 29) dX5_factor_29 rfl rfl <|
        cw_invP (q := 61) (pc := 30) dX5_factor_30 (c_goOn hk h100 hq ha hlt) rfl vX5_29 sh_61 (by decide) rfl rfl rfl (by omega) <|
        ?_
      rintro _ m1 ⟨rfl, a1, s1, -⟩
      refine cw_iload_n (pc := 33) dX5_factor_33 rfl rfl <|
        cw_bipush (v := 40) (pc := 34) dX5_factor_34 (by decide) <|
        cw_icmp_ne_F (tgt := 64) (pc := 36) dX5_factor_36 (by decide) h2 <|
        cw_aload_n (pc := 39) dX5_factor_39 rfl rfl <|
        cw_iload_n (pc := 40) dX5_factor_40 rfl rfl <|
        cw_iconst (v := 1) (pc := 41) dX5_factor_41 (by decide) <|
        cw_iadd (pc := 42) dX5_factor_42 <|
        ?_
      rw [nI_1 o]
      refine cw_invP (q := 61) (pc := 43) dX5_factor_43 (hf m1 (i + 1) c (hq.mo (F61_Rd s1)) a1 (hc.m1 s1) (by omega) (by omega)) rfl vX5_55 sh_61 (by decide) rfl rfl rfl (by omega) <|
        ?_
      rintro _ m2 ⟨rfl, a2, ⟨c2, cc2, ce2⟩, s2⟩
      have hq2 := (hq.mo (F61_Rd s1)).mo s2
      refine cw_if_eq_F (tgt := 62) (pc := 46) dX5_factor_46 (by decide) (bI_n0.mpr hs) <|
        cw_aload_n (pc := 49) dX5_factor_49 rfl rfl <|
        cw_bipush (v := 41) (pc := 50) dX5_factor_50 (by decide) <|
        cw_invP (q := 61) (pc := 52) dX5_factor_52 (c_X5_eats hk h100 hq2 a2 (x := 41) (by decide)) rfl vX5_51 sh_61 (by decide) rfl rfl rfl (by omega) <|
        ?_
      rintro _ m3 ⟨rfl, a3, s3⟩
      rw [if_neg h3] at a3
      refine cw_if_eq_T (tgt := 62) (pc := 55) dX5_factor_55 (by decide) (bI_0.mpr h3) <|
        cw_iconst (v := 0) (pc := 62) dX5_factor_62 (by decide) <|
        cw_zret (pc := 63) dX5_factor_63 hR rfl <|
        ⟨rfl, a3, ⟨c2, cc2.m1 s3, fun q => by cases q⟩, ((F61_Rd s1).tr s2).tr (F61_Rd s3)⟩
  · rw [if_neg hs] at hR
    refine cw_aload_n (pc := 0) dX5_factor_0 rfl rfl <|
      cw_getI (q := 61) (pc := 1) dX5_factor_1 fX5_32 sh_61 (by decide) rfl <|
      ?_
    rw [ha.2]
    refine cw_istore_n (L' := [_, _, _, _]) (pc := 4) dX5_factor_4 rfl (by decide) rfl rfl <|
      cw_iload_n (pc := 5) dX5_factor_5 rfl rfl <|
      cw_bipush (v := 33) (pc := 6) dX5_factor_6 (by decide) <|
      cw_icmp_eq_F (tgt := 22) (pc := 8) dX5_factor_8 (by decide) h1 <|
      cw_iload_n (pc := 11) dX5_factor_11 rfl rfl <|
      cw_bipush (v := 40) (pc := 12) dX5_factor_12 (by decide) <|
      cw_icmp_eq_T (tgt := 22) (pc := 14) dX5_factor_14 (by decide) h2 <|
      cw_iload_n (pc := 22) dX5_factor_22 rfl rfl <|
      cw_iconst (v := 5) (pc := 23) dX5_factor_23 (by decide) <|
      cw_icmp_lt_T (tgt := 29) (pc := 24) dX5_factor_24 (by decide) (nI_lt (b := 5) ho (by decide)) <|
      cw_aload_n (pc := 29) dX5_factor_29 rfl rfl <|
      cw_invP (q := 61) (pc := 30) dX5_factor_30 (c_goOn hk h100 hq ha hlt) rfl vX5_29 sh_61 (by decide) rfl rfl rfl (by omega) <|
      ?_
    rintro _ m1 ⟨rfl, a1, s1, -⟩
    refine cw_iload_n (pc := 33) dX5_factor_33 rfl rfl <|
      cw_bipush (v := 40) (pc := 34) dX5_factor_34 (by decide) <|
      cw_icmp_ne_F (tgt := 64) (pc := 36) dX5_factor_36 (by decide) h2 <|
      cw_aload_n (pc := 39) dX5_factor_39 rfl rfl <|
      cw_iload_n (pc := 40) dX5_factor_40 rfl rfl <|
      cw_iconst (v := 1) (pc := 41) dX5_factor_41 (by decide) <|
      cw_iadd (pc := 42) dX5_factor_42 <|
      ?_
    rw [nI_1 o]
    refine cw_invP (q := 61) (pc := 43) dX5_factor_43 (hf m1 (i + 1) c (hq.mo (F61_Rd s1)) a1 (hc.m1 s1) (by omega) (by omega)) rfl vX5_55 sh_61 (by decide) rfl rfl rfl (by omega) <|
      ?_
    rintro _ m2 ⟨rfl, a2, ⟨c2, cc2, ce2⟩, s2⟩
    have hq2 := (hq.mo (F61_Rd s1)).mo s2
    refine cw_if_eq_T (tgt := 62) (pc := 46) dX5_factor_46 (by decide) (bI_0.mpr hs) <|
      cw_iconst (v := 0) (pc := 62) dX5_factor_62 (by decide) <|
      cw_zret (pc := 63) dX5_factor_63 hR rfl <|
      ⟨by rw [bI_f hs], a2, ⟨c2, cc2, fun q => absurd q hs⟩, (F61_Rd s1).tr s2⟩
theorem c_eit {E : Ev} {s : Row} {k : Nat} (hT : InvT s) (hk : s 37 = nI k) (h100 : k ≤ 100) {f : Nat → PCo → Rs} {mm d o : Nat} (hfg : GoodF k mm f) (hf : Rd4 E s k yX5_factor cX5_factor o d f) : Rd4 E s k yX5_either cX5_either o (d + 2) (eitT (nxT s) f) := fun μ i c hq ha hc hci hik =>
  c_X5_either hT hk h100 hq ha hc hci hik (nx_end hk h100) (f := bthT (nxT s) f) (bth_good (nx_end hk h100) hfg) (dd := d + 1) (by omega) (fun μ i c hq ha hc hci hik => c_X5_both hT hk h100 hq ha hc hci hik (nx_end hk h100) hfg (dd := d) (by omega) hf)
theorem c_fac {E : Ev} {s : Row} {k : Nat} (hT : InvT s) (hk : s 37 = nI k) (h100 : k ≤ 100) : ∀ D o, o + D = 5 → Rd4 E s k yX5_factor cX5_factor o (6 + 3 * D) (facT (nxT s) D) := by
  intro D
  induction D with
  | zero =>
    intro o ho μ i c hq ha hc hci hik
    show AM E yX5_factor cX5_factor 4 (some .boolean) _ _ μ (fun r μ' => PoR s (if nxT s i = 33 ∨ nxT s i = 40 then (false, i, c) else tesT (nxT s) i c) μ r μ')
    by_cases h : nxT s i = 33 ∨ nxT s i = 40
    · rw [if_pos h]; exact c_X5_factor_0 hT hk h100 hq ha hc hci hik (by omega) h
    · rw [if_neg h]; exact c_X5_factor_t hT hk h100 hq ha hc hci hik (by omega) (fun q => h (Or.inl q)) (fun q => h (Or.inr q))
  | succ D ih =>
    intro o ho μ i c hq ha hc hci hik
    have hg := fac_good (nx_end hk h100) D
    have hf := ih (o + 1) (by omega)
    show AM E yX5_factor cX5_factor 4 (some .boolean) _ _ μ (fun r μ' => PoR s (if nxT s i = 33 then (if (facT (nxT s) D (i + 1) c).1 = true then (true, (facT (nxT s) D (i + 1) c).2.1, (facT (nxT s) D (i + 1) c).2.2 ++ [(18, 0)]) else facT (nxT s) D (i + 1) c)
      else if nxT s i = 40 then (if (eitT (nxT s) (facT (nxT s) D) (i + 1) c).1 = true then (if nxT s (eitT (nxT s) (facT (nxT s) D) (i + 1) c).2.1 = 41 then (true, (eitT (nxT s) (facT (nxT s) D) (i + 1) c).2.1 + 1, (eitT (nxT s) (facT (nxT s) D) (i + 1) c).2.2) else (false, (eitT (nxT s) (facT (nxT s) D) (i + 1) c).2.1, c)) else eitT (nxT s) (facT (nxT s) D) (i + 1) c)
      else tesT (nxT s) i c) μ r μ')
    by_cases h1 : nxT s i = 33
    · rw [if_pos h1]; exact c_X5_factor_n hT hk h100 hq ha hc hci hik (by omega) h1 hg (dd := 6 + 3 * D) (by omega) hf
    · rw [if_neg h1]
      by_cases h2 : nxT s i = 40
      · rw [if_pos h2]; exact c_X5_factor_p hT hk h100 hq ha hc hci hik (by omega) h2 (eit_good (nx_end hk h100) hg) (dd := 6 + 3 * D + 2) (by omega) (by omega) (c_eit hT hk h100 hg hf)
      · rw [if_neg h2]; exact c_X5_factor_t hT hk h100 hq ha hc hci hik (by omega) h1 h2
