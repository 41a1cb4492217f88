/-! ===== the component's reader, on ===== -/
theorem nb {p : Prop} [Decidable p] : narrow .boolean (.int (bI p)) = .int (bI p) := by rcases bI_cases p with h | h <;> rw [h] <;> rfl
theorem wl_get : ∀ m, m < 3 → ∀ y, y < 4 → (bytS.getD m [] ++ [32]).getD y 0 = chS m y := by decide
theorem wl_32 : ∀ m, m < 3 → (bytS.getD m [] ++ [32]).getD 4 0 = 32 ∧ (bytS.getD m [] ++ [32]).length = 5 ∧ lenS.getD m 0 = 4 := by decide
theorem lp_1 {nx : Nat → Int32} {f : Nat → PCo → Rs} {sep : Int32} {op : Nat} {r : Rs} (h : r.1 = true ∧ nx r.2.1 = sep) : (lpT nx f sep op 1 r).1 = (f (r.2.1 + 1) r.2.2).1 ∧ (lpT nx f sep op 1 r).2.1 = (f (r.2.1 + 1) r.2.2).2.1 ∧ ((f (r.2.1 + 1) r.2.2).1 = true → (lpT nx f sep op 1 r).2.2 = (f (r.2.1 + 1) r.2.2).2.2 ++ [(op, 0)]) := by
  rw [lp_s, if_pos h]
  by_cases hs : (f (r.2.1 + 1) r.2.2).1 = true
  · rw [if_pos hs, lp_0]; exact ⟨hs.symm, rfl, fun _ => rfl⟩
  · rw [if_neg hs]; exact ⟨rfl, rfl, fun q => absurd q hs⟩
theorem lp_no {nx : Nat → Int32} {f : Nat → PCo → Rs} {sep : Int32} {op : Nat} {r : Rs} (h : ¬ (r.1 = true ∧ nx r.2.1 = sep)) (n : Nat) : lpT nx f sep op n r = r := by
  cases n with
  | zero => rfl
  | succ n => rw [lp_s, if_neg h]
theorem lp_11 {nx : Nat → Int32} {f : Nat → PCo → Rs} {sep : Int32} {op : Nat} {r : Rs} (h : r.1 = true ∧ nx r.2.1 = sep) (n : Nat) : lpT nx f sep op (n + 1) r = lpT nx f sep op n (lpT nx f sep op 1 r) := by
  rw [lp_s nx f sep op n, lp_s nx f sep op 0, if_pos h, if_pos h]
  by_cases hs : (f (r.2.1 + 1) r.2.2).1 = true
  · rw [if_pos hs, if_pos hs, lp_0]
  · rw [if_neg hs, if_neg hs, lp_no (fun q => hs q.1)]
theorem tes_0 {nx : Nat → Int32} {i : Nat} {c : PCo} (h : amT (nx i) [112, 107, 120, 108, 102, 121] = none) : tesT nx i c = (false, i, c) := by unfold tesT; rw [h]
theorem tes_1 {nx : Nat → Int32} {i a : Nat} {c : PCo} (h : amT (nx i) [112, 107, 120, 108, 102, 121] = some a) (h2 : amT (nx (i + 1)) [60, 61, 62] = none) : tesT nx i c = (false, i + 1, c) := by unfold tesT; rw [h]; dsimp only; rw [h2]
theorem tes_2 {nx : Nat → Int32} {i a b : Nat} {c : PCo} (h : amT (nx i) [112, 107, 120, 108, 102, 121] = some a) (h2 : amT (nx (i + 1)) [60, 61, 62] = some b) : tesT nx i c = if (numT nx (i + 2)).1 = true then (true, (numT nx (i + 2)).2.1, c ++ [(a * 3 + b, (numT nx (i + 2)).2.2)]) else (false, (numT nx (i + 2)).2.1, c) := by
  unfold tesT; rw [h]; dsimp only; rw [h2]; dsimp only
  rcases numT nx (i + 2) with ⟨x, y, z⟩
  cases x <;> rfl
set_option maxHeartbeats 4000000 in
set_option maxRecDepth 100000 in
theorem c_X5_heads {E : Ev} {μ : Mem} {s : Row} {k : Nat} (hT : InvT s) (hk : s 37 = nI k) (h100 : k ≤ 100) (hq : RQ μ s) {i : Nat} (ha : RA μ s i) {m : Nat} (hm : m < 3) : AM E yX5_heads cX5_heads 3 (some .boolean) 4 [.ref 61, .ref (80 + m)] μ (fun r μ' => r = some (.int (bI ((hdT (nxT s) (bytS.getD m [] ++ [32]) i).1 = true))) ∧ RA μ' s (hdT (nxT s) (bytS.getD m [] ++ [32]) i).2.1 ∧ ((hdT (nxT s) (bytS.getD m [] ++ [32]) i).1 = true → μ' 61 4 = nI (hdT (nxT s) (bytS.getD m [] ++ [32]) i).2.2) ∧ Same F61 μ μ') := by
  refine am_of (own := RX5) (L := [.ref 61, .ref (80 + m), .null]) (by decide) rfl (Nat.le_of_ble_eq_true rfl) rfl (fun Γ hR => ?_)
  obtain ⟨l32, l5, l4⟩ := wl_32 m hm
  have hm8 : m < 8 := by omega
  refine cw_iconst (v := 0) (pc := 0) dX5_heads_0 (by decide) <|
    cw_istore_n (L' := [_, _, _]) (pc := 1) dX5_heads_1 rfl (by decide) rfl rfl <|
    ?_
  refine cw_for (σ := Unit) 4 (fun j _ m' => RA m' s (i + j) ∧ (∀ y, y < j → nxT s (i + y) = (bytS.getD m [] ++ [32]).getD y 0) ∧ Same F61 μ m') (fun j _ => [.ref 61, .ref (80 + m), .int (nI j)]) ?_ ?_ 0 () _ (Nat.zero_le _) ⟨ha, fun y hy => absurd hy (Nat.not_lt_zero _), Same.rf⟩
  · rintro ⟨⟩ m' ⟨ha', h, hS⟩
    have hq' := hq.mo (F61_Rd hS)
    by_cases hb : nxT s (i + 4) = 32
    · have e : worT (nxT s) (bytS.getD m [] ++ [32]) i = (true, i + 5) := by
        have := wor_ok (nx := nxT s) (l := bytS.getD m [] ++ [32]) (i := i) (fun y hy => by
          by_cases e4 : y = 4
          · subst e4; rw [hb, l32]
          · exact h y (by omega))
        rw [l5] at this; exact this
      have e2 : hdT (nxT s) (bytS.getD m [] ++ [32]) i = numT (nxT s) (i + 5) := by unfold hdT; rw [e]; rfl
      rw [e2] at hR
      by_cases hn : (numT (nxT s) (i + 5)).1 = true
      · refine cw_iload_n (pc := 2) dX5_heads_2 rfl rfl <|
          cw_aload_n (pc := 3) dX5_heads_3 rfl rfl <|
          cw_invSI (pc := 4) (by assumption) dX5_heads_4 (c_J0_length_8abf5 (by omega)) vX5_62 rfl rfl rfl (by decide) <|
          cw_icmp_ge_T (tgt := 30) (pc := 7) dX5_heads_7 (by decide) (by rw [l4]; exact Int32.le_refl _) <|
          cw_aload_n (pc := 30) dX5_heads_30 rfl rfl <|
          cw_bipush (v := 32) (pc := 31) dX5_heads_31 (by decide) <|
          cw_invP (q := 61) (pc := 33) dX5_heads_33 (c_X5_eats hk h100 hq' ha' (x := 32) (by decide)) rfl vX5_51 sh_61 (by decide) rfl rfl rfl (by decide) <|
          ?_
        rintro _ m1 ⟨rfl, a1, s1⟩
        rw [if_pos hb] at a1
        refine cw_if_eq_F (tgt := 50) (pc := 36) dX5_heads_36 (by decide) (bI_n0.mpr hb) <|
          cw_aload_n (pc := 39) dX5_heads_39 rfl rfl <|
          cw_invP (q := 61) (pc := 40) dX5_heads_40 (c_X5_readsNumber hT (hq'.mo (F61_Rd s1)) a1) rfl vX5_72 sh_61 (by decide) rfl rfl rfl (by decide) <|
          ?_
        rintro _ m2 ⟨rfl, a2, v2, s2⟩
        refine cw_if_eq_F (tgt := 50) (pc := 43) dX5_heads_43 (by decide) (bI_n0.mpr hn) <|
          cw_iconst (v := 1) (pc := 46) dX5_heads_46 (by decide) <|
          cw_goto (tgt := 51) (pc := 47) dX5_heads_47 (by decide) <|
          cw_zret (pc := 51) dX5_heads_51 hR rfl <|
          ⟨by rw [bI_t hn], a2, v2, (hS.tr s1).tr s2⟩
      · refine cw_iload_n (pc := 2) dX5_heads_2 rfl rfl <|
          cw_aload_n (pc := 3) dX5_heads_3 rfl rfl <|
          cw_invSI (pc := 4) (by assumption) dX5_heads_4 (c_J0_length_8abf5 (by omega)) vX5_62 rfl rfl rfl (by decide) <|
          cw_icmp_ge_T (tgt := 30) (pc := 7) dX5_heads_7 (by decide) (by rw [l4]; exact Int32.le_refl _) <|
          cw_aload_n (pc := 30) dX5_heads_30 rfl rfl <|
          cw_bipush (v := 32) (pc := 31) dX5_heads_31 (by decide) <|
          cw_invP (q := 61) (pc := 33) dX5_heads_33 (c_X5_eats hk h100 hq' ha' (x := 32) (by decide)) rfl vX5_51 sh_61 (by decide) rfl rfl rfl (by decide) <|
          ?_
        rintro _ m1 ⟨rfl, a1, s1⟩
        rw [if_pos hb] at a1
        refine cw_if_eq_F (tgt := 50) (pc := 36) dX5_heads_36 (by decide) (bI_n0.mpr hb) <|
          cw_aload_n (pc := 39) dX5_heads_39 rfl rfl <|
          cw_invP (q := 61) (pc := 40) dX5_heads_40 (c_X5_readsNumber hT (hq'.mo (F61_Rd s1)) a1) rfl vX5_72 sh_61 (by decide) rfl rfl rfl (by decide) <|
          ?_
        rintro _ m2 ⟨rfl, a2, v2, s2⟩
        refine cw_if_eq_T (tgt := 50) (pc := 43) dX5_heads_43 (by decide) (bI_0.mpr hn) <|
          cw_iconst (v := 0) (pc := 50) dX5_heads_50 (by decide) <|
          cw_zret (pc := 51) dX5_heads_51 hR rfl <|
          ⟨by rw [bI_f hn], a2, v2, (hS.tr s1).tr s2⟩
    · have e : hdT (nxT s) (bytS.getD m [] ++ [32]) i = (false, i + 4, 0) := by unfold hdT; rw [wor_no (j := 4) (by omega) h (by rw [l32]; exact hb)]; rfl
      rw [e] at hR
      refine cw_iload_n (pc := 2) dX5_heads_2 rfl rfl <|
        cw_aload_n (pc := 3) dX5_heads_3 rfl rfl <|
        cw_invSI (pc := 4) (by assumption) dX5_heads_4 (c_J0_length_8abf5 (by omega)) vX5_62 rfl rfl rfl (by decide) <|
        cw_icmp_ge_T (tgt := 30) (pc := 7) dX5_heads_7 (by decide) (by rw [l4]; exact Int32.le_refl _) <|
        cw_aload_n (pc := 30) dX5_heads_30 rfl rfl <|
        cw_bipush (v := 32) (pc := 31) dX5_heads_31 (by decide) <|
        cw_invP (q := 61) (pc := 33) dX5_heads_33 (c_X5_eats hk h100 hq' ha' (x := 32) (by decide)) rfl vX5_51 sh_61 (by decide) rfl rfl rfl (by decide) <|
        ?_
      rintro _ m1 ⟨rfl, a1, s1⟩
      rw [if_neg hb] at a1
      refine cw_if_eq_T (tgt := 50) (pc := 36) dX5_heads_36 (by decide) (bI_0.mpr hb) <|
        cw_iconst (v := 0) (pc := 50) dX5_heads_50 (by decide) <|
        cw_zret (pc := 51) dX5_heads_51 hR rfl <|
        ⟨rfl, a1, (fun q => by cases q), hS.tr s1⟩
  · rintro j ⟨⟩ m' hj ⟨ha', h, hS⟩ ih
    have hq' := hq.mo (F61_Rd hS)
    have hg := wl_get m hm j hj
    by_cases hb : nxT s (i + j) = chS m j
    · refine cw_iload_n (pc := 2) dX5_heads_2 rfl rfl <|
        cw_aload_n (pc := 3) dX5_heads_3 rfl rfl <|
        cw_invSI (pc := 4) (by assumption) dX5_heads_4 (c_J0_length_8abf5 (by omega)) vX5_62 rfl rfl rfl (by decide) <|
        cw_icmp_ge_F (tgt := 30) (pc := 7) dX5_heads_7 (by decide) (by rw [l4]; exact nI_ge hj (by decide)) <|
        cw_aload_n (pc := 10) dX5_heads_10 rfl rfl <|
        cw_aload_n (pc := 11) dX5_heads_11 rfl rfl <|
        cw_iload_n (pc := 12) dX5_heads_12 rfl rfl <|
        cw_invSI (pc := 13) (by assumption) dX5_heads_13 (c_J0_charAt_5068e (i := m) (by omega) (by omega)) vX5_68 rfl rfl rfl (by decide) <|
        cw_invP (q := 61) (pc := 16) dX5_heads_16 (c_X5_eats hk h100 hq' ha' (x := chS m j) (ch_n1 m (by omega) j (by omega))) rfl vX5_51 sh_61 (by decide) rfl rfl rfl (by decide) <|
        ?_
      rintro _ m1 ⟨rfl, a1, s1⟩
      rw [if_pos hb] at a1
      refine cw_if_ne_T (tgt := 24) (pc := 19) dX5_heads_19 (by decide) (bI_n0.mpr hb) <|
        cw_iincL (L' := [_, _, _]) (c := 1) (pc := 24) dX5_heads_24 rfl (by decide) (by decide) rfl rfl <|
        ?_
      rw [nI_1 j]
      refine cw_goto (tgt := 2) (pc := 27) dX5_heads_27 (by decide) <|
        ?_
      exact ih () _ ⟨by rw [← Nat.add_assoc]; exact a1, fun y hy => by
        by_cases e : y = j
        · subst e; rw [hg]; exact hb
        · exact h y (by omega), hS.tr s1⟩
    · have e : hdT (nxT s) (bytS.getD m [] ++ [32]) i = (false, i + j, 0) := by unfold hdT; rw [wor_no (j := j) (by omega) h (by rw [hg]; exact hb)]; rfl
      rw [e] at hR
      refine cw_iload_n (pc := 2) dX5_heads_2 rfl rfl <|
        cw_aload_n (pc := 3) dX5_heads_3 rfl rfl <|
        cw_invSI (pc := 4) (by assumption) dX5_heads_4 (c_J0_length_8abf5 (by omega)) vX5_62 rfl rfl rfl (by decide) <|
        cw_icmp_ge_F (tgt := 30) (pc := 7) dX5_heads_7 (by decide) (by rw [l4]; exact nI_ge hj (by decide)) <|
        cw_aload_n (pc := 10) dX5_heads_10 rfl rfl <|
        cw_aload_n (pc := 11) dX5_heads_11 rfl rfl <|
        cw_iload_n (pc := 12) dX5_heads_12 rfl rfl <|
        cw_invSI (pc := 13) (by assumption) dX5_heads_13 (c_J0_charAt_5068e (i := m) (by omega) (by omega)) vX5_68 rfl rfl rfl (by decide) <|
        cw_invP (q := 61) (pc := 16) dX5_heads_16 (c_X5_eats hk h100 hq' ha' (x := chS m j) (ch_n1 m (by omega) j (by omega))) rfl vX5_51 sh_61 (by decide) rfl rfl rfl (by decide) <|
        ?_
      rintro _ m1 ⟨rfl, a1, s1⟩
      rw [if_neg hb] at a1
      refine cw_if_ne_F (tgt := 24) (pc := 19) dX5_heads_19 (by decide) (bI_0.mpr hb) <|
        cw_iconst (v := 0) (pc := 22) dX5_heads_22 (by decide) <|
        cw_zret (pc := 23) dX5_heads_23 hR rfl <|
        ⟨rfl, a1, (fun q => by cases q), hS.tr s1⟩
set_option maxHeartbeats 4000000 in
set_option maxRecDepth 100000 in
theorem c_X5_test {E : Ev} {μ : Mem} {s : Row} {k : Nat} (hT : InvT s) (hk : s 37 = nI k) (h100 : k ≤ 100) (hq : RQ μ s) {i : Nat} (ha : RA μ s i) {c : PCo} (hc : CodeAt μ 62 c) (hci : c.length ≤ i) (hik : i ≤ k) : AM E yX5_test cX5_test 3 (some .boolean) 5 [.ref 61] μ (fun r μ' => PoR s (tesT (nxT s) i c) μ r μ') := by
  refine am_of (own := RX5) (L := [.ref 61, .null, .null]) (by decide) rfl (Nat.le_of_ble_eq_true rfl) rfl (fun Γ hR => ?_)
  cases h1 : amT (nxT s i) [112, 107, 120, 108, 102, 121] with
  | none =>
    rw [tes_0 h1] at hR
    refine cw_aload_n (pc := 0) dX5_test_0 rfl rfl <|
      cw_ldcS (i := 3) (tx := "pkxlfy") (pc := 1) dX5_test_1 (by decide) <|
      cw_invP (q := 61) (pc := 3) dX5_test_3 (c_X5_eatsOneOf hk h100 hq (m := 3) (by decide) ha) rfl vX5_87 sh_61 (by decide) rfl rfl rfl (by decide) <|
      ?_
    rintro _ m1 ⟨rfl, a1, s1⟩
    rw [show amT (nxT s i) (bytS.getD 3 []) = _ from h1] at a1 ⊢
    have hq1 := hq.mo (F61_Rd s1)
    refine cw_istore_n (L' := [_, _, _]) (pc := 6) dX5_test_6 rfl (by decide) rfl rfl <|
      cw_iload_n (pc := 7) dX5_test_7 rfl rfl <|
      cw_if_ge_F (tgt := 13) (pc := 8) dX5_test_8 (by decide) (show ¬ (0 : Int32) ≤ -1 by decide) <|
      cw_iconst (v := 0) (pc := 11) dX5_test_11 (by decide) <|
      cw_zret (pc := 12) dX5_test_12 hR rfl <|
      ⟨rfl, a1, ⟨c, hc.m1 s1, (fun q => by cases q)⟩, F61_Rd s1⟩
  | some a =>
    obtain ⟨ha6, _, _⟩ := am_some h1
    have ha6' : a < 6 := ha6
    have hk1 : i < k := mem_lt (nx_end hk h100) (by decide) (am_some h1).2.2
    cases h2 : amT (nxT s (i + 1)) [60, 61, 62] with
    | none =>
      rw [tes_1 h1 h2] at hR
      refine cw_aload_n (pc := 0) dX5_test_0 rfl rfl <|
        cw_ldcS (i := 3) (tx := "pkxlfy") (pc := 1) dX5_test_1 (by decide) <|
        cw_invP (q := 61) (pc := 3) dX5_test_3 (c_X5_eatsOneOf hk h100 hq (m := 3) (by decide) ha) rfl vX5_87 sh_61 (by decide) rfl rfl rfl (by decide) <|
        ?_
      rintro _ m1 ⟨rfl, a1, s1⟩
      rw [show amT (nxT s i) (bytS.getD 3 []) = _ from h1] at a1 ⊢
      have hq1 := hq.mo (F61_Rd s1)
      refine cw_istore_n (L' := [_, _, _]) (pc := 6) dX5_test_6 rfl (by decide) rfl rfl <|
        cw_iload_n (pc := 7) dX5_test_7 rfl rfl <|
        cw_if_ge_T (tgt := 13) (pc := 8) dX5_test_8 (by decide) (nI_pos' (n := a) (by omega)) <|
        cw_aload_n (pc := 13) dX5_test_13 rfl rfl <|
        cw_ldcS (i := 4) (tx := "<=>") (pc := 14) dX5_test_14 (by decide) <|
        cw_invP (q := 61) (pc := 16) dX5_test_16 (c_X5_eatsOneOf hk h100 hq1 (m := 4) (by decide) (i := i + 1) a1) rfl vX5_87 sh_61 (by decide) rfl rfl rfl (by decide) <|
        ?_
      rintro _ m2 ⟨rfl, a2, s2⟩
      rw [show amT (nxT s (i + 1)) (bytS.getD 4 []) = _ from h2] at a2 ⊢
      have hq2 := hq1.mo (F61_Rd s2)
      refine cw_istore_n (L' := [_, _, _]) (pc := 19) dX5_test_19 rfl (by decide) rfl rfl <|
        cw_iload_n (pc := 20) dX5_test_20 rfl rfl <|
        cw_if_lt_T (tgt := 31) (pc := 21) dX5_test_21 (by decide) (show (-1 : Int32) < 0 by decide) <|
        cw_iconst (v := 0) (pc := 31) dX5_test_31 (by decide) <|
        cw_zret (pc := 32) dX5_test_32 hR rfl <|
        ⟨rfl, a2, ⟨c, (hc.m1 s1).m1 s2, fun q => by cases q⟩, (F61_Rd s1).tr (F61_Rd s2)⟩
    | some b =>
      have hb3' : b < 3 := (am_some h2).1
      have hk2 : i + 1 < k := mem_lt (nx_end hk h100) (by decide) (am_some h2).2.2
      have hng := num_good (nx_end hk h100) (show i + 2 ≤ k by omega)
      rw [tes_2 h1 h2] at hR
      by_cases hn : (numT (nxT s) (i + 2)).1 = true
      · rw [if_pos hn] at hR
        have hn2 := (hng.2.2 hn).1
        refine cw_aload_n (pc := 0) dX5_test_0 rfl rfl <|
          cw_ldcS (i := 3) (tx := "pkxlfy") (pc := 1) dX5_test_1 (by decide) <|
          cw_invP (q := 61) (pc := 3) dX5_test_3 (c_X5_eatsOneOf hk h100 hq (m := 3) (by decide) ha) rfl vX5_87 sh_61 (by decide) rfl rfl rfl (by decide) <|
          ?_
        rintro _ m1 ⟨rfl, a1, s1⟩
        rw [show amT (nxT s i) (bytS.getD 3 []) = _ from h1] at a1 ⊢
        have hq1 := hq.mo (F61_Rd s1)
        refine cw_istore_n (L' := [_, _, _]) (pc := 6) dX5_test_6 rfl (by decide) rfl rfl <|
          cw_iload_n (pc := 7) dX5_test_7 rfl rfl <|
          cw_if_ge_T (tgt := 13) (pc := 8) dX5_test_8 (by decide) (nI_pos' (n := a) (by omega)) <|
          cw_aload_n (pc := 13) dX5_test_13 rfl rfl <|
          cw_ldcS (i := 4) (tx := "<=>") (pc := 14) dX5_test_14 (by decide) <|
          cw_invP (q := 61) (pc := 16) dX5_test_16 (c_X5_eatsOneOf hk h100 hq1 (m := 4) (by decide) (i := i + 1) a1) rfl vX5_87 sh_61 (by decide) rfl rfl rfl (by decide) <|
          ?_
        rintro _ m2 ⟨rfl, a2, s2⟩
        rw [show amT (nxT s (i + 1)) (bytS.getD 4 []) = _ from h2] at a2 ⊢
        have hq2 := hq1.mo (F61_Rd s2)
        refine cw_istore_n (L' := [_, _, _]) (pc := 19) dX5_test_19 rfl (by decide) rfl rfl <|
          cw_iload_n (pc := 20) dX5_test_20 rfl rfl <|
          cw_if_lt_F (tgt := 31) (pc := 21) dX5_test_21 (by decide) (nI_pos (n := b) (by omega)) <|
          cw_aload_n (pc := 24) dX5_test_24 rfl rfl <|
          cw_invP (q := 61) (pc := 25) dX5_test_25 (c_X5_readsNumber hT hq2 (i := i + 2) a2) rfl vX5_72 sh_61 (by decide) rfl rfl rfl (by decide) <|
          ?_
        rintro _ m3 ⟨rfl, a3, v3, s3⟩
        refine cw_if_ne_T (tgt := 33) (pc := 28) dX5_test_28 (by decide) (bI_n0.mpr hn) <|
          cw_aload_n (pc := 33) dX5_test_33 rfl rfl <|
          cw_getR (q := 61) (t := 62) (pc := 34) dX5_test_34 fX5_12 sh_61 (by decide) rfl <|
          cw_iload_n (pc := 37) dX5_test_37 rfl rfl <|
          cw_iconst (v := 3) (pc := 38) dX5_test_38 (by decide) <|
          cw_imul (pc := 39) dX5_test_39 <|
          ?_
        rw [show amI (some a) * 3 = nI (a * 3) from pk_mul a 3]
        refine cw_iload_n (pc := 40) dX5_test_40 rfl rfl <|
          cw_iadd (pc := 41) dX5_test_41 <|
          ?_
        rw [show nI (a * 3) + amI (some b) = nI (a * 3 + b) from nI_add _ _]
        refine cw_aload_n (pc := 42) dX5_test_42 rfl rfl <|
          cw_getI (q := 61) (pc := 43) dX5_test_43 fX5_45 sh_61 (by decide) rfl <|
          ?_
        rw [v3 hn]
        refine cw_invP (q := 62) (pc := 46) dX5_test_46 (c_adds62 (((hc.m1 s1).m1 s2).m1 s3) (a * 3 + b) (numT (nxT s) (i + 2)).2.2) rfl vX5_58 sh_62 (by decide) rfl rfl rfl (by decide) <|
          ?_
        rintro _ m4 ⟨rfl, ⟨c4, cc4, ce4⟩, s4⟩
        refine cw_iconst (v := 1) (pc := 49) dX5_test_49 (by decide) <|
          cw_zret (pc := 50) dX5_test_50 hR rfl <|
          ⟨rfl, a3.m2 s4, ⟨c4, cc4, fun _ => ce4 (by omega)⟩, (((F61_Rd s1).tr (F61_Rd s2)).tr (F61_Rd s3)).tr (F62_Rd s4)⟩
      · rw [if_neg hn] at hR
        refine cw_aload_n (pc := 0) dX5_test_0 rfl rfl <|
          cw_ldcS (i := 3) (tx := "pkxlfy") (pc := 1) dX5_test_1 (by decide) <|
          cw_invP (q := 61) (pc := 3) dX5_test_3 (c_X5_eatsOneOf hk h100 hq (m := 3) (by decide) ha) rfl vX5_87 sh_61 (by decide) rfl rfl rfl (by decide) <|
          ?_
        rintro _ m1 ⟨rfl, a1, s1⟩
        rw [show amT (nxT s i) (bytS.getD 3 []) = _ from h1] at a1 ⊢
        have hq1 := hq.mo (F61_Rd s1)
        refine cw_istore_n (L' := [_, _, _]) (pc := 6) dX5_test_6 rfl (by decide) rfl rfl <|
          cw_iload_n (pc := 7) dX5_test_7 rfl rfl <|
          cw_if_ge_T (tgt := 13) (pc := 8) dX5_test_8 (by decide) (nI_pos' (n := a) (by omega)) <|
          cw_aload_n (pc := 13) dX5_test_13 rfl rfl <|
          cw_ldcS (i := 4) (tx := "<=>") (pc := 14) dX5_test_14 (by decide) <|
          cw_invP (q := 61) (pc := 16) dX5_test_16 (c_X5_eatsOneOf hk h100 hq1 (m := 4) (by decide) (i := i + 1) a1) rfl vX5_87 sh_61 (by decide) rfl rfl rfl (by decide) <|
          ?_
        rintro _ m2 ⟨rfl, a2, s2⟩
        rw [show amT (nxT s (i + 1)) (bytS.getD 4 []) = _ from h2] at a2 ⊢
        have hq2 := hq1.mo (F61_Rd s2)
        refine cw_istore_n (L' := [_, _, _]) (pc := 19) dX5_test_19 rfl (by decide) rfl rfl <|
          cw_iload_n (pc := 20) dX5_test_20 rfl rfl <|
          cw_if_lt_F (tgt := 31) (pc := 21) dX5_test_21 (by decide) (nI_pos (n := b) (by omega)) <|
          cw_aload_n (pc := 24) dX5_test_24 rfl rfl <|
          cw_invP (q := 61) (pc := 25) dX5_test_25 (c_X5_readsNumber hT hq2 (i := i + 2) a2) rfl vX5_72 sh_61 (by decide) rfl rfl rfl (by decide) <|
          ?_
        rintro _ m3 ⟨rfl, a3, v3, s3⟩
        refine cw_if_ne_F (tgt := 33) (pc := 28) dX5_test_28 (by decide) (bI_0.mpr hn) <|
          cw_iconst (v := 0) (pc := 31) dX5_test_31 (by decide) <|
          cw_zret (pc := 32) dX5_test_32 hR rfl <|
          ⟨rfl, a3, ⟨c, ((hc.m1 s1).m1 s2).m1 s3, fun q => by cases q⟩, ((F61_Rd s1).tr (F61_Rd s2)).tr (F61_Rd s3)⟩
set_option maxHeartbeats 4000000 in
set_option maxRecDepth 100000 in
theorem c_X5_both {E : Ev} {μ : Mem} {s : Row} {k : Nat} (hT : InvT s) (hk : s 37 = nI k) (h100 : k ≤ 100) (hq : RQ μ s) {i : Nat} (ha : RA μ s i) {c : PCo} (hc : CodeAt μ 62 c) (hci : c.length ≤ i) (hik : i ≤ k) (hN : ∀ i, k ≤ i → nxT s i = -1) {f : Nat → PCo → Rs} {mm dd d o : Nat} (hfg : GoodF k mm f) (hd : dd < d) (hf : ∀ (μ : Mem) (i : Nat) (c : PCo), RQ μ s → RA μ s i → CodeAt μ 62 c → c.length ≤ i → i ≤ k → AM E yX5_factor cX5_factor 4 (some .boolean) dd [.ref 61, .int (nI o)] μ (fun r μ' => PoR s (f i c) μ r μ')) : AM E yX5_both cX5_both 4 (some .boolean) d [.ref 61, .int (nI o)] μ (fun r μ' => PoR s (lpT (nxT s) f 38 19 100 (f i c)) μ r μ') := by
  refine am_of (own := RX5) (L := [.ref 61, .int (nI o), .null, .null]) (by decide) rfl (Nat.le_of_ble_eq_true rfl) rfl (fun Γ hR => ?_)
  refine cw_aload_n (pc := 0) dX5_both_0 rfl rfl <|
    cw_iload_n (pc := 1) dX5_both_1 rfl rfl <|
    cw_invP (q := 61) (pc := 2) dX5_both_2 (hf μ i c hq ha hc hci hik) rfl vX5_79 sh_61 (by decide) rfl rfl rfl hd <|
    ?_
  rintro _ m1 ⟨rfl, a1, cx, s1⟩
  refine cw_istore_n (L' := [_, _, _, _]) (pc := 5) dX5_both_5 rfl (by decide) rfl rfl <|
    cw_iconst (v := 0) (pc := 6) dX5_both_6 (by decide) <|
    cw_istore_n (L' := [_, _, _, _]) (pc := 7) dX5_both_7 rfl (by decide) rfl rfl <|
    ?_
  refine cw_for (σ := Rs) 100 (fun j a m => lpT (nxT s) f 38 19 100 (f i c) = lpT (nxT s) f 38 19 (100 - j) a ∧ StR k i c (mm + 1) a ∧ RA m s a.2.1 ∧ (∃ c', CodeAt m 62 c' ∧ (a.1 = true → c' = a.2.2)) ∧ Same FRd μ m) (fun j a => [.ref 61, .int (nI o), .int (bI (a.1 = true)), .int (nI j)]) ?_ ?_ 0 (f i c) m1 (Nat.zero_le _) ⟨rfl, (hfg i c hik).mono (Nat.le_succ _), a1, cx, s1⟩
  · rintro a m ⟨hl, hst, hra, hcx, hS⟩
    refine cw_iload_n (pc := 8) dX5_both_8 rfl rfl <|
      cw_bipush (v := 100) (pc := 9) dX5_both_9 (by decide) <|
      cw_icmp_ge_T (tgt := 53) (pc := 11) dX5_both_11 (by decide) (by decide) <|
      cw_iload_n (pc := 53) dX5_both_53 rfl rfl <|
      cw_zret (pc := 54) dX5_both_54 hR nb <|
      ⟨by rw [show lpT (nxT s) f 38 19 100 (f i c) = a from hl], by rw [show lpT (nxT s) f 38 19 100 (f i c) = a from hl]; exact hra, by rw [show lpT (nxT s) f 38 19 100 (f i c) = a from hl]; exact hcx, hS⟩
  · rintro j a m hj ⟨hl, hst, hra, hcx, hS⟩ ih
    have hqm := hq.mo hS
    by_cases ht : a.1 = true
    · by_cases hn : nxT s a.2.1 = 38
      · have hg : a.1 = true ∧ nxT s a.2.1 = _ := ⟨ht, hn⟩
        obtain ⟨c0, hc0, he0⟩ := hcx
        have he1 := he0 ht
        subst he1
        obtain ⟨e, ee, el, _⟩ := hst.2.2 ht
        have hlen : a.2.2.length ≤ a.2.1 := by rw [ee, List.length_append]; omega
        have hlt : a.2.1 < k := lt_k hk h100 (by decide) hn
        have hst1 := lp_good hN (sep := 38) (op := 19) (by decide) (by decide) hfg 1 a hst
        obtain ⟨p1, p2, p3⟩ := lp_1 (f := f) (op := 19) hg
        have hl2 : lpT (nxT s) f 38 19 100 (f i c) = lpT (nxT s) f 38 19 (100 - (j + 1)) (lpT (nxT s) f 38 19 1 a) := by rw [hl, show 100 - j = 100 - (j + 1) + 1 by omega, lp_11 hg]
        refine cw_iload_n (pc := 8) dX5_both_8 rfl rfl <|
          cw_bipush (v := 100) (pc := 9) dX5_both_9 (by decide) <|
          cw_icmp_ge_F (tgt := 53) (pc := 11) dX5_both_11 (by decide) (nI_ge (b := 100) hj (by decide)) <|
          cw_iload_n (pc := 14) dX5_both_14 rfl rfl <|
          cw_if_eq_F (tgt := 53) (pc := 15) dX5_both_15 (by decide) (bI_n0.mpr ht) <|
          cw_aload_n (pc := 18) dX5_both_18 rfl rfl <|
          cw_getI (q := 61) (pc := 19) dX5_both_19 fX5_32 sh_61 (by decide) rfl <|
          ?_
        rw [hra.2]
        refine cw_bipush (v := 38) (pc := 22) dX5_both_22 (by decide) <|
          cw_icmp_ne_F (tgt := 53) (pc := 24) dX5_both_24 (by decide) hn <|
          cw_aload_n (pc := 27) dX5_both_27 rfl rfl <|
          cw_invP (q := 61) (pc := 28) dX5_both_28 (c_goOn hk h100 hqm hra hlt) rfl vX5_29 sh_61 (by decide) rfl rfl rfl (by omega) <|
          ?_
        rintro _ m1 ⟨rfl, a1, s1, -⟩
        refine cw_aload_n (pc := 31) dX5_both_31 rfl rfl <|
          cw_iload_n (pc := 32) dX5_both_32 rfl rfl <|
          cw_invP (q := 61) (pc := 33) dX5_both_33 (hf m1 (a.2.1 + 1) a.2.2 (hqm.mo (F61_Rd s1)) a1 (hc0.m1 s1) (by omega) (by omega)) rfl vX5_79 sh_61 (by decide) rfl rfl rfl (by omega) <|
          ?_
        rintro _ m2 ⟨rfl, a2, ⟨c2, cc2, ce2⟩, s2⟩
        refine cw_istore_n (L' := [_, _, _, _]) (pc := 36) dX5_both_36 rfl (by decide) rfl rfl <|
          cw_aload_n (pc := 37) dX5_both_37 rfl rfl <|
          cw_getR (q := 61) (t := 62) (pc := 38) dX5_both_38 fX5_12 sh_61 (by decide) rfl <|
          cw_bipush (v := 19) (pc := 41) dX5_both_41 (by decide) <|
          cw_iconst (v := 0) (pc := 43) dX5_both_43 (by decide) <|
          cw_invP (q := 62) (pc := 44) dX5_both_44 (c_adds62 cc2 19 0) rfl vX5_58 sh_62 (by decide) rfl rfl rfl (by omega) <|
          ?_
        rintro _ m3 ⟨rfl, ⟨c3, cc3, ce3⟩, s3⟩
        refine cw_iincL (L' := [_, _, _, _]) (c := 1) (pc := 47) dX5_both_47 rfl (by decide) (by decide) rfl rfl <|
          ?_
        rw [nI_1 j]
        refine cw_goto (tgt := 8) (pc := 50) dX5_both_50 (by decide) <|
          ?_
        rw [← p1]
        refine ih (lpT (nxT s) f 38 19 1 a) _ ⟨hl2, hst1, by rw [p2]; exact a2.m2 s3, ⟨c3, cc3, fun q => ?_⟩, hS.tr (((F61_Rd s1).tr s2).tr (F62_Rd s3))⟩
        have q' : (f (a.2.1 + 1) a.2.2).1 = true := by rw [← p1]; exact q
        have ec2 := ce2 q'
        obtain ⟨e', ee', el', _⟩ := hst1.2.2 q
        have e3 := p3 q'
        have hp := hst1.2.1
        have hL := congrArg List.length (e3.symm.trans ee')
        rw [List.length_append, List.length_append, List.length_singleton] at hL
        rw [e3, ← ec2]
        exact ce3 (by rw [ec2]; omega)
      · have e0 := hl.trans (lp_no (fun q => hn q.2) _)
        refine cw_iload_n (pc := 8) dX5_both_8 rfl rfl <|
          cw_bipush (v := 100) (pc := 9) dX5_both_9 (by decide) <|
          cw_icmp_ge_F (tgt := 53) (pc := 11) dX5_both_11 (by decide) (nI_ge (b := 100) hj (by decide)) <|
          cw_iload_n (pc := 14) dX5_both_14 rfl rfl <|
          cw_if_eq_F (tgt := 53) (pc := 15) dX5_both_15 (by decide) (bI_n0.mpr ht) <|
          cw_aload_n (pc := 18) dX5_both_18 rfl rfl <|
          cw_getI (q := 61) (pc := 19) dX5_both_19 fX5_32 sh_61 (by decide) rfl <|
          ?_
        rw [hra.2]
        refine cw_bipush (v := 38) (pc := 22) dX5_both_22 (by decide) <|
          cw_icmp_ne_T (tgt := 53) (pc := 24) dX5_both_24 (by decide) hn <|
          cw_iload_n (pc := 53) dX5_both_53 rfl rfl <|
          cw_zret (pc := 54) dX5_both_54 hR nb <|
          ⟨by rw [show lpT (nxT s) f 38 19 100 (f i c) = a from e0], by rw [show lpT (nxT s) f 38 19 100 (f i c) = a from e0]; exact hra, by rw [show lpT (nxT s) f 38 19 100 (f i c) = a from e0]; exact hcx, hS⟩
    · have e0 := hl.trans (lp_no (fun q => ht q.1) _)
      refine cw_iload_n (pc := 8) dX5_both_8 rfl rfl <|
        cw_bipush (v := 100) (pc := 9) dX5_both_9 (by decide) <|
        cw_icmp_ge_F (tgt := 53) (pc := 11) dX5_both_11 (by decide) (nI_ge (b := 100) hj (by decide)) <|
        cw_iload_n (pc := 14) dX5_both_14 rfl rfl <|
        cw_if_eq_T (tgt := 53) (pc := 15) dX5_both_15 (by decide) (bI_0.mpr ht) <|
        cw_iload_n (pc := 53) dX5_both_53 rfl rfl <|
        cw_zret (pc := 54) dX5_both_54 hR nb <|
        ⟨by rw [show lpT (nxT s) f 38 19 100 (f i c) = a from e0], by rw [show lpT (nxT s) f 38 19 100 (f i c) = a from e0]; exact hra, by rw [show lpT (nxT s) f 38 19 100 (f i c) = a from e0]; exact hcx, hS⟩
set_option maxHeartbeats 4000000 in
set_option maxRecDepth 100000 in
theorem c_X5_either {E : Ev} {μ : Mem} {s : Row} {k : Nat} (hT : InvT s) (hk : s 37 = nI k) (h100 : k ≤ 100) (hq : RQ μ s) {i : Nat} (ha : RA μ s i) {c : PCo} (hc : CodeAt μ 62 c) (hci : c.length ≤ i) (hik : i ≤ k) (hN : ∀ i, k ≤ i → nxT s i = -1) {f : Nat → PCo → Rs} {mm dd d o : Nat} (hfg : GoodF k mm f) (hd : dd < d) (hf : ∀ (μ : Mem) (i : Nat) (c : PCo), RQ μ s → RA μ s i → CodeAt μ 62 c → c.length ≤ i → i ≤ k → AM E yX5_both cX5_both 4 (some .boolean) dd [.ref 61, .int (nI o)] μ (fun r μ' => PoR s (f i c) μ r μ')) : AM E yX5_either cX5_either 4 (some .boolean) d [.ref 61, .int (nI o)] μ (fun r μ' => PoR s (lpT (nxT s) f 124 20 100 (f i c)) μ r μ') := by
  refine am_of (own := RX5) (L := [.ref 61, .int (nI o), .null, .null]) (by decide) rfl (Nat.le_of_ble_eq_true rfl) rfl (fun Γ hR => ?_)
  refine cw_aload_n (pc := 0) dX5_either_0 rfl rfl <|
    cw_iload_n (pc := 1) dX5_either_1 rfl rfl <|
    cw_invP (q := 61) (pc := 2) dX5_either_2 (hf μ i c hq ha hc hci hik) rfl vX5_76 sh_61 (by decide) rfl rfl rfl hd <|
    ?_
  rintro _ m1 ⟨rfl, a1, cx, s1⟩
  refine cw_istore_n (L' := [_, _, _, _]) (pc := 5) dX5_either_5 rfl (by decide) rfl rfl <|
    cw_iconst (v := 0) (pc := 6) dX5_either_6 (by decide) <|
    cw_istore_n (L' := [_, _, _, _]) (pc := 7) dX5_either_7 rfl (by decide) rfl rfl <|
    ?_
  refine cw_for (σ := Rs) 100 (fun j a m => lpT (nxT s) f 124 20 100 (f i c) = lpT (nxT s) f 124 20 (100 - j) a ∧ StR k i c (mm + 1) a ∧ RA m s a.2.1 ∧ (∃ c', CodeAt m 62 c' ∧ (a.1 = true → c' = a.2.2)) ∧ Same FRd μ m) (fun j a => [.ref 61, .int (nI o), .int (bI (a.1 = true)), .int (nI j)]) ?_ ?_ 0 (f i c) m1 (Nat.zero_le _) ⟨rfl, (hfg i c hik).mono (Nat.le_succ _), a1, cx, s1⟩
  · rintro a m ⟨hl, hst, hra, hcx, hS⟩
    refine cw_iload_n (pc := 8) dX5_either_8 rfl rfl <|
      cw_bipush (v := 100) (pc := 9) dX5_either_9 (by decide) <|
      cw_icmp_ge_T (tgt := 53) (pc := 11) dX5_either_11 (by decide) (by decide) <|
      cw_iload_n (pc := 53) dX5_either_53 rfl rfl <|
      cw_zret (pc := 54) dX5_either_54 hR nb <|
      ⟨by rw [show lpT (nxT s) f 124 20 100 (f i c) = a from hl], by rw [show lpT (nxT s) f 124 20 100 (f i c) = a from hl]; exact hra, by rw [show lpT (nxT s) f 124 20 100 (f i c) = a from hl]; exact hcx, hS⟩
  · rintro j a m hj ⟨hl, hst, hra, hcx, hS⟩ ih
    have hqm := hq.mo hS
    by_cases ht : a.1 = true
    · by_cases hn : nxT s a.2.1 = 124
      · have hg : a.1 = true ∧ nxT s a.2.1 = _ := ⟨ht, hn⟩
        obtain ⟨c0, hc0, he0⟩ := hcx
        have he1 := he0 ht
        subst he1
        obtain ⟨e, ee, el, _⟩ := hst.2.2 ht
        have hlen : a.2.2.length ≤ a.2.1 := by rw [ee, List.length_append]; omega
        have hlt : a.2.1 < k := lt_k hk h100 (by decide) hn
        have hst1 := lp_good hN (sep := 124) (op := 20) (by decide) (by decide) hfg 1 a hst
        obtain ⟨p1, p2, p3⟩ := lp_1 (f := f) (op := 20) hg
        have hl2 : lpT (nxT s) f 124 20 100 (f i c) = lpT (nxT s) f 124 20 (100 - (j + 1)) (lpT (nxT s) f 124 20 1 a) := by rw [hl, show 100 - j = 100 - (j + 1) + 1 by omega, lp_11 hg]
        refine cw_iload_n (pc := 8) dX5_either_8 rfl rfl <|
          cw_bipush (v := 100) (pc := 9) dX5_either_9 (by decide) <|
          cw_icmp_ge_F (tgt := 53) (pc := 11) dX5_either_11 (by decide) (nI_ge (b := 100) hj (by decide)) <|
          cw_iload_n (pc := 14) dX5_either_14 rfl rfl <|
          cw_if_eq_F (tgt := 53) (pc := 15) dX5_either_15 (by decide) (bI_n0.mpr ht) <|
          cw_aload_n (pc := 18) dX5_either_18 rfl rfl <|
          cw_getI (q := 61) (pc := 19) dX5_either_19 fX5_32 sh_61 (by decide) rfl <|
          ?_
        rw [hra.2]
        refine cw_bipush (v := 124) (pc := 22) dX5_either_22 (by decide) <|
          cw_icmp_ne_F (tgt := 53) (pc := 24) dX5_either_24 (by decide) hn <|
          cw_aload_n (pc := 27) dX5_either_27 rfl rfl <|
          cw_invP (q := 61) (pc := 28) dX5_either_28 (c_goOn hk h100 hqm hra hlt) rfl vX5_29 sh_61 (by decide) rfl rfl rfl (by omega) <|
          ?_
        rintro _ m1 ⟨rfl, a1, s1, -⟩
        refine cw_aload_n (pc := 31) dX5_either_31 rfl rfl <|
          cw_iload_n (pc := 32) dX5_either_32 rfl rfl <|
          cw_invP (q := 61) (pc := 33) dX5_either_33 (hf m1 (a.2.1 + 1) a.2.2 (hqm.mo (F61_Rd s1)) a1 (hc0.m1 s1) (by omega) (by omega)) rfl vX5_76 sh_61 (by decide) rfl rfl rfl (by omega) <|
          ?_
        rintro _ m2 ⟨rfl, a2, ⟨c2, cc2, ce2⟩, s2⟩
        refine cw_istore_n (L' := [_, _, _, _]) (pc := 36) dX5_either_36 rfl (by decide) rfl rfl <|
          cw_aload_n (pc := 37) dX5_either_37 rfl rfl <|
          cw_getR (q := 61) (t := 62) (pc := 38) dX5_either_38 fX5_12 sh_61 (by decide) rfl <|
          cw_bipush (v := 20) (pc := 41) dX5_either_41 (by decide) <|
          cw_iconst (v := 0) (pc := 43) dX5_either_43 (by decide) <|
          cw_invP (q := 62) (pc := 44) dX5_either_44 (c_adds62 cc2 20 0) rfl vX5_58 sh_62 (by decide) rfl rfl rfl (by omega) <|
          ?_
        rintro _ m3 ⟨rfl, ⟨c3, cc3, ce3⟩, s3⟩
        refine cw_iincL (L' := [_, _, _, _]) (c := 1) (pc := 47) dX5_either_47 rfl (by decide) (by decide) rfl rfl <|
          ?_
        rw [nI_1 j]
        refine cw_goto (tgt := 8) (pc := 50) dX5_either_50 (by decide) <|
          ?_
        rw [← p1]
        refine ih (lpT (nxT s) f 124 20 1 a) _ ⟨hl2, hst1, by rw [p2]; exact a2.m2 s3, ⟨c3, cc3, fun q => ?_⟩, hS.tr (((F61_Rd s1).tr s2).tr (F62_Rd s3))⟩
        have q' : (f (a.2.1 + 1) a.2.2).1 = true := by rw [← p1]; exact q
        have ec2 := ce2 q'
        obtain ⟨e', ee', el', _⟩ := hst1.2.2 q
        have e3 := p3 q'
        have hp := hst1.2.1
        have hL := congrArg List.length (e3.symm.trans ee')
        rw [List.length_append, List.length_append, List.length_singleton] at hL
        rw [e3, ← ec2]
        exact ce3 (by rw [ec2]; omega)
      · have e0 := hl.trans (lp_no (fun q => hn q.2) _)
        refine cw_iload_n (pc := 8) dX5_either_8 rfl rfl <|
          cw_bipush (v := 100) (pc := 9) dX5_either_9 (by decide) <|
          cw_icmp_ge_F (tgt := 53) (pc := 11) dX5_either_11 (by decide) (nI_ge (b := 100) hj (by decide)) <|
          cw_iload_n (pc := 14) dX5_either_14 rfl rfl <|
          cw_if_eq_F (tgt := 53) (pc := 15) dX5_either_15 (by decide) (bI_n0.mpr ht) <|
          cw_aload_n (pc := 18) dX5_either_18 rfl rfl <|
          cw_getI (q := 61) (pc := 19) dX5_either_19 fX5_32 sh_61 (by decide) rfl <|
          ?_
        rw [hra.2]
        refine cw_bipush (v := 124) (pc := 22) dX5_either_22 (by decide) <|
          cw_icmp_ne_T (tgt := 53) (pc := 24) dX5_either_24 (by decide) hn <|
          cw_iload_n (pc := 53) dX5_either_53 rfl rfl <|
          cw_zret (pc := 54) dX5_either_54 hR nb <|
          ⟨by rw [show lpT (nxT s) f 124 20 100 (f i c) = a from e0], by rw [show lpT (nxT s) f 124 20 100 (f i c) = a from e0]; exact hra, by rw [show lpT (nxT s) f 124 20 100 (f i c) = a from e0]; exact hcx, hS⟩
    · have e0 := hl.trans (lp_no (fun q => ht q.1) _)
      refine cw_iload_n (pc := 8) dX5_either_8 rfl rfl <|
        cw_bipush (v := 100) (pc := 9) dX5_either_9 (by decide) <|
        cw_icmp_ge_F (tgt := 53) (pc := 11) dX5_either_11 (by decide) (nI_ge (b := 100) hj (by decide)) <|
        cw_iload_n (pc := 14) dX5_either_14 rfl rfl <|
        cw_if_eq_T (tgt := 53) (pc := 15) dX5_either_15 (by decide) (bI_0.mpr ht) <|
        cw_iload_n (pc := 53) dX5_either_53 rfl rfl <|
        cw_zret (pc := 54) dX5_either_54 hR nb <|
        ⟨by rw [show lpT (nxT s) f 124 20 100 (f i c) = a from e0], by rw [show lpT (nxT s) f 124 20 100 (f i c) = a from e0]; exact hra, by rw [show lpT (nxT s) f 124 20 100 (f i c) = a from e0]; exact hcx, hS⟩
