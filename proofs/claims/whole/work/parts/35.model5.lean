/-! ===== the model: questions on years to come, lines elsewhere ===== -/
theorem back_same {μ m2 : Mem} (h : Same MG (str μ 70 (fun k => if k < 31 then μ 68 k else μ 70 k)) m2) (e : ∀ k, 31 ≤ k → m2 68 k = μ 68 k) : Same MQr μ (str m2 68 (fun k => if k < 31 then m2 70 k else m2 68 k)) := by
  intro q i hF
  by_cases hq : q = 68
  · subst hq
    rw [str_at, if_pos rfl]
    by_cases hi : i < 31
    · rw [if_pos hi, h 70 i (by unfold MG; omega), str_at, if_pos rfl, if_pos hi]
    · rw [if_neg hi]; exact e i (by omega)
  · rw [str_at, if_neg hq, h q i (by unfold MQr at hF; unfold MG; omega), str_at, if_neg (by unfold MQr at hF; omega)]
theorem lay_same {μ m2 : Mem} {j : Nat} {v : Int32} (h : Same MS (st μ 68 j v) m2) : Same MS μ (st m2 68 j (μ 68 j)) := by
  intro q i hF
  rw [st_at]
  by_cases e : q = 68 ∧ i = j
  · rw [if_pos e, e.1, e.2]
  · rw [if_neg e, h q i hF, st_at, if_neg e]
theorem k68 {μ : Mem} {f : Nat → Int32} : (str μ 70 f) 68 = μ 68 := by rw [str_at, if_neg (by decide)]
set_option maxHeartbeats 4000000 in
set_option maxRecDepth 100000 in
theorem c_X9_on {E : Ev} {μ : Mem} {s : Row} (hs : μ 68 = s) {n mk : Nat} {code : PCo} (hI : Inv s n code mk) {x w : Int32} : AM E yX9_on cX9_on 4 (some .int) 8 [.ref 67, .int x, .int w] μ (fun r μ' => r = some (.int (onA s code mk n x w)) ∧ Same MQr μ μ') := by
  refine am_of (own := RX9) (L := [.ref 67, .int x, .int w, .null]) (by decide) rfl (Nat.le_of_ble_eq_true rfl) rfl (fun Γ hR => ?_)
  subst hs
  have hI0 := hI
  obtain ⟨hIL, hIP, hIC, hIS, hIW, hIB, hIT⟩ := hI
  have hn := hIL.1
  have h6 := hIL.2.1
  obtain ⟨cs, hcs, e33, hcc⟩ := hIC
  have s10 := sub_rng (w := w) (A := 10) (B := n) (by decide) (by omega)
  have s20 := sub_rng (w := w) (A := 20) (B := cs) (by decide) (by omega)
  rw [← hn] at s10
  rw [← e33] at s20
  have h10 : (0 ≤ w - 10 ∧ w - 10 < μ 68 31) ↔ (10 ≤ w ∧ w < 10 + μ 68 31) := by rw [show (10 : Int32) + μ 68 31 = nI (10 + n) by rw [hn]; exact nI_add 10 n]; exact s10
  have h20 : (0 ≤ w - 20 ∧ w - 20 < μ 68 33) ↔ (20 ≤ w ∧ w < 20 + μ 68 33) := by rw [show (20 : Int32) + μ 68 33 = nI (20 + cs) by rw [e33]; exact nI_add 20 cs]; exact s20
  have fin : ∀ (w' : Int32) (k : Nat) (v z : Value), True := fun _ _ _ _ => trivial
  clear fin
  have run : w = 0 ∨ (10 ≤ w ∧ w < 10 + μ 68 31) ∨ (20 ≤ w ∧ w < 20 + μ 68 33) → CW E Γ cX9_on 4 RX9 8 28 [.ref 67, .int x, .int w, .null] [] μ := by
    intro hw
    by_cases hx : 0 ≤ x ∧ x ≤ 60
    · obtain ⟨k, hk, rfl⟩ := ix_of (n := 61) (by decide) ⟨hx.1, Int32.lt_of_le_of_lt hx.2 (by decide)⟩
      have hk' : nN (nI k) = k := nN_nI (by omega)
      refine cw_iload_n (pc := 28) dX9_on_28 rfl rfl <|
        cw_iconst (v := 0) (pc := 29) dX9_on_29 (by decide) <|
        cw_bipush (v := 60) (pc := 30) dX9_on_30 (by decide) <|
        cw_insI (pc := 32) dX9_on_32 c_X9_in vX9_44 rfl rfl rfl (by decide) <|
        cw_if_ne_T (tgt := 41) (pc := 35) dX9_on_35 (by decide) (bI_n0.mpr hx) <|
        cw_aload_n (pc := 41) dX9_on_41 rfl rfl <|
        cw_invV (q := 67) (pc := 42) dX9_on_42 c_X9_keeps rfl vX9_190 sh_67 (by decide) rfl rfl rfl (by decide) <|
        cw_aload_n (pc := 45) dX9_on_45 rfl rfl <|
        cw_iload_n (pc := 46) dX9_on_46 rfl rfl <|
        cw_invP (q := 67) (pc := 47) dX9_on_47 (c_X9_goesOn (s := μ 68) k68 hIP hIL (k := k) (by omega) (by decide) (by decide)) rfl vX9_187 sh_67 (by decide) rfl rfl rfl (by decide) <|
        ?_
      rintro _ m1 ⟨rfl, e1, s1⟩
      have hi1 := hIL.evo (code := code) (mk := nI mk) k (by omega) (by omega)
      have e1o : ∀ j, 31 ≤ j → m1 68 j = μ 68 j := fun j hj => by rw [e1, evo_o (by omega)]
      have hB := back_same s1 e1o
      by_cases w0 : w = 0
      · refine cw_iload_n (pc := 50) dX9_on_50 rfl rfl <|
          cw_if_ne_F (tgt := 62) (pc := 51) dX9_on_51 (by decide) w0 <|
          cw_aload_n (pc := 54) dX9_on_54 rfl rfl <|
          cw_iconst (v := 1) (pc := 55) dX9_on_55 (by decide) <|
          cw_invI (q := 67) (pc := 56) dX9_on_56 (c_X9_bitsOf e1 (hi1.1) h6 (j := 1) (f := beS (evo (μ 68) code (nI mk) n k)) (by decide) (fun p hp => be_01 hi1 (by omega))) rfl vX9_172 sh_67 (by decide) rfl rfl rfl (by decide) <|
          cw_goto (tgt := 91) (pc := 59) dX9_on_59 (by decide) <|
          cw_istore_n (L' := [_, _, _, _]) (pc := 91) dX9_on_91 rfl (by decide) rfl rfl <|
          cw_aload_n (pc := 92) dX9_on_92 rfl rfl <|
          cw_invV (q := 67) (pc := 93) dX9_on_93 c_X9_goesBack rfl vX9_193 sh_67 (by decide) rfl rfl rfl (by decide) <|
          cw_iload_n (pc := 96) dX9_on_96 rfl rfl <|
          cw_iret (pc := 97) dX9_on_97 hR <|
          ⟨by rw [onA, if_pos hw, if_pos hx, if_neg (by rw [w0]; exact fun h => absurd h.1 (by decide)), if_neg (by rw [w0]; exact fun h => absurd h.1 (by decide)), hk', be_n6 hi1], hB⟩
      · by_cases w1 : 10 ≤ w ∧ w < 10 + μ 68 31
        · have w1' : w < nI (10 + n) := by have := w1.2; rw [hn, show (10 : Int32) + nI n = nI (10 + n) from nI_add 10 n] at this; exact this
          obtain ⟨q, hq, ew⟩ := rng (A := 10) (B := 10 + n) (by omega) (by decide) w1.1 w1'
          have nw : nN w - 10 = q := by rw [ew, nN_nI (by omega)]; omega
          refine cw_iload_n (pc := 50) dX9_on_50 rfl rfl <|
            cw_if_ne_T (tgt := 62) (pc := 51) dX9_on_51 (by decide) w0 <|
            cw_iload_n (pc := 62) dX9_on_62 rfl rfl <|
            cw_bipush (v := 20) (pc := 63) dX9_on_63 (by decide) <|
            cw_icmp_ge_F (tgt := 83) (pc := 65) dX9_on_65 (by decide) (by rw [ew]; exact nI_ge (b := 20) (by omega) (by decide)) <|
            cw_aload_n (pc := 68) dX9_on_68 rfl rfl <|
            cw_getR (q := 67) (t := 68) (pc := 69) dX9_on_69 fX9_9 sh_67 (by decide) rfl <|
            cw_bipush (v := 13) (pc := 72) dX9_on_72 (by decide) <|
            cw_iload_n (pc := 74) dX9_on_74 rfl rfl <|
            cw_iadd (pc := 75) dX9_on_75 <|
            cw_bipush (v := 10) (pc := 76) dX9_on_76 (by decide) <|
            cw_isub (pc := 78) dX9_on_78 <|
            cw_ial (q := 68) (jn := (13 + q)) (pc := 79) dX9_on_79 sh_68 (nx_sub (a := 23 + q) (b := 10) (by rw [ew, show 23 + q = 13 + (10 + q) by omega]; exact nI_add 13 (10 + q)) rfl (by omega)) (by omega) (by decide) <|
            ?_
          rw [e1]
          refine cw_goto (tgt := 91) (pc := 80) dX9_on_80 (by decide) <|
            cw_istore_n (L' := [_, _, _, _]) (pc := 91) dX9_on_91 rfl (by decide) rfl rfl <|
            cw_aload_n (pc := 92) dX9_on_92 rfl rfl <|
            cw_invV (q := 67) (pc := 93) dX9_on_93 c_X9_goesBack rfl vX9_193 sh_67 (by decide) rfl rfl rfl (by decide) <|
            cw_iload_n (pc := 96) dX9_on_96 rfl rfl <|
            cw_iret (pc := 97) dX9_on_97 hR <|
            ⟨by rw [onA, if_pos hw, if_pos hx, if_pos w1, hk', nw], hB⟩
        · have w2 : 20 ≤ w ∧ w < 20 + μ 68 33 := hw.elim (fun h => absurd h w0) (fun h => h.elim (fun h => absurd h w1) id)
          have w2' : w < nI (20 + cs) := by have := w2.2; rw [e33, show (20 : Int32) + nI cs = nI (20 + cs) from nI_add 20 cs] at this; exact this
          obtain ⟨q, hq, ew⟩ := rng (A := 20) (B := 20 + cs) (by omega) (by decide) w2.1 w2'
          have nw : nN w - 20 = q := by rw [ew, nN_nI (by omega)]; omega
          have es : w - 20 = nI q := nx_sub (b := 20) ew rfl (by omega)
          obtain ⟨⟨a, ha, ea⟩, b, hb, eb⟩ := hcc q (by omega)
          refine cw_iload_n (pc := 50) dX9_on_50 rfl rfl <|
            cw_if_ne_T (tgt := 62) (pc := 51) dX9_on_51 (by decide) w0 <|
            cw_iload_n (pc := 62) dX9_on_62 rfl rfl <|
            cw_bipush (v := 20) (pc := 63) dX9_on_63 (by decide) <|
            cw_icmp_ge_T (tgt := 83) (pc := 65) dX9_on_65 (by decide) (by rw [ew]; exact nI_le (a := 20) (by omega) (by omega)) <|
            cw_aload_n (pc := 83) dX9_on_83 rfl rfl <|
            cw_iload_n (pc := 84) dX9_on_84 rfl rfl <|
            cw_bipush (v := 20) (pc := 85) dX9_on_85 (by decide) <|
            cw_isub (pc := 87) dX9_on_87 <|
            ?_
          rw [es]
          refine cw_invI (q := 67) (pc := 88) dX9_on_88 (c_X9_decided e1 (c := q) (by omega) (by rw [evo_o (by omega)]; exact ea) (by rw [evo_o (by omega)]; exact eb) (by omega) (by omega) (hi1.2.2.2.1 a (by omega)).1 (hi1.2.2.2.1 b (by omega)).1) rfl vX9_181 sh_67 (by decide) rfl rfl rfl (by decide) <|
            cw_istore_n (L' := [_, _, _, _]) (pc := 91) dX9_on_91 rfl (by decide) rfl rfl <|
            cw_aload_n (pc := 92) dX9_on_92 rfl rfl <|
            cw_invV (q := 67) (pc := 93) dX9_on_93 c_X9_goesBack rfl vX9_193 sh_67 (by decide) rfl rfl rfl (by decide) <|
            cw_iload_n (pc := 96) dX9_on_96 rfl rfl <|
            cw_iret (pc := 97) dX9_on_97 hR <|
            ⟨by rw [onA, if_pos hw, if_pos hx, if_neg w1, if_pos w2, hk', nw], hB⟩
    · refine cw_iload_n (pc := 28) dX9_on_28 rfl rfl <|
        cw_iconst (v := 0) (pc := 29) dX9_on_29 (by decide) <|
        cw_bipush (v := 60) (pc := 30) dX9_on_30 (by decide) <|
        cw_insI (pc := 32) dX9_on_32 c_X9_in vX9_44 rfl rfl rfl (by decide) <|
        cw_if_ne_F (tgt := 41) (pc := 35) dX9_on_35 (by decide) (bI_0.mpr hx) <|
        cw_bipush (v := -2) (pc := 38) dX9_on_38 (by decide) <|
        cw_iret (pc := 40) dX9_on_40 hR <|
        ⟨by rw [onA, if_pos hw, if_neg hx], Same.rf⟩
  by_cases w0 : w = 0
  · refine cw_iload_n (pc := 0) dX9_on_0 rfl rfl <|
      cw_if_eq_T (tgt := 28) (pc := 1) dX9_on_1 (by decide) w0 <|
      ?_
    exact run (Or.inl w0)
  · by_cases w1 : 10 ≤ w ∧ w < 10 + μ 68 31
    · refine cw_iload_n (pc := 0) dX9_on_0 rfl rfl <|
        cw_if_eq_F (tgt := 28) (pc := 1) dX9_on_1 (by decide) w0 <|
        cw_aload_n (pc := 4) dX9_on_4 rfl rfl <|
        cw_iload_n (pc := 5) dX9_on_5 rfl rfl <|
        cw_bipush (v := 10) (pc := 6) dX9_on_6 (by decide) <|
        cw_isub (pc := 8) dX9_on_8 <|
        cw_invI (q := 67) (pc := 9) dX9_on_9 (c_X9_isMan hn h6) rfl vX9_162 sh_67 (by decide) rfl rfl rfl (by decide) <|
        cw_if_ne_T (tgt := 28) (pc := 12) dX9_on_12 (by decide) (bI_n0.mpr (h10.mpr w1)) <|
        ?_
      exact run (Or.inr (Or.inl w1))
    · by_cases w2 : 20 ≤ w ∧ w < 20 + μ 68 33
      · refine cw_iload_n (pc := 0) dX9_on_0 rfl rfl <|
          cw_if_eq_F (tgt := 28) (pc := 1) dX9_on_1 (by decide) w0 <|
          cw_aload_n (pc := 4) dX9_on_4 rfl rfl <|
          cw_iload_n (pc := 5) dX9_on_5 rfl rfl <|
          cw_bipush (v := 10) (pc := 6) dX9_on_6 (by decide) <|
          cw_isub (pc := 8) dX9_on_8 <|
          cw_invI (q := 67) (pc := 9) dX9_on_9 (c_X9_isMan hn h6) rfl vX9_162 sh_67 (by decide) rfl rfl rfl (by decide) <|
          cw_if_ne_F (tgt := 28) (pc := 12) dX9_on_12 (by decide) (bI_0.mpr (fun h => w1 (h10.mp h))) <|
          cw_aload_n (pc := 15) dX9_on_15 rfl rfl <|
          cw_iload_n (pc := 16) dX9_on_16 rfl rfl <|
          cw_bipush (v := 20) (pc := 17) dX9_on_17 (by decide) <|
          cw_isub (pc := 19) dX9_on_19 <|
          cw_invI (q := 67) (pc := 20) dX9_on_20 (c_X9_isCase e33 hcs) rfl vX9_178 sh_67 (by decide) rfl rfl rfl (by decide) <|
          cw_if_ne_T (tgt := 28) (pc := 23) dX9_on_23 (by decide) (bI_n0.mpr (h20.mpr w2)) <|
          ?_
        exact run (Or.inr (Or.inr w2))
      · refine cw_iload_n (pc := 0) dX9_on_0 rfl rfl <|
          cw_if_eq_F (tgt := 28) (pc := 1) dX9_on_1 (by decide) w0 <|
          cw_aload_n (pc := 4) dX9_on_4 rfl rfl <|
          cw_iload_n (pc := 5) dX9_on_5 rfl rfl <|
          cw_bipush (v := 10) (pc := 6) dX9_on_6 (by decide) <|
          cw_isub (pc := 8) dX9_on_8 <|
          cw_invI (q := 67) (pc := 9) dX9_on_9 (c_X9_isMan hn h6) rfl vX9_162 sh_67 (by decide) rfl rfl rfl (by decide) <|
          cw_if_ne_F (tgt := 28) (pc := 12) dX9_on_12 (by decide) (bI_0.mpr (fun h => w1 (h10.mp h))) <|
          cw_aload_n (pc := 15) dX9_on_15 rfl rfl <|
          cw_iload_n (pc := 16) dX9_on_16 rfl rfl <|
          cw_bipush (v := 20) (pc := 17) dX9_on_17 (by decide) <|
          cw_isub (pc := 19) dX9_on_19 <|
          cw_invI (q := 67) (pc := 20) dX9_on_20 (c_X9_isCase e33 hcs) rfl vX9_178 sh_67 (by decide) rfl rfl rfl (by decide) <|
          cw_if_ne_F (tgt := 28) (pc := 23) dX9_on_23 (by decide) (bI_0.mpr (fun h => w2 (h20.mp h))) <|
          cw_iconst (v := -1) (pc := 26) dX9_on_26 (by decide) <|
          cw_iret (pc := 27) dX9_on_27 hR <|
          ⟨by rw [onA, if_neg (fun h => h.elim w0 (fun h => h.elim w1 w2))], Same.rf⟩
theorem bl_10 {s : Row} {code : PCo} {mk : Int32} {n j p : Nat} (h : nN (s 0) + j < 2 ^ 30) : blY s code mk n (j + 10) p = blY s code mk n j p := by
  unfold blY
  rw [← Nat.add_assoc, show scS s code (nI (nN (s 0) + j + 10)) p (pgS s p) = scS s code (nI (nN (s 0) + j)) p (pgS s p) from scV_10 h]
theorem when_10 {s : Row} {code : PCo} {mk n c a b k : Nat} (h1 : s (81 + c) = nI a) (h2 : s (86 + c) = nI b) (ha : a < 6) (hb : b < 6) (hc : c < 5) (hk : 1 ≤ k) (h : nN (s 0) + k < 2 ^ 29) : whenF s code mk n c (k + 10) = whenF s code mk n c k := by
  have hbe : ∀ p, p < 6 → beS (evo s code (nI mk) n (k + 10)) p = beS (evo s code (nI mk) n k) p := fun p hp => by
    unfold beS
    rw [evo_b hp, evo_b hp, if_neg (show ¬ k + 10 = 0 by omega), if_neg (show ¬ k = 0 by omega), show k + 10 - 1 = k - 1 + 10 by omega, bl_10 (by omega)]
  unfold whenF
  rw [decS_evo, decS_evo, h1, h2, nN_nI (by omega), nN_nI (by omega)]
  unfold decI
  rw [hbe a ha, hbe b hb]
theorem fst_no {Pd : Nat → Bool} {i n : Nat} (h : ∀ j, i ≤ j → j < i + n → Pd j = false) : fstI Pd i n = -5 := by
  induction n generalizing i with
  | zero => rfl
  | succ n ih => show (if Pd i then nI i else fstI Pd (i + 1) n) = -5; rw [h i (by omega) (by omega)]; exact ih (fun j a b => h j (by omega) (by omega))
theorem fst_ext {Pd : Nat → Bool} {n m : Nat} : ∀ i, fstI Pd i n = -5 → (∀ j, i + n ≤ j → j < i + n + m → Pd j = false) → fstI Pd i (n + m) = -5 := by
  induction n with
  | zero => intro i _ h; rw [Nat.zero_add]; exact fst_no (fun j a b => h j (by omega) (by omega))
  | succ n ih =>
    intro i h1 h2
    rw [show n + 1 + m = (n + m) + 1 by omega]
    show (if Pd i then nI i else fstI Pd (i + 1) (n + m)) = -5
    have h1' : (if Pd i then nI i else fstI Pd (i + 1) n) = -5 := h1
    cases hp : Pd i
    · rw [hp] at h1'
      exact ih (i + 1) h1' (fun j a b => h2 j (by omega) (by omega))
    · rw [hp] at h1'; exact h1'
theorem fst_more {Pd : Nat → Bool} {n m : Nat} : ∀ i, ¬ fstI Pd i n = -5 → fstI Pd i (n + m) = fstI Pd i n := by
  induction n with
  | zero => intro i h; exact absurd rfl h
  | succ n ih =>
    intro i h1
    rw [show n + 1 + m = (n + m) + 1 by omega]
    show (if Pd i then nI i else fstI Pd (i + 1) (n + m)) = (if Pd i then nI i else fstI Pd (i + 1) n)
    have h1' : ¬ (if Pd i then nI i else fstI Pd (i + 1) n) = -5 := h1
    cases hp : Pd i
    · rw [hp] at h1'
      exact ih (i + 1) h1'
    · rfl
theorem fst_none {Pd : Nat → Bool} {n : Nat} : ∀ i, i + n < 2 ^ 31 → fstI Pd i n = -5 → ∀ j, i ≤ j → j < i + n → Pd j = false := by
  induction n with
  | zero => intro i _ _ j a b; omega
  | succ n ih =>
    intro i hb h j a b
    have h' : (if Pd i then nI i else fstI Pd (i + 1) n) = -5 := h
    cases hp : Pd i
    · by_cases e : j = i
      · subst e; exact hp
      · rw [hp] at h'; exact ih (i + 1) (by omega) h' j (by omega) (by omega)
    · rw [hp] at h'; exact absurd h' (nI_neg5 (by omega))
/-- behind ten years the same comes again: to look forty years on finds no more -/
theorem when_41 {s : Row} {code : PCo} {mk n c a b Y M : Nat} (hi : InvL s n Y M) (hY : Y < 2 ^ 20) (h1 : s (81 + c) = nI a) (h2 : s (86 + c) = nI b) (ha : a < 6) (hb : b < 6) (hc : c < 5) : fstI (whenF s code mk n c) 0 41 = fstI (whenF s code mk n c) 0 11 := by
  obtain ⟨y, hy, ey⟩ := hi.2.2.1
  have hn0 : nN (s 0) = y := by rw [ey]; exact nN_nI (by omega)
  by_cases h : fstI (whenF s code mk n c) 0 11 = -5
  · have hno := fst_none 0 (by decide) h
    have per : ∀ j, 1 ≤ j → j < 41 → whenF s code mk n c j = false := by
      intro j
      induction j using Nat.strongRecOn with
      | ind j ih =>
        intro j1 j2
        by_cases hj : j < 11
        · exact hno j (by omega) (by omega)
        · have := when_10 (code := code) (mk := mk) (n := n) (k := j - 10) h1 h2 ha hb hc (by omega) (by omega)
          rw [show j - 10 + 10 = j by omega] at this
          rw [this]; exact ih (j - 10) (by omega) (by omega) (by omega)
    rw [h]
    exact fst_ext (n := 11) (m := 30) 0 h (fun j a b => per j (by omega) (by omega))
  · exact fst_more (n := 11) (m := 30) 0 h
set_option maxHeartbeats 4000000 in
set_option maxRecDepth 100000 in
theorem c_X9_when {E : Ev} {μ : Mem} {s : Row} (hs : μ 68 = s) {n mk : Nat} {code : PCo} (hI : Inv s n code mk) {x : Int32} : AM E yX9_when cX9_when 4 (some .int) 7 [.ref 67, .int x] μ (fun r μ' => r = some (.int (whenA s code mk n x)) ∧ Same MQr μ μ') := by
  refine am_of (own := RX9) (L := [.ref 67, .int x, .null, .null]) (by decide) rfl (Nat.le_of_ble_eq_true rfl) rfl (fun Γ hR => ?_)
  subst hs
  have hI0 := hI
  obtain ⟨hIL, hIP, hIC, hIS, hIW, hIB, hIT⟩ := hI
  have hn := hIL.1
  have h6 := hIL.2.1
  obtain ⟨cs, hcs, e33, hcc⟩ := hIC
  by_cases hx : 0 ≤ x ∧ x < μ 68 33
  · obtain ⟨q, hq, rfl⟩ := ix_of (n := cs) (by omega) (by rw [← e33]; exact hx)
    obtain ⟨⟨a, ha, ea⟩, b, hb, eb⟩ := hcc q hq
    have hans : whenA (μ 68) code mk n (nI q) = fstI (whenF (μ 68) code mk n q) 0 41 := by rw [whenA, if_pos hx, nN_nI (by omega), when_41 hIL (by decide) ea eb (by omega) (by omega) (by omega)]
    have fin : ∀ (m1 : Mem) (v : Int32) (z : Value) (k : Nat), m1 68 = evo (μ 68) code (nI mk) n k → Same MG (str μ 70 (fun k => if k < 31 then μ 68 k else μ 70 k)) m1 → v = whenA (μ 68) code mk n (nI q) → CW E Γ cX9_when 4 RX9 7 65 [.ref 67, .int (nI q), .int v, z] [] m1 := by
      intro m1 v z k e1 s1 ev
      refine cw_aload_n (pc := 65) dX9_when_65 rfl rfl <|
        cw_invV (q := 67) (pc := 66) dX9_when_66 c_X9_goesBack rfl vX9_193 sh_67 (by decide) rfl rfl rfl (by decide) <|
        cw_iload_n (pc := 69) dX9_when_69 rfl rfl <|
        cw_iret (pc := 70) dX9_when_70 hR <|
        ⟨by rw [ev], back_same s1 (fun j hj => by rw [e1, evo_o (by omega)])⟩
    refine cw_aload_n (pc := 0) dX9_when_0 rfl rfl <|
      cw_iload_n (pc := 1) dX9_when_1 rfl rfl <|
      cw_invI (q := 67) (pc := 2) dX9_when_2 (c_X9_isCase e33 hcs) rfl vX9_178 sh_67 (by decide) rfl rfl rfl (by decide) <|
      cw_if_ne_T (tgt := 10) (pc := 5) dX9_when_5 (by decide) (bI_n0.mpr hx) <|
      cw_aload_n (pc := 10) dX9_when_10 rfl rfl <|
      cw_invV (q := 67) (pc := 11) dX9_when_11 c_X9_keeps rfl vX9_190 sh_67 (by decide) rfl rfl rfl (by decide) <|
      cw_bipush (v := -5) (pc := 14) dX9_when_14 (by decide) <|
      cw_istore_n (L' := [_, _, _, _]) (pc := 16) dX9_when_16 rfl (by decide) rfl rfl <|
      cw_iconst (v := 0) (pc := 17) dX9_when_17 (by decide) <|
      cw_istore_n (L' := [_, _, _, _]) (pc := 18) dX9_when_18 rfl (by decide) rfl rfl <|
      ?_
    refine cw_for (σ := Unit) 41 (fun i _ m => m 68 = evo (μ 68) code (nI mk) n i ∧ Same MG (str μ 70 (fun k => if k < 31 then μ 68 k else μ 70 k)) m ∧ whenA (μ 68) code mk n (nI q) = fstI (whenF (μ 68) code mk n q) i (41 - i)) (fun i _ => [.ref 67, .int (nI q), .int (-5), .int (nI i)]) ?_ ?_ 0 () _ (Nat.zero_le _) ⟨by rw [k68, evo_0 hIL (by decide) (by decide)], Same.rf, hans⟩
    · rintro ⟨⟩ m ⟨e1, s1, ef⟩
      refine cw_iload_n (pc := 19) dX9_when_19 rfl rfl <|
        cw_bipush (v := 40) (pc := 20) dX9_when_20 (by decide) <|
        cw_icmp_gt_T (tgt := 65) (pc := 22) dX9_when_22 (by decide) (by decide) <|
        ?_
      exact fin _ _ _ 41 e1 s1 (by rw [ef]; rfl)
    · rintro i ⟨⟩ m hi ⟨e1, s1, ef⟩ ih
      rw [fstI_s hi] at ef
      have hi1 := hIL.evo (code := code) (mk := nI mk) i (by omega) (by omega)
      have hP1 : InvP (m 68) code mk := by rw [e1]; exact hIP.cg (fun j hj => evo_o (by omega))
      have hi1' := hi1
      rw [← e1] at hi1'
      have e81 : m 68 (81 + q) = μ 68 (81 + q) := by rw [e1, evo_o (by omega)]
      by_cases hd : decS (evo (μ 68) code (nI mk) n i) q = μ 68 (81 + q)
      · have hw : whenF (μ 68) code mk n q i = true := decide_eq_true hd
        rw [hw] at ef
        refine cw_iload_n (pc := 19) dX9_when_19 rfl rfl <|
          cw_bipush (v := 40) (pc := 20) dX9_when_20 (by decide) <|
          cw_icmp_gt_F (tgt := 65) (pc := 22) dX9_when_22 (by decide) (fun h => absurd h (Int32.not_lt.mpr (nI_le (b := 40) (by omega) (by decide)))) <|
          cw_iload_n (pc := 25) dX9_when_25 rfl rfl <|
          cw_bipush (v := -5) (pc := 26) dX9_when_26 (by decide) <|
          cw_icmp_ne_F (tgt := 65) (pc := 28) dX9_when_28 (by decide) rfl <|
          cw_aload_n (pc := 31) dX9_when_31 rfl rfl <|
          cw_iload_n (pc := 32) dX9_when_32 rfl rfl <|
          cw_invI (q := 67) (pc := 33) dX9_when_33 (c_X9_decided e1 (c := q) (by omega) (by rw [evo_o (by omega)]; exact ea) (by rw [evo_o (by omega)]; exact eb) (by omega) (by omega) (hi1.2.2.2.1 a (by omega)).1 (hi1.2.2.2.1 b (by omega)).1) rfl vX9_181 sh_67 (by decide) rfl rfl rfl (by decide) <|
          cw_aload_n (pc := 36) dX9_when_36 rfl rfl <|
          cw_getR (q := 67) (t := 68) (pc := 37) dX9_when_37 fX9_9 sh_67 (by decide) rfl <|
          cw_bipush (v := 81) (pc := 40) dX9_when_40 (by decide) <|
          cw_iload_n (pc := 42) dX9_when_42 rfl rfl <|
          cw_iadd (pc := 43) dX9_when_43 <|
          cw_ial (q := 68) (jn := (81 + q)) (pc := 44) dX9_when_44 sh_68 (nx_add rfl rfl) (by omega) (by decide) <|
          ?_
        rw [e81]
        refine cw_icmp_ne_F (tgt := 52) (pc := 45) dX9_when_45 (by decide) hd <|
          cw_iload_n (pc := 48) dX9_when_48 rfl rfl <|
          cw_goto (tgt := 54) (pc := 49) dX9_when_49 (by decide) <|
          cw_istore_n (L' := [_, _, _, _]) (pc := 54) dX9_when_54 rfl (by decide) rfl rfl <|
          cw_aload_n (pc := 55) dX9_when_55 rfl rfl <|
          cw_invP (q := 67) (pc := 56) dX9_when_56 (c_X9_goes rfl hP1 hi1' (by omega) (by omega)) rfl vX9_184 sh_67 (by decide) rfl rfl rfl (by decide) <|
          ?_
        rintro _ m2 ⟨rfl, e2, s2⟩
        have e3 : m2 68 = evo (μ 68) code (nI mk) n (i + 1) := by rw [e2, e1, evo_1 hIL (by omega) (by omega)]
        refine cw_iincL (L' := [_, _, _, _]) (c := 1) (pc := 59) dX9_when_59 rfl (by decide) (by decide) rfl rfl <|
          ?_
        rw [nI_1 i]
        refine cw_goto (tgt := 19) (pc := 62) dX9_when_62 (by decide) <|
          ?_
        by_cases h40 : i + 1 = 41
        · refine cw_iload_n (pc := 19) dX9_when_19 rfl rfl <|
          cw_bipush (v := 40) (pc := 20) dX9_when_20 (by decide) <|
          cw_icmp_gt_T (tgt := 65) (pc := 22) dX9_when_22 (by decide) (nI_lt (a := 40) (by omega) (by omega)) <|
          ?_
          exact fin _ _ _ (i + 1) e3 (s1.tr s2) ef.symm
        · refine cw_iload_n (pc := 19) dX9_when_19 rfl rfl <|
          cw_bipush (v := 40) (pc := 20) dX9_when_20 (by decide) <|
          cw_icmp_gt_F (tgt := 65) (pc := 22) dX9_when_22 (by decide) (fun h => absurd h (Int32.not_lt.mpr (nI_le (b := 40) (by omega) (by decide)))) <|
          cw_iload_n (pc := 25) dX9_when_25 rfl rfl <|
          cw_bipush (v := -5) (pc := 26) dX9_when_26 (by decide) <|
          cw_icmp_ne_T (tgt := 65) (pc := 28) dX9_when_28 (by decide) (nI_neg5 (by omega)) <|
          ?_
          exact fin _ _ _ (i + 1) e3 (s1.tr s2) ef.symm
      · have hw : whenF (μ 68) code mk n q i = false := decide_eq_false hd
        rw [hw] at ef
        refine cw_iload_n (pc := 19) dX9_when_19 rfl rfl <|
          cw_bipush (v := 40) (pc := 20) dX9_when_20 (by decide) <|
          cw_icmp_gt_F (tgt := 65) (pc := 22) dX9_when_22 (by decide) (fun h => absurd h (Int32.not_lt.mpr (nI_le (b := 40) (by omega) (by decide)))) <|
          cw_iload_n (pc := 25) dX9_when_25 rfl rfl <|
          cw_bipush (v := -5) (pc := 26) dX9_when_26 (by decide) <|
          cw_icmp_ne_F (tgt := 65) (pc := 28) dX9_when_28 (by decide) rfl <|
          cw_aload_n (pc := 31) dX9_when_31 rfl rfl <|
          cw_iload_n (pc := 32) dX9_when_32 rfl rfl <|
          cw_invI (q := 67) (pc := 33) dX9_when_33 (c_X9_decided e1 (c := q) (by omega) (by rw [evo_o (by omega)]; exact ea) (by rw [evo_o (by omega)]; exact eb) (by omega) (by omega) (hi1.2.2.2.1 a (by omega)).1 (hi1.2.2.2.1 b (by omega)).1) rfl vX9_181 sh_67 (by decide) rfl rfl rfl (by decide) <|
          cw_aload_n (pc := 36) dX9_when_36 rfl rfl <|
          cw_getR (q := 67) (t := 68) (pc := 37) dX9_when_37 fX9_9 sh_67 (by decide) rfl <|
          cw_bipush (v := 81) (pc := 40) dX9_when_40 (by decide) <|
          cw_iload_n (pc := 42) dX9_when_42 rfl rfl <|
          cw_iadd (pc := 43) dX9_when_43 <|
          cw_ial (q := 68) (jn := (81 + q)) (pc := 44) dX9_when_44 sh_68 (nx_add rfl rfl) (by omega) (by decide) <|
          ?_
        rw [e81]
        refine cw_icmp_ne_T (tgt := 52) (pc := 45) dX9_when_45 (by decide) hd <|
          cw_bipush (v := -5) (pc := 52) dX9_when_52 (by decide) <|
          cw_istore_n (L' := [_, _, _, _]) (pc := 54) dX9_when_54 rfl (by decide) rfl rfl <|
          cw_aload_n (pc := 55) dX9_when_55 rfl rfl <|
          cw_invP (q := 67) (pc := 56) dX9_when_56 (c_X9_goes rfl hP1 hi1' (by omega) (by omega)) rfl vX9_184 sh_67 (by decide) rfl rfl rfl (by decide) <|
          ?_
        rintro _ m2 ⟨rfl, e2, s2⟩
        have e3 : m2 68 = evo (μ 68) code (nI mk) n (i + 1) := by rw [e2, e1, evo_1 hIL (by omega) (by omega)]
        refine cw_iincL (L' := [_, _, _, _]) (c := 1) (pc := 59) dX9_when_59 rfl (by decide) (by decide) rfl rfl <|
          ?_
        rw [nI_1 i]
        refine cw_goto (tgt := 19) (pc := 62) dX9_when_62 (by decide) <|
          ?_
        exact ih () _ ⟨e3, s1.tr s2, ef⟩
  · refine cw_aload_n (pc := 0) dX9_when_0 rfl rfl <|
      cw_iload_n (pc := 1) dX9_when_1 rfl rfl <|
      cw_invI (q := 67) (pc := 2) dX9_when_2 (c_X9_isCase e33 hcs) rfl vX9_178 sh_67 (by decide) rfl rfl rfl (by decide) <|
      cw_if_ne_F (tgt := 10) (pc := 5) dX9_when_5 (by decide) (bI_0.mpr hx) <|
      cw_iconst (v := -1) (pc := 8) dX9_when_8 (by decide) <|
      cw_iret (pc := 9) dX9_when_9 hR <|
      ⟨by rw [whenA, if_neg hx], Same.rf⟩
set_option maxHeartbeats 4000000 in
set_option maxRecDepth 100000 in
theorem c_X9_start {E : Ev} {μ : Mem} {s : Row} (hs : μ 68 = s) {n mk : Nat} {code : PCo} (hI : Inv s n code mk) {x : Int32} : AM E yX9_start cX9_start 4 (some .int) 4 [.ref 67, .int x] μ (fun r μ' => r = some (.int (startA s code x)) ∧ Same MQr μ μ') := by
  refine am_of (own := RX9) (L := [.ref 67, .int x, .null, .null]) (by decide) rfl (Nat.le_of_ble_eq_true rfl) rfl (fun Γ hR => ?_)
  subst hs
  have hI0 := hI
  obtain ⟨hIL, hIP, hIC, hIS, hIW, hIB, hIT⟩ := hI
  have hn := hIL.1
  have h6 := hIL.2.1
  by_cases hx : 0 ≤ x ∧ x < μ 68 31
  · obtain ⟨p, hp, rfl⟩ := isM_of hn h6 hx
    have hp6 : p < 6 := by omega
    refine cw_aload_n (pc := 0) dX9_start_0 rfl rfl <|
      cw_iload_n (pc := 1) dX9_start_1 rfl rfl <|
      cw_invI (q := 67) (pc := 2) dX9_start_2 (c_X9_isMan hn h6) rfl vX9_162 sh_67 (by decide) rfl rfl rfl (by decide) <|
      cw_if_ne_T (tgt := 10) (pc := 5) dX9_start_5 (by decide) (bI_n0.mpr hx) <|
      cw_iconst (v := 0) (pc := 10) dX9_start_10 (by decide) <|
      cw_istore_n (L' := [_, _, _, _]) (pc := 11) dX9_start_11 rfl (by decide) rfl rfl <|
      cw_iconst (v := 1) (pc := 12) dX9_start_12 (by decide) <|
      cw_istore_n (L' := [_, _, _, _]) (pc := 13) dX9_start_13 rfl (by decide) rfl rfl <|
      ?_
    refine cw_for (σ := Unit) 8 (fun i _ m => Same MS μ m) (fun i _ => [.ref 67, .int (nI p), .int (nI (bestL (fun l => scS (μ 68) code (μ 68 0) p l) i)), .int (nI (i + 1))]) ?_ ?_ 0 () _ (Nat.zero_le _) Same.rf
    · rintro ⟨⟩ m hS
      refine cw_iload_n (pc := 14) dX9_start_14 rfl rfl <|
        cw_bipush (v := 9) (pc := 15) dX9_start_15 (by decide) <|
        cw_icmp_ge_T (tgt := 47) (pc := 17) dX9_start_17 (by decide) (by decide) <|
        cw_iload_n (pc := 47) dX9_start_47 rfl rfl <|
        cw_iret (pc := 48) dX9_start_48 hR <|
        ⟨by rw [startA, if_pos hx, nN_nI (by omega)], MS_MQ hS⟩
    · rintro i ⟨⟩ m hi hS ih
      have hb := bestL_le (fun l => scS (μ 68) code (μ 68 0) p l) i
      have hsu := bestL_s (fun l => scS (μ 68) code (μ 68 0) p l) i
      have e68 := hS.r68
      generalize hB : bestL (fun l => scS (μ 68) code (μ 68 0) p l) i = B at hb hsu
      by_cases hc : scS (μ 68) code (μ 68 0) p B < scS (μ 68) code (μ 68 0) p (i + 1)
      · refine cw_iload_n (pc := 14) dX9_start_14 rfl rfl <|
          cw_bipush (v := 9) (pc := 15) dX9_start_15 (by decide) <|
          cw_icmp_ge_F (tgt := 47) (pc := 17) dX9_start_17 (by decide) (nI_ge (b := 9) (by omega) (by decide)) <|
          cw_aload_n (pc := 20) dX9_start_20 rfl rfl <|
          cw_iload_n (pc := 21) dX9_start_21 rfl rfl <|
          cw_iload_n (pc := 22) dX9_start_22 rfl rfl <|
          cw_invP (q := 67) (pc := 23) dX9_start_23 (c_X9_scoreFrom e68 hIP hp6 (l := i + 1) (by omega)) rfl vX9_150 sh_67 (by decide) rfl rfl rfl (by decide) <|
          ?_
        rintro _ m2 ⟨rfl, -, -, -, s2⟩
        have e2 := s2.r68.trans e68
        refine cw_aload_n (pc := 26) dX9_start_26 rfl rfl <|
          cw_iload_n (pc := 27) dX9_start_27 rfl rfl <|
          cw_iload_n (pc := 28) dX9_start_28 rfl rfl <|
          cw_invP (q := 67) (pc := 29) dX9_start_29 (c_X9_scoreFrom e2 hIP hp6 (l := B) (by omega)) rfl vX9_150 sh_67 (by decide) rfl rfl rfl (by decide) <|
          ?_
        rintro _ m3 ⟨rfl, -, -, -, s3⟩
        refine cw_icmp_le_F (tgt := 39) (pc := 32) dX9_start_32 (by decide) (Int32.not_le.mpr hc) <|
          cw_iload_n (pc := 35) dX9_start_35 rfl rfl <|
          cw_goto (tgt := 40) (pc := 36) dX9_start_36 (by decide) <|
          cw_istore_n (L' := [_, _, _, _]) (pc := 40) dX9_start_40 rfl (by decide) rfl rfl <|
          cw_iincL (L' := [_, _, _, _]) (c := 1) (pc := 41) dX9_start_41 rfl (by decide) (by decide) rfl rfl <|
          ?_
        rw [nI_1 (i + 1)]
        refine cw_goto (tgt := 14) (pc := 44) dX9_start_44 (by decide) <|
          ?_
        have := ih () m3 ((hS.tr s2).tr s3)
        rw [hsu, if_pos hc] at this
        exact this
      · refine cw_iload_n (pc := 14) dX9_start_14 rfl rfl <|
          cw_bipush (v := 9) (pc := 15) dX9_start_15 (by decide) <|
          cw_icmp_ge_F (tgt := 47) (pc := 17) dX9_start_17 (by decide) (nI_ge (b := 9) (by omega) (by decide)) <|
          cw_aload_n (pc := 20) dX9_start_20 rfl rfl <|
          cw_iload_n (pc := 21) dX9_start_21 rfl rfl <|
          cw_iload_n (pc := 22) dX9_start_22 rfl rfl <|
          cw_invP (q := 67) (pc := 23) dX9_start_23 (c_X9_scoreFrom e68 hIP hp6 (l := i + 1) (by omega)) rfl vX9_150 sh_67 (by decide) rfl rfl rfl (by decide) <|
          ?_
        rintro _ m2 ⟨rfl, -, -, -, s2⟩
        have e2 := s2.r68.trans e68
        refine cw_aload_n (pc := 26) dX9_start_26 rfl rfl <|
          cw_iload_n (pc := 27) dX9_start_27 rfl rfl <|
          cw_iload_n (pc := 28) dX9_start_28 rfl rfl <|
          cw_invP (q := 67) (pc := 29) dX9_start_29 (c_X9_scoreFrom e2 hIP hp6 (l := B) (by omega)) rfl vX9_150 sh_67 (by decide) rfl rfl rfl (by decide) <|
          ?_
        rintro _ m3 ⟨rfl, -, -, -, s3⟩
        refine cw_icmp_le_T (tgt := 39) (pc := 32) dX9_start_32 (by decide) (Int32.not_lt.mp hc) <|
          cw_iload_n (pc := 39) dX9_start_39 rfl rfl <|
          cw_istore_n (L' := [_, _, _, _]) (pc := 40) dX9_start_40 rfl (by decide) rfl rfl <|
          cw_iincL (L' := [_, _, _, _]) (c := 1) (pc := 41) dX9_start_41 rfl (by decide) (by decide) rfl rfl <|
          ?_
        rw [nI_1 (i + 1)]
        refine cw_goto (tgt := 14) (pc := 44) dX9_start_44 (by decide) <|
          ?_
        have := ih () m3 ((hS.tr s2).tr s3)
        rw [hsu, if_neg hc] at this
        exact this
  · refine cw_aload_n (pc := 0) dX9_start_0 rfl rfl <|
      cw_iload_n (pc := 1) dX9_start_1 rfl rfl <|
      cw_invI (q := 67) (pc := 2) dX9_start_2 (c_X9_isMan hn h6) rfl vX9_162 sh_67 (by decide) rfl rfl rfl (by decide) <|
      cw_if_ne_F (tgt := 10) (pc := 5) dX9_start_5 (by decide) (bI_0.mpr hx) <|
      cw_iconst (v := -1) (pc := 8) dX9_start_8 (by decide) <|
      cw_iret (pc := 9) dX9_start_9 hR <|
      ⟨by rw [startA, if_neg hx], Same.rf⟩
set_option maxHeartbeats 4000000 in
set_option maxRecDepth 100000 in
theorem c_X9_scoreLaying {E : Ev} {μ : Mem} {s : Row} (hs : μ 68 = s) {code : PCo} {mk : Nat} (hP : InvP s code mk) {n Y M : Nat} (hi : InvL s n Y M) {p x : Nat} (hp : p < n) (hx : x < 12) {v : Int32} : AM E yX9_scoreLaying cX9_scoreLaying 6 (some .int) 5 [.ref 67, .int (nI p), .int (nI x), .int v] μ (fun r μ' => r = some (.int (laidP s code p x v)) ∧ Same MS μ μ') := by
  refine am_of (own := RX9) (L := [.ref 67, .int (nI p), .int (nI x), .int v, .null, .null]) (by decide) rfl (Nat.le_of_ble_eq_true rfl) rfl (fun Γ hR => ?_)
  subst hs
  refine cw_aload_n (pc := 0) dX9_scoreLaying_0 rfl rfl <|
    cw_getR (q := 67) (t := 68) (pc := 1) dX9_scoreLaying_1 fX9_9 sh_67 (by decide) rfl <|
    cw_bipush (v := 19) (pc := 4) dX9_scoreLaying_4 (by decide) <|
    cw_iload_n (pc := 6) dX9_scoreLaying_6 rfl rfl <|
    cw_iadd (pc := 7) dX9_scoreLaying_7 <|
    cw_ial (q := 68) (jn := (19 + x)) (pc := 8) dX9_scoreLaying_8 sh_68 (nx_add rfl rfl) (by omega) (by decide) <|
    cw_istore (L' := [_, _, _, _, _, _]) (pc := 9) dX9_scoreLaying_9 (by decide) rfl rfl <|
    cw_aload_n (pc := 11) dX9_scoreLaying_11 rfl rfl <|
    cw_getR (q := 67) (t := 68) (pc := 12) dX9_scoreLaying_12 fX9_9 sh_67 (by decide) rfl <|
    cw_bipush (v := 19) (pc := 15) dX9_scoreLaying_15 (by decide) <|
    cw_iload_n (pc := 17) dX9_scoreLaying_17 rfl rfl <|
    cw_iadd (pc := 18) dX9_scoreLaying_18 <|
    cw_iload_n (pc := 19) dX9_scoreLaying_19 rfl rfl <|
    cw_ias (q := 68) (jn := (19 + x)) (pc := 20) dX9_scoreLaying_20 sh_68 (nx_add rfl rfl) (by omega) (by decide) <|
    cw_aload_n (pc := 21) dX9_scoreLaying_21 rfl rfl <|
    cw_iload_n (pc := 22) dX9_scoreLaying_22 rfl rfl <|
    cw_invP (q := 67) (pc := 23) dX9_scoreLaying_23 (c_X9_scoreOf (st_row μ 68 (19 + x) v) (hP.cg (fun j hj => un (by omega))) (hi.up v (by omega)) hp) rfl vX9_154 sh_67 (by decide) rfl rfl rfl (by decide) <|
    ?_
  rintro _ m2 ⟨rfl, s2⟩
  refine cw_istore (L' := [_, _, _, _, _, _]) (pc := 26) dX9_scoreLaying_26 (by decide) rfl rfl <|
    cw_aload_n (pc := 28) dX9_scoreLaying_28 rfl rfl <|
    cw_getR (q := 67) (t := 68) (pc := 29) dX9_scoreLaying_29 fX9_9 sh_67 (by decide) rfl <|
    cw_bipush (v := 19) (pc := 32) dX9_scoreLaying_32 (by decide) <|
    cw_iload_n (pc := 34) dX9_scoreLaying_34 rfl rfl <|
    cw_iadd (pc := 35) dX9_scoreLaying_35 <|
    cw_iload (pc := 36) dX9_scoreLaying_36 rfl <|
    cw_ias (q := 68) (jn := (19 + x)) (pc := 38) dX9_scoreLaying_38 sh_68 (nx_add rfl rfl) (by omega) (by decide) <|
    cw_iload (pc := 39) dX9_scoreLaying_39 rfl <|
    cw_iret (pc := 41) dX9_scoreLaying_41 hR <|
    ⟨rfl, lay_same s2⟩
theorem wavF_s (f : Nat → Int32) (b0 : Int32) (x : Nat) : wavF f b0 (x + 1) = if f x < (wavF f b0 x).2 then (nI x, f x) else wavF f b0 x := rfl
set_option maxHeartbeats 4000000 in
set_option maxRecDepth 100000 in
theorem c_X9_waver {E : Ev} {μ : Mem} {s : Row} (hs : μ 68 = s) {n mk : Nat} {code : PCo} (hI : Inv s n code mk) {x v : Int32} : AM E yX9_waver cX9_waver 7 (some .int) 6 [.ref 67, .int x, .int v] μ (fun r μ' => r = some (.int (waverA s code x v)) ∧ Same MQr μ μ') := by
  refine am_of (own := RX9) (L := [.ref 67, .int x, .int v, .null, .null, .null, .null]) (by decide) rfl (Nat.le_of_ble_eq_true rfl) rfl (fun Γ hR => ?_)
  subst hs
  have hI0 := hI
  obtain ⟨hIL, hIP, hIC, hIS, hIW, hIB, hIT⟩ := hI
  have hn := hIL.1
  have h6 := hIL.2.1
  by_cases hx : 0 ≤ x ∧ x < μ 68 31
  · by_cases hv : 1 ≤ v ∧ v ≤ 9
    · obtain ⟨p, hp, rfl⟩ := isM_of hn h6 hx
      refine cw_aload_n (pc := 0) dX9_waver_0 rfl rfl <|
        cw_iload_n (pc := 1) dX9_waver_1 rfl rfl <|
        cw_invI (q := 67) (pc := 2) dX9_waver_2 (c_X9_isMan hn h6) rfl vX9_162 sh_67 (by decide) rfl rfl rfl (by decide) <|
        cw_if_ne_T (tgt := 10) (pc := 5) dX9_waver_5 (by decide) (bI_n0.mpr hx) <|
        cw_iload_n (pc := 10) dX9_waver_10 rfl rfl <|
        cw_iconst (v := 1) (pc := 11) dX9_waver_11 (by decide) <|
        cw_bipush (v := 9) (pc := 12) dX9_waver_12 (by decide) <|
        cw_insI (pc := 14) dX9_waver_14 c_X9_in vX9_44 rfl rfl rfl (by decide) <|
        cw_if_ne_T (tgt := 23) (pc := 17) dX9_waver_17 (by decide) (bI_n0.mpr hv) <|
        cw_aload_n (pc := 23) dX9_waver_23 rfl rfl <|
        cw_iload_n (pc := 24) dX9_waver_24 rfl rfl <|
        cw_invP (q := 67) (pc := 25) dX9_waver_25 (c_X9_scoreOf rfl hIP hIL hp) rfl vX9_154 sh_67 (by decide) rfl rfl rfl (by decide) <|
        ?_
      rintro _ m1 ⟨rfl, s1⟩
      refine cw_istore_n (L' := [_, _, _, _, _, _, _]) (pc := 28) dX9_waver_28 rfl (by decide) rfl rfl <|
        cw_bipush (v := -5) (pc := 29) dX9_waver_29 (by decide) <|
        cw_istore (L' := [_, _, _, _, _, _, _]) (pc := 31) dX9_waver_31 (by decide) rfl rfl <|
        cw_iconst (v := 0) (pc := 33) dX9_waver_33 (by decide) <|
        cw_istore (L' := [_, _, _, _, _, _, _]) (pc := 34) dX9_waver_34 (by decide) rfl rfl <|
        ?_
      refine cw_for (σ := Int32 × Int32 × Value) 12 (fun i a m => Same MS μ m ∧ a.1 = (wavF (fun t => laidP (μ 68) code p t v) (scP (μ 68) code p) i).2 ∧ a.2.1 = (wavF (fun t => laidP (μ 68) code p t v) (scP (μ 68) code p) i).1) (fun i a => [.ref 67, .int (nI p), .int v, .int a.1, .int a.2.1, .int (nI i), a.2.2]) ?_ ?_ 0 (_, -5, .null) _ (Nat.zero_le _) ⟨s1, rfl, rfl⟩
      · rintro ⟨a, b, z⟩ m ⟨hS, ea, eb⟩
        dsimp only at ea eb ⊢
        refine cw_iload (pc := 36) dX9_waver_36 rfl <|
          cw_bipush (v := 12) (pc := 38) dX9_waver_38 (by decide) <|
          cw_icmp_ge_T (tgt := 87) (pc := 40) dX9_waver_40 (by decide) (by decide) <|
          cw_iload (pc := 87) dX9_waver_87 rfl <|
          cw_iret (pc := 89) dX9_waver_89 hR <|
          ⟨by rw [waverA, if_pos hx, if_pos hv, nN_nI (by omega), eb], MS_MQ hS⟩
      · rintro i ⟨a, b, z⟩ m hi ⟨hS, ea, eb⟩ ih
        dsimp only at ea eb ⊢
        have e68 := hS.r68
        have hsu := wavF_s (fun t => laidP (μ 68) code p t v) (scP (μ 68) code p) i
        rw [← ea] at hsu
        by_cases hc : laidP (μ 68) code p i v < a
        · rw [if_pos hc] at hsu
          refine cw_iload (pc := 36) dX9_waver_36 rfl <|
            cw_bipush (v := 12) (pc := 38) dX9_waver_38 (by decide) <|
            cw_icmp_ge_F (tgt := 87) (pc := 40) dX9_waver_40 (by decide) (nI_ge (b := 12) hi (by decide)) <|
            cw_aload_n (pc := 43) dX9_waver_43 rfl rfl <|
            cw_iload_n (pc := 44) dX9_waver_44 rfl rfl <|
            cw_iload (pc := 45) dX9_waver_45 rfl <|
            cw_iload_n (pc := 47) dX9_waver_47 rfl rfl <|
            cw_invP (q := 67) (pc := 48) dX9_waver_48 (c_X9_scoreLaying e68 hIP hIL hp hi) rfl vX9_196 sh_67 (by decide) rfl rfl rfl (by decide) <|
            ?_
          rintro _ m2 ⟨rfl, s2⟩
          refine cw_istore (L' := [_, _, _, _, _, _, _]) (pc := 51) dX9_waver_51 (by decide) rfl rfl <|
            cw_iload (pc := 53) dX9_waver_53 rfl <|
            cw_iload_n (pc := 55) dX9_waver_55 rfl rfl <|
            cw_icmp_ge_F (tgt := 64) (pc := 56) dX9_waver_56 (by decide) (Int32.not_le.mpr hc) <|
            cw_iload (pc := 59) dX9_waver_59 rfl <|
            cw_goto (tgt := 66) (pc := 61) dX9_waver_61 (by decide) <|
            cw_istore (L' := [_, _, _, _, _, _, _]) (pc := 66) dX9_waver_66 (by decide) rfl rfl <|
            cw_iload (pc := 68) dX9_waver_68 rfl <|
            cw_iload_n (pc := 70) dX9_waver_70 rfl rfl <|
            cw_icmp_ge_F (tgt := 79) (pc := 71) dX9_waver_71 (by decide) (Int32.not_le.mpr hc) <|
            cw_iload (pc := 74) dX9_waver_74 rfl <|
            cw_goto (tgt := 80) (pc := 76) dX9_waver_76 (by decide) <|
            cw_istore_n (L' := [_, _, _, _, _, _, _]) (pc := 80) dX9_waver_80 rfl (by decide) rfl rfl <|
            cw_iincL (L' := [_, _, _, _, _, _, _]) (c := 1) (pc := 81) dX9_waver_81 rfl (by decide) (by decide) rfl rfl <|
            ?_
          rw [nI_1 i]
          refine cw_goto (tgt := 36) (pc := 84) dX9_waver_84 (by decide) <|
            ?_
          exact ih (_, _, _) _ ⟨hS.tr s2, by exact (congrArg Prod.snd hsu).symm, by exact (congrArg Prod.fst hsu).symm⟩
        · rw [if_neg hc] at hsu
          refine cw_iload (pc := 36) dX9_waver_36 rfl <|
            cw_bipush (v := 12) (pc := 38) dX9_waver_38 (by decide) <|
            cw_icmp_ge_F (tgt := 87) (pc := 40) dX9_waver_40 (by decide) (nI_ge (b := 12) hi (by decide)) <|
            cw_aload_n (pc := 43) dX9_waver_43 rfl rfl <|
            cw_iload_n (pc := 44) dX9_waver_44 rfl rfl <|
            cw_iload (pc := 45) dX9_waver_45 rfl <|
            cw_iload_n (pc := 47) dX9_waver_47 rfl rfl <|
            cw_invP (q := 67) (pc := 48) dX9_waver_48 (c_X9_scoreLaying e68 hIP hIL hp hi) rfl vX9_196 sh_67 (by decide) rfl rfl rfl (by decide) <|
            ?_
          rintro _ m2 ⟨rfl, s2⟩
          refine cw_istore (L' := [_, _, _, _, _, _, _]) (pc := 51) dX9_waver_51 (by decide) rfl rfl <|
            cw_iload (pc := 53) dX9_waver_53 rfl <|
            cw_iload_n (pc := 55) dX9_waver_55 rfl rfl <|
            cw_icmp_ge_T (tgt := 64) (pc := 56) dX9_waver_56 (by decide) (Int32.not_lt.mp hc) <|
            cw_iload (pc := 64) dX9_waver_64 rfl <|
            cw_istore (L' := [_, _, _, _, _, _, _]) (pc := 66) dX9_waver_66 (by decide) rfl rfl <|
            cw_iload (pc := 68) dX9_waver_68 rfl <|
            cw_iload_n (pc := 70) dX9_waver_70 rfl rfl <|
            cw_icmp_ge_T (tgt := 79) (pc := 71) dX9_waver_71 (by decide) (Int32.not_lt.mp hc) <|
            cw_iload_n (pc := 79) dX9_waver_79 rfl rfl <|
            cw_istore_n (L' := [_, _, _, _, _, _, _]) (pc := 80) dX9_waver_80 rfl (by decide) rfl rfl <|
            cw_iincL (L' := [_, _, _, _, _, _, _]) (c := 1) (pc := 81) dX9_waver_81 rfl (by decide) (by decide) rfl rfl <|
            ?_
          rw [nI_1 i]
          refine cw_goto (tgt := 36) (pc := 84) dX9_waver_84 (by decide) <|
            ?_
          exact ih (_, _, _) _ ⟨hS.tr s2, by rw [hsu]; exact ea, by rw [hsu]; exact eb⟩
    · refine cw_aload_n (pc := 0) dX9_waver_0 rfl rfl <|
        cw_iload_n (pc := 1) dX9_waver_1 rfl rfl <|
        cw_invI (q := 67) (pc := 2) dX9_waver_2 (c_X9_isMan hn h6) rfl vX9_162 sh_67 (by decide) rfl rfl rfl (by decide) <|
        cw_if_ne_T (tgt := 10) (pc := 5) dX9_waver_5 (by decide) (bI_n0.mpr hx) <|
        cw_iload_n (pc := 10) dX9_waver_10 rfl rfl <|
        cw_iconst (v := 1) (pc := 11) dX9_waver_11 (by decide) <|
        cw_bipush (v := 9) (pc := 12) dX9_waver_12 (by decide) <|
        cw_insI (pc := 14) dX9_waver_14 c_X9_in vX9_44 rfl rfl rfl (by decide) <|
        cw_if_ne_F (tgt := 23) (pc := 17) dX9_waver_17 (by decide) (bI_0.mpr hv) <|
        cw_bipush (v := -2) (pc := 20) dX9_waver_20 (by decide) <|
        cw_iret (pc := 22) dX9_waver_22 hR <|
        ⟨by rw [waverA, if_pos hx, if_neg hv], Same.rf⟩
  · refine cw_aload_n (pc := 0) dX9_waver_0 rfl rfl <|
      cw_iload_n (pc := 1) dX9_waver_1 rfl rfl <|
      cw_invI (q := 67) (pc := 2) dX9_waver_2 (c_X9_isMan hn h6) rfl vX9_162 sh_67 (by decide) rfl rfl rfl (by decide) <|
      cw_if_ne_F (tgt := 10) (pc := 5) dX9_waver_5 (by decide) (bI_0.mpr hx) <|
      cw_iconst (v := -1) (pc := 8) dX9_waver_8 (by decide) <|
      cw_iret (pc := 9) dX9_waver_9 hR <|
      ⟨by rw [waverA, if_neg hx], Same.rf⟩
theorem allB_s (f : Nat → Bool) (i : Nat) : allB f (i + 1) = (allB f i && f i) := rfl
def seF (s : Row) (p : Nat) (ln : Nat → Nat) : Nat → Bool := fun i => !decide (s (91 + i) = nI p) || decide (nI (ln (nN (s (96 + i)))) = s (101 + i))
theorem se_n {s : Row} {p k : Nat} {ln : Nat → Nat} (h : s 34 = nI k) (hk : k ≤ 5) : seenB s p ln = allB (seF s p ln) k := by unfold seenB; rw [h, nN_nI (by omega)]; rfl
set_option maxHeartbeats 4000000 in
set_option maxRecDepth 100000 in
theorem c_X9_isAsSeen {E : Ev} {μ : Mem} {s : Row} (hs : μ 68 = s) {code : PCo} {mk : Nat} (hP : InvP s code mk) {n : Nat} (hIS : InvS s n) {p l : Nat} (hp : p < 6) (hl : l ≤ 8) : AM E yX9_isAsSeen cX9_isAsSeen 5 (some .boolean) 4 [.ref 67, .int (nI p), .int (nI l)] μ (fun r μ' => r = some (.int (if seenB s p (lnS s code p l) then 1 else 0)) ∧ Same MS μ μ') := by
  refine am_of (own := RX9) (L := [.ref 67, .int (nI p), .int (nI l), .null, .null]) (by decide) rfl (Nat.le_of_ble_eq_true rfl) rfl (fun Γ hR => ?_)
  subst hs
  obtain ⟨k, hk, e34, hks⟩ := hIS
  refine cw_aload_n (pc := 0) dX9_isAsSeen_0 rfl rfl <|
    cw_iload_n (pc := 1) dX9_isAsSeen_1 rfl rfl <|
    cw_iload_n (pc := 2) dX9_isAsSeen_2 rfl rfl <|
    cw_invP (q := 67) (pc := 3) dX9_isAsSeen_3 (c_X9_scoreFrom rfl hP hp hl) rfl vX9_150 sh_67 (by decide) rfl rfl rfl (by decide) <|
    ?_
  rintro _ m1 ⟨rfl, ln1, -, -, s1⟩
  have e68 := s1.r68
  refine cw_pop (pc := 6) dX9_isAsSeen_6 rfl <|
    cw_iconst (v := 1) (pc := 7) dX9_isAsSeen_7 (by decide) <|
    cw_istore_n (L' := [_, _, _, _, _]) (pc := 8) dX9_isAsSeen_8 rfl (by decide) rfl rfl <|
    cw_iconst (v := 0) (pc := 9) dX9_isAsSeen_9 (by decide) <|
    cw_istore (L' := [_, _, _, _, _]) (pc := 10) dX9_isAsSeen_10 (by decide) rfl rfl <|
    ?_
  refine cw_for (σ := Int32) k (fun i a m => m = m1 ∧ a = (if allB (seF (μ 68) p (lnS (μ 68) code p l)) i then 1 else 0)) (fun i a => [.ref 67, .int (nI p), .int (nI l), .int a, .int (nI i)]) ?_ ?_ 0 1 _ (Nat.zero_le _) ⟨rfl, rfl⟩
  · rintro a m ⟨rfl, ea⟩
    refine cw_iload (pc := 12) dX9_isAsSeen_12 rfl <|
      cw_aload_n (pc := 14) dX9_isAsSeen_14 rfl rfl <|
      cw_getR (q := 67) (t := 68) (pc := 15) dX9_isAsSeen_15 fX9_9 sh_67 (by decide) rfl <|
      cw_bipush (v := 34) (pc := 18) dX9_isAsSeen_18 (by decide) <|
      cw_ial (q := 68) (jn := 34) (pc := 20) dX9_isAsSeen_20 sh_68 rfl (by decide) (by decide) <|
      ?_
    rw [e68, e34]
    refine cw_icmp_ge_T (tgt := 82) (pc := 21) dX9_isAsSeen_21 (by decide) (Int32.le_refl _) <|
      cw_iload_n (pc := 82) dX9_isAsSeen_82 rfl rfl <|
      cw_zret (pc := 83) dX9_isAsSeen_83 hR (by rw [ea]; split <;> decide) <|
      ⟨by rw [ea, se_n e34 hk], s1⟩
  · rintro i a m hik ⟨rfl, ea⟩ ih
    have hsu := allB_s (seF (μ 68) p (lnS (μ 68) code p l)) i
    obtain ⟨⟨q, hq, eq⟩, ⟨t, ht, et⟩, y, hy, ey⟩ := hks i hik
    have hF : seF (μ 68) p (lnS (μ 68) code p l) i = (!decide (nI q = nI p) || decide (nI (lnS (μ 68) code p l t) = nI y)) := by unfold seF; rw [eq, et, ey, nN_nI (by omega)]
    by_cases ha : a = 0
    · have hA : allB (seF (μ 68) p (lnS (μ 68) code p l)) i = false := by revert ea; rw [ha]; cases allB (seF (μ 68) p (lnS (μ 68) code p l)) i <;> simp
      rw [hA, Bool.false_and] at hsu
      refine cw_iload (pc := 12) dX9_isAsSeen_12 rfl <|
        cw_aload_n (pc := 14) dX9_isAsSeen_14 rfl rfl <|
        cw_getR (q := 67) (t := 68) (pc := 15) dX9_isAsSeen_15 fX9_9 sh_67 (by decide) rfl <|
        cw_bipush (v := 34) (pc := 18) dX9_isAsSeen_18 (by decide) <|
        cw_ial (q := 68) (jn := 34) (pc := 20) dX9_isAsSeen_20 sh_68 rfl (by decide) (by decide) <|
        ?_
      rw [e68, e34]
      refine cw_icmp_ge_F (tgt := 82) (pc := 21) dX9_isAsSeen_21 (by decide) (nI_ge hik (by omega)) <|
        cw_iload_n (pc := 24) dX9_isAsSeen_24 rfl rfl <|
        cw_if_eq_T (tgt := 74) (pc := 25) dX9_isAsSeen_25 (by decide) ha <|
        cw_iconst (v := 0) (pc := 74) dX9_isAsSeen_74 (by decide) <|
        cw_istore_n (L' := [_, _, _, _, _]) (pc := 75) dX9_isAsSeen_75 rfl (by decide) rfl rfl <|
        cw_iincL (L' := [_, _, _, _, _]) (c := 1) (pc := 76) dX9_isAsSeen_76 rfl (by decide) (by decide) rfl rfl <|
        ?_
      rw [nI_1 i]
      refine cw_goto (tgt := 12) (pc := 79) dX9_isAsSeen_79 (by decide) <|
        ?_
      exact ih _ _ ⟨rfl, by rw [hsu]; rfl⟩
    · have hA : allB (seF (μ 68) p (lnS (μ 68) code p l)) i = true := by revert ea; intro ea; cases h : allB (seF (μ 68) p (lnS (μ 68) code p l)) i with | true => rfl | false => rw [h] at ea; exact absurd ea ha
      rw [hA, Bool.true_and, hF] at hsu
      by_cases h1 : nI q = nI p
      · by_cases h2 : nI (lnS (μ 68) code p l t) = nI y
        · refine cw_iload (pc := 12) dX9_isAsSeen_12 rfl <|
            cw_aload_n (pc := 14) dX9_isAsSeen_14 rfl rfl <|
            cw_getR (q := 67) (t := 68) (pc := 15) dX9_isAsSeen_15 fX9_9 sh_67 (by decide) rfl <|
            cw_bipush (v := 34) (pc := 18) dX9_isAsSeen_18 (by decide) <|
            cw_ial (q := 68) (jn := 34) (pc := 20) dX9_isAsSeen_20 sh_68 rfl (by decide) (by decide) <|
            ?_
          rw [e68, e34]
          refine cw_icmp_ge_F (tgt := 82) (pc := 21) dX9_isAsSeen_21 (by decide) (nI_ge hik (by omega)) <|
            cw_iload_n (pc := 24) dX9_isAsSeen_24 rfl rfl <|
            cw_if_eq_F (tgt := 74) (pc := 25) dX9_isAsSeen_25 (by decide) ha <|
            cw_aload_n (pc := 28) dX9_isAsSeen_28 rfl rfl <|
            cw_getR (q := 67) (t := 68) (pc := 29) dX9_isAsSeen_29 fX9_9 sh_67 (by decide) rfl <|
            cw_bipush (v := 91) (pc := 32) dX9_isAsSeen_32 (by decide) <|
            cw_iload (pc := 34) dX9_isAsSeen_34 rfl <|
            cw_iadd (pc := 36) dX9_isAsSeen_36 <|
            cw_ial (q := 68) (jn := (91 + i)) (pc := 37) dX9_isAsSeen_37 sh_68 (nx_add rfl rfl) (by omega) (by decide) <|
            ?_
          rw [e68, eq]
          refine cw_iload_n (pc := 38) dX9_isAsSeen_38 rfl rfl <|
            cw_icmp_ne_F (tgt := 70) (pc := 39) dX9_isAsSeen_39 (by decide) h1 <|
            cw_aload_n (pc := 42) dX9_isAsSeen_42 rfl rfl <|
            cw_getR (q := 67) (t := 73) (pc := 43) dX9_isAsSeen_43 fX9_28 sh_67 (by decide) rfl <|
            cw_aload_n (pc := 46) dX9_isAsSeen_46 rfl rfl <|
            cw_getR (q := 67) (t := 68) (pc := 47) dX9_isAsSeen_47 fX9_9 sh_67 (by decide) rfl <|
            cw_bipush (v := 96) (pc := 50) dX9_isAsSeen_50 (by decide) <|
            cw_iload (pc := 52) dX9_isAsSeen_52 rfl <|
            cw_iadd (pc := 54) dX9_isAsSeen_54 <|
            cw_ial (q := 68) (jn := (96 + i)) (pc := 55) dX9_isAsSeen_55 sh_68 (nx_add rfl rfl) (by omega) (by decide) <|
            ?_
          rw [e68, et]
          refine cw_ial (q := 73) (jn := t) (pc := 56) dX9_isAsSeen_56 sh_73 rfl (by omega) (by decide) <|
            ?_
          rw [ln1 t ht]
          refine cw_aload_n (pc := 57) dX9_isAsSeen_57 rfl rfl <|
            cw_getR (q := 67) (t := 68) (pc := 58) dX9_isAsSeen_58 fX9_9 sh_67 (by decide) rfl <|
            cw_bipush (v := 101) (pc := 61) dX9_isAsSeen_61 (by decide) <|
            cw_iload (pc := 63) dX9_isAsSeen_63 rfl <|
            cw_iadd (pc := 65) dX9_isAsSeen_65 <|
            cw_ial (q := 68) (jn := (101 + i)) (pc := 66) dX9_isAsSeen_66 sh_68 (nx_add rfl rfl) (by omega) (by decide) <|
            ?_
          rw [e68, ey]
          refine cw_icmp_ne_F (tgt := 74) (pc := 67) dX9_isAsSeen_67 (by decide) h2 <|
            cw_iconst (v := 1) (pc := 70) dX9_isAsSeen_70 (by decide) <|
            cw_goto (tgt := 75) (pc := 71) dX9_isAsSeen_71 (by decide) <|
            cw_istore_n (L' := [_, _, _, _, _]) (pc := 75) dX9_isAsSeen_75 rfl (by decide) rfl rfl <|
            cw_iincL (L' := [_, _, _, _, _]) (c := 1) (pc := 76) dX9_isAsSeen_76 rfl (by decide) (by decide) rfl rfl <|
            ?_
          rw [nI_1 i]
          refine cw_goto (tgt := 12) (pc := 79) dX9_isAsSeen_79 (by decide) <|
            ?_
          exact ih _ _ ⟨rfl, by rw [hsu]; simp [h2]⟩
        · refine cw_iload (pc := 12) dX9_isAsSeen_12 rfl <|
            cw_aload_n (pc := 14) dX9_isAsSeen_14 rfl rfl <|
            cw_getR (q := 67) (t := 68) (pc := 15) dX9_isAsSeen_15 fX9_9 sh_67 (by decide) rfl <|
            cw_bipush (v := 34) (pc := 18) dX9_isAsSeen_18 (by decide) <|
            cw_ial (q := 68) (jn := 34) (pc := 20) dX9_isAsSeen_20 sh_68 rfl (by decide) (by decide) <|
            ?_
          rw [e68, e34]
          refine cw_icmp_ge_F (tgt := 82) (pc := 21) dX9_isAsSeen_21 (by decide) (nI_ge hik (by omega)) <|
            cw_iload_n (pc := 24) dX9_isAsSeen_24 rfl rfl <|
            cw_if_eq_F (tgt := 74) (pc := 25) dX9_isAsSeen_25 (by decide) ha <|
            cw_aload_n (pc := 28) dX9_isAsSeen_28 rfl rfl <|
            cw_getR (q := 67) (t := 68) (pc := 29) dX9_isAsSeen_29 fX9_9 sh_67 (by decide) rfl <|
            cw_bipush (v := 91) (pc := 32) dX9_isAsSeen_32 (by decide) <|
            cw_iload (pc := 34) dX9_isAsSeen_34 rfl <|
            cw_iadd (pc := 36) dX9_isAsSeen_36 <|
            cw_ial (q := 68) (jn := (91 + i)) (pc := 37) dX9_isAsSeen_37 sh_68 (nx_add rfl rfl) (by omega) (by decide) <|
            ?_
          rw [e68, eq]
          refine cw_iload_n (pc := 38) dX9_isAsSeen_38 rfl rfl <|
            cw_icmp_ne_F (tgt := 70) (pc := 39) dX9_isAsSeen_39 (by decide) h1 <|
            cw_aload_n (pc := 42) dX9_isAsSeen_42 rfl rfl <|
            cw_getR (q := 67) (t := 73) (pc := 43) dX9_isAsSeen_43 fX9_28 sh_67 (by decide) rfl <|
            cw_aload_n (pc := 46) dX9_isAsSeen_46 rfl rfl <|
            cw_getR (q := 67) (t := 68) (pc := 47) dX9_isAsSeen_47 fX9_9 sh_67 (by decide) rfl <|
            cw_bipush (v := 96) (pc := 50) dX9_isAsSeen_50 (by decide) <|
            cw_iload (pc := 52) dX9_isAsSeen_52 rfl <|
            cw_iadd (pc := 54) dX9_isAsSeen_54 <|
            cw_ial (q := 68) (jn := (96 + i)) (pc := 55) dX9_isAsSeen_55 sh_68 (nx_add rfl rfl) (by omega) (by decide) <|
            ?_
          rw [e68, et]
          refine cw_ial (q := 73) (jn := t) (pc := 56) dX9_isAsSeen_56 sh_73 rfl (by omega) (by decide) <|
            ?_
          rw [ln1 t ht]
          refine cw_aload_n (pc := 57) dX9_isAsSeen_57 rfl rfl <|
            cw_getR (q := 67) (t := 68) (pc := 58) dX9_isAsSeen_58 fX9_9 sh_67 (by decide) rfl <|
            cw_bipush (v := 101) (pc := 61) dX9_isAsSeen_61 (by decide) <|
            cw_iload (pc := 63) dX9_isAsSeen_63 rfl <|
            cw_iadd (pc := 65) dX9_isAsSeen_65 <|
            cw_ial (q := 68) (jn := (101 + i)) (pc := 66) dX9_isAsSeen_66 sh_68 (nx_add rfl rfl) (by omega) (by decide) <|
            ?_
          rw [e68, ey]
          refine cw_icmp_ne_T (tgt := 74) (pc := 67) dX9_isAsSeen_67 (by decide) h2 <|
            cw_iconst (v := 0) (pc := 74) dX9_isAsSeen_74 (by decide) <|
            cw_istore_n (L' := [_, _, _, _, _]) (pc := 75) dX9_isAsSeen_75 rfl (by decide) rfl rfl <|
            cw_iincL (L' := [_, _, _, _, _]) (c := 1) (pc := 76) dX9_isAsSeen_76 rfl (by decide) (by decide) rfl rfl <|
            ?_
          rw [nI_1 i]
          refine cw_goto (tgt := 12) (pc := 79) dX9_isAsSeen_79 (by decide) <|
            ?_
          exact ih _ _ ⟨rfl, by rw [hsu]; simp [h1, h2]⟩
      · refine cw_iload (pc := 12) dX9_isAsSeen_12 rfl <|
          cw_aload_n (pc := 14) dX9_isAsSeen_14 rfl rfl <|
          cw_getR (q := 67) (t := 68) (pc := 15) dX9_isAsSeen_15 fX9_9 sh_67 (by decide) rfl <|
          cw_bipush (v := 34) (pc := 18) dX9_isAsSeen_18 (by decide) <|
          cw_ial (q := 68) (jn := 34) (pc := 20) dX9_isAsSeen_20 sh_68 rfl (by decide) (by decide) <|
          ?_
        rw [e68, e34]
        refine cw_icmp_ge_F (tgt := 82) (pc := 21) dX9_isAsSeen_21 (by decide) (nI_ge hik (by omega)) <|
          cw_iload_n (pc := 24) dX9_isAsSeen_24 rfl rfl <|
          cw_if_eq_F (tgt := 74) (pc := 25) dX9_isAsSeen_25 (by decide) ha <|
          cw_aload_n (pc := 28) dX9_isAsSeen_28 rfl rfl <|
          cw_getR (q := 67) (t := 68) (pc := 29) dX9_isAsSeen_29 fX9_9 sh_67 (by decide) rfl <|
          cw_bipush (v := 91) (pc := 32) dX9_isAsSeen_32 (by decide) <|
          cw_iload (pc := 34) dX9_isAsSeen_34 rfl <|
          cw_iadd (pc := 36) dX9_isAsSeen_36 <|
          cw_ial (q := 68) (jn := (91 + i)) (pc := 37) dX9_isAsSeen_37 sh_68 (nx_add rfl rfl) (by omega) (by decide) <|
          ?_
        rw [e68, eq]
        refine cw_iload_n (pc := 38) dX9_isAsSeen_38 rfl rfl <|
          cw_icmp_ne_T (tgt := 70) (pc := 39) dX9_isAsSeen_39 (by decide) h1 <|
          cw_iconst (v := 1) (pc := 70) dX9_isAsSeen_70 (by decide) <|
          cw_goto (tgt := 75) (pc := 71) dX9_isAsSeen_71 (by decide) <|
          cw_istore_n (L' := [_, _, _, _, _]) (pc := 75) dX9_isAsSeen_75 rfl (by decide) rfl rfl <|
          cw_iincL (L' := [_, _, _, _, _]) (c := 1) (pc := 76) dX9_isAsSeen_76 rfl (by decide) (by decide) rfl rfl <|
          ?_
        rw [nI_1 i]
        refine cw_goto (tgt := 12) (pc := 79) dX9_isAsSeen_79 (by decide) <|
          ?_
        exact ih _ _ ⟨rfl, by rw [hsu]; simp [h1]⟩
set_option maxHeartbeats 4000000 in
set_option maxRecDepth 100000 in
theorem c_X9_from {E : Ev} {μ : Mem} {s : Row} (hs : μ 68 = s) {n mk : Nat} {code : PCo} (hI : Inv s n code mk) {x : Int32} : AM E yX9_from cX9_from 4 (some .int) 5 [.ref 67, .int x] μ (fun r μ' => r = some (.int (fromA s code x)) ∧ Same MQr μ μ') := by
  refine am_of (own := RX9) (L := [.ref 67, .int x, .null, .null]) (by decide) rfl (Nat.le_of_ble_eq_true rfl) rfl (fun Γ hR => ?_)
  subst hs
  have hI0 := hI
  obtain ⟨hIL, hIP, hIC, hIS, hIW, hIB, hIT⟩ := hI
  have hn := hIL.1
  have h6 := hIL.2.1
  by_cases hx : 0 ≤ x ∧ x < μ 68 31
  · obtain ⟨p, hp, rfl⟩ := isM_of hn h6 hx
    have hp6 : p < 6 := by omega
    refine cw_aload_n (pc := 0) dX9_from_0 rfl rfl <|
      cw_iload_n (pc := 1) dX9_from_1 rfl rfl <|
      cw_invI (q := 67) (pc := 2) dX9_from_2 (c_X9_isMan hn h6) rfl vX9_162 sh_67 (by decide) rfl rfl rfl (by decide) <|
      cw_if_ne_T (tgt := 10) (pc := 5) dX9_from_5 (by decide) (bI_n0.mpr hx) <|
      cw_iconst (v := 0) (pc := 10) dX9_from_10 (by decide) <|
      cw_istore_n (L' := [_, _, _, _]) (pc := 11) dX9_from_11 rfl (by decide) rfl rfl <|
      cw_iconst (v := 0) (pc := 12) dX9_from_12 (by decide) <|
      cw_istore_n (L' := [_, _, _, _]) (pc := 13) dX9_from_13 rfl (by decide) rfl rfl <|
      ?_
    refine cw_for (σ := Unit) 9 (fun i _ m => Same MS μ m) (fun i _ => [.ref 67, .int (nI p), .int (bitsI (fun l => seenB (μ 68) p (lnS (μ 68) code p l)) i), .int (nI i)]) ?_ ?_ 0 () _ (Nat.zero_le _) Same.rf
    · rintro ⟨⟩ m hS
      refine cw_iload_n (pc := 14) dX9_from_14 rfl rfl <|
        cw_bipush (v := 9) (pc := 15) dX9_from_15 (by decide) <|
        cw_icmp_ge_T (tgt := 45) (pc := 17) dX9_from_17 (by decide) (by decide) <|
        cw_iload_n (pc := 45) dX9_from_45 rfl rfl <|
        cw_iret (pc := 46) dX9_from_46 hR <|
        ⟨by rw [fromA, if_pos hx, nN_nI (by omega)], MS_MQ hS⟩
    · rintro i ⟨⟩ m hi hS ih
      have e68 := hS.r68
      have hsu := bitsI_s (fun l => seenB (μ 68) p (lnS (μ 68) code p l)) i
      cases hb : seenB (μ 68) p (lnS (μ 68) code p i)
      · rw [hb] at hsu
        refine cw_iload_n (pc := 14) dX9_from_14 rfl rfl <|
          cw_bipush (v := 9) (pc := 15) dX9_from_15 (by decide) <|
          cw_icmp_ge_F (tgt := 45) (pc := 17) dX9_from_17 (by decide) (nI_ge (b := 9) hi (by decide)) <|
          cw_iload_n (pc := 20) dX9_from_20 rfl rfl <|
          cw_aload_n (pc := 21) dX9_from_21 rfl rfl <|
          cw_iload_n (pc := 22) dX9_from_22 rfl rfl <|
          cw_iload_n (pc := 23) dX9_from_23 rfl rfl <|
          cw_invP (q := 67) (pc := 24) dX9_from_24 (c_X9_isAsSeen e68 hIP hIS hp6 (l := i) (by omega)) rfl vX9_206 sh_67 (by decide) rfl rfl rfl (by decide) <|
          ?_
        rintro _ m2 ⟨rfl, s2⟩
        refine cw_if_eq_T (tgt := 36) (pc := 27) dX9_from_27 (by decide) (by rw [hb]; rfl) <|
          cw_iconst (v := 0) (pc := 36) dX9_from_36 (by decide) <|
          cw_ior (pc := 37) dX9_from_37 <|
          ?_
        rw [if_neg (by decide)] at hsu
        rw [Int32.or_zero]
        refine cw_istore_n (L' := [_, _, _, _]) (pc := 38) dX9_from_38 rfl (by decide) rfl rfl <|
          cw_iincL (L' := [_, _, _, _]) (c := 1) (pc := 39) dX9_from_39 rfl (by decide) (by decide) rfl rfl <|
          ?_
        rw [nI_1 i]
        refine cw_goto (tgt := 14) (pc := 42) dX9_from_42 (by decide) <|
          ?_
        have := ih () m2 (hS.tr s2)
        rw [hsu] at this
        exact this
      · rw [hb] at hsu
        refine cw_iload_n (pc := 14) dX9_from_14 rfl rfl <|
          cw_bipush (v := 9) (pc := 15) dX9_from_15 (by decide) <|
          cw_icmp_ge_F (tgt := 45) (pc := 17) dX9_from_17 (by decide) (nI_ge (b := 9) hi (by decide)) <|
          cw_iload_n (pc := 20) dX9_from_20 rfl rfl <|
          cw_aload_n (pc := 21) dX9_from_21 rfl rfl <|
          cw_iload_n (pc := 22) dX9_from_22 rfl rfl <|
          cw_iload_n (pc := 23) dX9_from_23 rfl rfl <|
          cw_invP (q := 67) (pc := 24) dX9_from_24 (c_X9_isAsSeen e68 hIP hIS hp6 (l := i) (by omega)) rfl vX9_206 sh_67 (by decide) rfl rfl rfl (by decide) <|
          ?_
        rintro _ m2 ⟨rfl, s2⟩
        refine cw_if_eq_F (tgt := 36) (pc := 27) dX9_from_27 (by decide) (by rw [hb]; decide) <|
          cw_iconst (v := 1) (pc := 30) dX9_from_30 (by decide) <|
          cw_iload_n (pc := 31) dX9_from_31 rfl rfl <|
          cw_ishl (pc := 32) dX9_from_32 <|
          cw_goto (tgt := 37) (pc := 33) dX9_from_33 (by decide) <|
          cw_ior (pc := 37) dX9_from_37 <|
          ?_
        rw [if_pos rfl] at hsu
        refine cw_istore_n (L' := [_, _, _, _]) (pc := 38) dX9_from_38 rfl (by decide) rfl rfl <|
          cw_iincL (L' := [_, _, _, _]) (c := 1) (pc := 39) dX9_from_39 rfl (by decide) (by decide) rfl rfl <|
          ?_
        rw [nI_1 i]
        refine cw_goto (tgt := 14) (pc := 42) dX9_from_42 (by decide) <|
          ?_
        have := ih () m2 (hS.tr s2)
        rw [hsu] at this
        exact this
  · refine cw_aload_n (pc := 0) dX9_from_0 rfl rfl <|
      cw_iload_n (pc := 1) dX9_from_1 rfl rfl <|
      cw_invI (q := 67) (pc := 2) dX9_from_2 (c_X9_isMan hn h6) rfl vX9_162 sh_67 (by decide) rfl rfl rfl (by decide) <|
      cw_if_ne_F (tgt := 10) (pc := 5) dX9_from_5 (by decide) (bI_0.mpr hx) <|
      cw_iconst (v := -1) (pc := 8) dX9_from_8 (by decide) <|
      cw_iret (pc := 9) dX9_from_9 hR <|
      ⟨by rw [fromA, if_neg hx], Same.rf⟩
theorem st_uu {μ : Mem} {k i : Nat} {v w : Int32} : st (st μ k i v) k i w = st μ k i w := by
  funext a b
  rw [st_at, st_at, st_at]
  split
  · rfl
  · rfl
theorem firm_same {μ m : Mem} {j : Nat} (h : ∀ q i, ¬ MS q i → ¬ (q = 68 ∧ i = j) → m q i = μ q i) : Same MQr μ (st m 68 j (μ 68 j)) := by
  intro q i hF
  rw [st_at]
  by_cases e : q = 68 ∧ i = j
  · rw [if_pos e, e.1, e.2]
  · rw [if_neg e]; exact h q i (by unfold MQr at hF; unfold MS; omega) e
theorem seen_up {s : Row} {p j : Nat} {v : Int32} {ln : Nat → Nat} (hj : 45 ≤ j ∧ j ≤ 56) : seenB (upd s j v) p ln = seenB s p ln := by
  unfold seenB
  rw [show upd s j v 34 = s 34 from un (by omega)]
  congr 1
  funext i
  rw [show upd s j v (91 + i) = s (91 + i) from un (by omega), show upd s j v (96 + i) = s (96 + i) from un (by omega), show upd s j v (101 + i) = s (101 + i) from un (by omega)]
theorem nine_nn {i : Nat} (h : i ≤ 9) : ¬ nI (9 - i) < 0 := nI_pos (by omega)
theorem InvP.cg' {s : Row} {code : PCo} {mk j : Nat} {v : Int32} (h : InvP s code mk) (hj : 39 ≤ j ∧ j ≤ 56) : InvP (upd s j v) code mk := by
  obtain ⟨⟨np, h1, h2, h3⟩, h4⟩ := h
  refine ⟨⟨np, h1, by rw [un (by omega)]; exact h2, ?_⟩, h4⟩
  rcases h3 with ⟨a, b, c⟩ | ⟨k, a, b, c, d, f⟩
  · exact Or.inl ⟨by rw [un (by omega)]; exact a, b, c⟩
  · exact Or.inr ⟨k, a, by rw [un (by omega)]; exact b, by rw [un (by omega)]; exact c, by rw [un (by omega)]; exact d, fun i q hq => by rw [un (by omega)]; exact f i q hq⟩
theorem InvS.up {s : Row} {n j : Nat} {v : Int32} (h : InvS s n) (hj : 39 ≤ j ∧ j ≤ 56) : InvS (upd s j v) n := by
  obtain ⟨k, h1, h2, h3⟩ := h
  exact ⟨k, h1, by rw [un (by omega)]; exact h2, fun i hi => by rw [un (by omega), un (by omega), un (by omega)]; exact h3 i hi⟩
set_option maxHeartbeats 4000000 in
set_option maxRecDepth 100000 in
theorem c_X9_firm {E : Ev} {μ : Mem} {s : Row} (hs : μ 68 = s) {n mk : Nat} {code : PCo} (hI : Inv s n code mk) {x w : Int32} : AM E yX9_firm cX9_firm 8 (some .int) 5 [.ref 67, .int x, .int w] μ (fun r μ' => r = some (.int (firmA s code x w)) ∧ Same MQr μ μ') := by
  refine am_of (own := RX9) (L := [.ref 67, .int x, .int w, .null, .null, .null, .null, .null]) (by decide) rfl (Nat.le_of_ble_eq_true rfl) rfl (fun Γ hR => ?_)
  subst hs
  have hI0 := hI
  obtain ⟨hIL, hIP, hIC, hIS, hIW, hIB, hIT⟩ := hI
  have hn := hIL.1
  have h6 := hIL.2.1
  by_cases hx : 0 ≤ x ∧ x < μ 68 31
  · by_cases hw : 0 ≤ w ∧ w ≤ 1
    · obtain ⟨p, hp, rfl⟩ := isM_of hn h6 hx
      have hp6 : p < 6 := by omega
      obtain ⟨pg, hpg, epg⟩ := (hIL.2.2.2.2.2.2 p hp).1
      have epS : pgS (μ 68) p = pg := by unfold pgS; rw [epg]; exact nI_clamp (by omega)
      refine cw_aload_n (pc := 0) dX9_firm_0 rfl rfl <|
        cw_iload_n (pc := 1) dX9_firm_1 rfl rfl <|
        cw_invI (q := 67) (pc := 2) dX9_firm_2 (c_X9_isMan hn h6) rfl vX9_162 sh_67 (by decide) rfl rfl rfl (by decide) <|
        cw_if_eq_F (tgt := 17) (pc := 5) dX9_firm_5 (by decide) (bI_n0.mpr hx) <|
        cw_iload_n (pc := 8) dX9_firm_8 rfl rfl <|
        cw_iconst (v := 0) (pc := 9) dX9_firm_9 (by decide) <|
        cw_iconst (v := 1) (pc := 10) dX9_firm_10 (by decide) <|
        cw_insI (pc := 11) dX9_firm_11 c_X9_in vX9_44 rfl rfl rfl (by decide) <|
        cw_if_ne_T (tgt := 19) (pc := 14) dX9_firm_14 (by decide) (bI_n0.mpr hw) <|
        cw_aload_n (pc := 19) dX9_firm_19 rfl rfl <|
        cw_getR (q := 67) (t := 68) (pc := 20) dX9_firm_20 fX9_9 sh_67 (by decide) rfl <|
        cw_bipush (v := 45) (pc := 23) dX9_firm_23 (by decide) <|
        cw_iload_n (pc := 25) dX9_firm_25 rfl rfl <|
        cw_iadd (pc := 26) dX9_firm_26 <|
        cw_ial (q := 68) (jn := (45 + p)) (pc := 27) dX9_firm_27 sh_68 (nx_add rfl rfl) (by omega) (by decide) <|
        cw_istore_n (L' := [_, _, _, _, _, _, _, _]) (pc := 28) dX9_firm_28 rfl (by decide) rfl rfl <|
        cw_iconst (v := 0) (pc := 29) dX9_firm_29 (by decide) <|
        cw_istore (L' := [_, _, _, _, _, _, _, _]) (pc := 30) dX9_firm_30 (by decide) rfl rfl <|
        cw_bipush (v := -5) (pc := 32) dX9_firm_32 (by decide) <|
        cw_istore (L' := [_, _, _, _, _, _, _, _]) (pc := 34) dX9_firm_34 (by decide) rfl rfl <|
        cw_bipush (v := 9) (pc := 36) dX9_firm_36 (by decide) <|
        cw_istore (L' := [_, _, _, _, _, _, _, _]) (pc := 38) dX9_firm_38 (by decide) rfl rfl <|
        ?_
      refine cw_for (σ := Int32 × Int32 × Int32 × Value) 10 (fun i a m => a.1 = nI (firmF (firmB (μ 68) code p) i).1 ∧ a.2.1 = (firmF (firmB (μ 68) code p) i).2 ∧ a.2.2.1 = 9 - nI i ∧ ∀ q j, ¬ MS q j → ¬ (q = 68 ∧ j = 45 + p) → m q j = μ q j) (fun _ a => [.ref 67, .int (nI p), .int w, .int (μ 68 (45 + p)), .int a.1, .int a.2.1, .int a.2.2.1, a.2.2.2]) ?_ ?_ 0 (0, -5, 9, .null) μ (Nat.zero_le _) ⟨rfl, rfl, rfl, fun _ _ _ _ => rfl⟩
      · rintro ⟨a, b, x', z⟩ m ⟨ha, hb, hx1, hF⟩
        dsimp only at ha hb hx1 ⊢
        subst hx1
        by_cases h0 : w = 0
        · refine cw_iload (pc := 40) dX9_firm_40 rfl <|
            cw_if_lt_T (tgt := 107) (pc := 42) dX9_firm_42 (by decide) (by decide) <|
            cw_aload_n (pc := 107) dX9_firm_107 rfl rfl <|
            cw_getR (q := 67) (t := 68) (pc := 108) dX9_firm_108 fX9_9 sh_67 (by decide) rfl <|
            cw_bipush (v := 45) (pc := 111) dX9_firm_111 (by decide) <|
            cw_iload_n (pc := 113) dX9_firm_113 rfl rfl <|
            cw_iadd (pc := 114) dX9_firm_114 <|
            cw_iload_n (pc := 115) dX9_firm_115 rfl rfl <|
            cw_ias (q := 68) (jn := (45 + p)) (pc := 116) dX9_firm_116 sh_68 (nx_add rfl rfl) (by omega) (by decide) <|
            cw_iload_n (pc := 117) dX9_firm_117 rfl rfl <|
            cw_if_ne_F (tgt := 126) (pc := 118) dX9_firm_118 (by decide) h0 <|
            cw_iload (pc := 121) dX9_firm_121 rfl <|
            cw_goto (tgt := 128) (pc := 123) dX9_firm_123 (by decide) <|
            cw_iret (pc := 128) dX9_firm_128 hR <|
            ⟨by rw [firmA, if_pos ⟨hx, hw⟩, if_pos h0, nN_nI (by omega), ha], firm_same hF⟩
        · refine cw_iload (pc := 40) dX9_firm_40 rfl <|
            cw_if_lt_T (tgt := 107) (pc := 42) dX9_firm_42 (by decide) (by decide) <|
            cw_aload_n (pc := 107) dX9_firm_107 rfl rfl <|
            cw_getR (q := 67) (t := 68) (pc := 108) dX9_firm_108 fX9_9 sh_67 (by decide) rfl <|
            cw_bipush (v := 45) (pc := 111) dX9_firm_111 (by decide) <|
            cw_iload_n (pc := 113) dX9_firm_113 rfl rfl <|
            cw_iadd (pc := 114) dX9_firm_114 <|
            cw_iload_n (pc := 115) dX9_firm_115 rfl rfl <|
            cw_ias (q := 68) (jn := (45 + p)) (pc := 116) dX9_firm_116 sh_68 (nx_add rfl rfl) (by omega) (by decide) <|
            cw_iload_n (pc := 117) dX9_firm_117 rfl rfl <|
            cw_if_ne_T (tgt := 126) (pc := 118) dX9_firm_118 (by decide) h0 <|
            cw_iload (pc := 126) dX9_firm_126 rfl <|
            cw_iret (pc := 128) dX9_firm_128 hR <|
            ⟨by rw [firmA, if_pos ⟨hx, hw⟩, if_neg h0, nN_nI (by omega), hb], firm_same hF⟩
      · rintro i ⟨a, b, x', z⟩ m hi ⟨ha, hb, hx1, hF⟩ ih
        dsimp only at ha hb hx1 ⊢
        rw [nine_dn (by omega)] at hx1
        subst hx1
        have e68 : (st m 68 (45 + p) (nI (9 - i))) 68 = upd (μ 68) (45 + p) (nI (9 - i)) := by
          funext j
          rw [st_row]
          by_cases e : j = 45 + p
          · subst e; rw [us, us]
          · rw [un e, un e]; exact hF _ _ (by unfold MS; omega) (fun h => e h.2)
        have r51 : (st m 68 (45 + p) (nI (9 - i))) 68 (51 + p) = nI pg := by rw [e68, un (by omega)]; exact epg
        have hfb : firmB (μ 68) code p (9 - i) = seenB (upd (μ 68) (45 + p) (nI (9 - i))) p (lnS (upd (μ 68) (45 + p) (nI (9 - i))) code p pg) := by unfold firmB; rw [epS, seen_up (by omega)]
        have hsu := firmF_s (firmB (μ 68) code p) i
        have hP1 : InvP (upd (μ 68) (45 + p) (nI (9 - i))) code mk := hIP.cg' (by omega)
        have hS1 : InvS (upd (μ 68) (45 + p) (nI (9 - i))) n := hIS.up (by omega)
        cases hv : seenB (upd (μ 68) (45 + p) (nI (9 - i))) p (lnS (upd (μ 68) (45 + p) (nI (9 - i))) code p pg)
        · rw [hfb, hv] at hsu
          rw [if_neg (by decide)] at hsu
          refine cw_iload (pc := 40) dX9_firm_40 rfl <|
            cw_if_lt_F (tgt := 107) (pc := 42) dX9_firm_42 (by decide) (nine_nn (by omega)) <|
            cw_aload_n (pc := 45) dX9_firm_45 rfl rfl <|
            cw_getR (q := 67) (t := 68) (pc := 46) dX9_firm_46 fX9_9 sh_67 (by decide) rfl <|
            cw_bipush (v := 45) (pc := 49) dX9_firm_49 (by decide) <|
            cw_iload_n (pc := 51) dX9_firm_51 rfl rfl <|
            cw_iadd (pc := 52) dX9_firm_52 <|
            cw_iload (pc := 53) dX9_firm_53 rfl <|
            cw_ias (q := 68) (jn := (45 + p)) (pc := 55) dX9_firm_55 sh_68 (nx_add rfl rfl) (by omega) (by decide) <|
            cw_aload_n (pc := 56) dX9_firm_56 rfl rfl <|
            cw_iload_n (pc := 57) dX9_firm_57 rfl rfl <|
            cw_aload_n (pc := 58) dX9_firm_58 rfl rfl <|
            cw_getR (q := 67) (t := 68) (pc := 59) dX9_firm_59 fX9_9 sh_67 (by decide) rfl <|
            cw_bipush (v := 51) (pc := 62) dX9_firm_62 (by decide) <|
            cw_iload_n (pc := 64) dX9_firm_64 rfl rfl <|
            cw_iadd (pc := 65) dX9_firm_65 <|
            cw_ial (q := 68) (jn := (51 + p)) (pc := 66) dX9_firm_66 sh_68 (nx_add rfl rfl) (by omega) (by decide) <|
            ?_
          rw [r51]
          refine cw_invP (q := 67) (pc := 67) dX9_firm_67 (c_X9_isAsSeen e68 hP1 hS1 hp6 (l := pg) hpg) rfl vX9_206 sh_67 (by decide) rfl rfl rfl (by decide) <|
            ?_
          rintro _ m2 ⟨rfl, s2⟩
          refine cw_istore (L' := [_, _, _, _, _, _, _, _]) (pc := 70) dX9_firm_70 (by decide) rfl rfl <|
            cw_iload (pc := 72) dX9_firm_72 rfl <|
            cw_iload (pc := 74) dX9_firm_74 rfl <|
            cw_if_eq_T (tgt := 83) (pc := 76) dX9_firm_76 (by decide) (by rw [hv]; rfl) <|
            cw_iconst (v := 0) (pc := 83) dX9_firm_83 (by decide) <|
            cw_iadd (pc := 84) dX9_firm_84 <|
            cw_istore (L' := [_, _, _, _, _, _, _, _]) (pc := 85) dX9_firm_85 (by decide) rfl rfl <|
            cw_iload (pc := 87) dX9_firm_87 rfl <|
            cw_if_eq_T (tgt := 97) (pc := 89) dX9_firm_89 (by decide) (by rw [hv]; rfl) <|
            cw_iload (pc := 97) dX9_firm_97 rfl <|
            cw_istore (L' := [_, _, _, _, _, _, _, _]) (pc := 99) dX9_firm_99 (by decide) rfl rfl <|
            cw_iincL (L' := [_, _, _, _, _, _, _, _]) (c := -1) (pc := 101) dX9_firm_101 rfl (by decide) (by decide) rfl rfl <|
            cw_goto (tgt := 40) (pc := 104) dX9_firm_104 (by decide) <|
            ?_
          exact ih (_, _, _, _) _ ⟨by rw [hsu, Int32.add_zero]; exact ha, by rw [hsu]; exact hb, nine_s (by omega), (fun q j h1 h2 => (s2 q j h1).trans ((st_at.trans (if_neg h2)).trans (hF q j h1 h2)))⟩
        · rw [hfb, hv] at hsu
          rw [if_pos rfl] at hsu
          refine cw_iload (pc := 40) dX9_firm_40 rfl <|
            cw_if_lt_F (tgt := 107) (pc := 42) dX9_firm_42 (by decide) (nine_nn (by omega)) <|
            cw_aload_n (pc := 45) dX9_firm_45 rfl rfl <|
            cw_getR (q := 67) (t := 68) (pc := 46) dX9_firm_46 fX9_9 sh_67 (by decide) rfl <|
            cw_bipush (v := 45) (pc := 49) dX9_firm_49 (by decide) <|
            cw_iload_n (pc := 51) dX9_firm_51 rfl rfl <|
            cw_iadd (pc := 52) dX9_firm_52 <|
            cw_iload (pc := 53) dX9_firm_53 rfl <|
            cw_ias (q := 68) (jn := (45 + p)) (pc := 55) dX9_firm_55 sh_68 (nx_add rfl rfl) (by omega) (by decide) <|
            cw_aload_n (pc := 56) dX9_firm_56 rfl rfl <|
            cw_iload_n (pc := 57) dX9_firm_57 rfl rfl <|
            cw_aload_n (pc := 58) dX9_firm_58 rfl rfl <|
            cw_getR (q := 67) (t := 68) (pc := 59) dX9_firm_59 fX9_9 sh_67 (by decide) rfl <|
            cw_bipush (v := 51) (pc := 62) dX9_firm_62 (by decide) <|
            cw_iload_n (pc := 64) dX9_firm_64 rfl rfl <|
            cw_iadd (pc := 65) dX9_firm_65 <|
            cw_ial (q := 68) (jn := (51 + p)) (pc := 66) dX9_firm_66 sh_68 (nx_add rfl rfl) (by omega) (by decide) <|
            ?_
          rw [r51]
          refine cw_invP (q := 67) (pc := 67) dX9_firm_67 (c_X9_isAsSeen e68 hP1 hS1 hp6 (l := pg) hpg) rfl vX9_206 sh_67 (by decide) rfl rfl rfl (by decide) <|
            ?_
          rintro _ m2 ⟨rfl, s2⟩
          refine cw_istore (L' := [_, _, _, _, _, _, _, _]) (pc := 70) dX9_firm_70 (by decide) rfl rfl <|
            cw_iload (pc := 72) dX9_firm_72 rfl <|
            cw_iload (pc := 74) dX9_firm_74 rfl <|
            cw_if_eq_F (tgt := 83) (pc := 76) dX9_firm_76 (by decide) (by rw [hv]; decide) <|
            cw_iconst (v := 1) (pc := 79) dX9_firm_79 (by decide) <|
            cw_goto (tgt := 84) (pc := 80) dX9_firm_80 (by decide) <|
            cw_iadd (pc := 84) dX9_firm_84 <|
            cw_istore (L' := [_, _, _, _, _, _, _, _]) (pc := 85) dX9_firm_85 (by decide) rfl rfl <|
            cw_iload (pc := 87) dX9_firm_87 rfl <|
            cw_if_eq_F (tgt := 97) (pc := 89) dX9_firm_89 (by decide) (by rw [hv]; decide) <|
            cw_iload (pc := 92) dX9_firm_92 rfl <|
            cw_goto (tgt := 99) (pc := 94) dX9_firm_94 (by decide) <|
            cw_istore (L' := [_, _, _, _, _, _, _, _]) (pc := 99) dX9_firm_99 (by decide) rfl rfl <|
            cw_iincL (L' := [_, _, _, _, _, _, _, _]) (c := -1) (pc := 101) dX9_firm_101 rfl (by decide) (by decide) rfl rfl <|
            cw_goto (tgt := 40) (pc := 104) dX9_firm_104 (by decide) <|
            ?_
          exact ih (_, _, _, _) _ ⟨by rw [hsu]; dsimp only at ha ⊢; rw [ha]; exact nI_1 _, (congrArg Prod.snd hsu).symm, nine_s (by omega), (fun q j h1 h2 => (s2 q j h1).trans ((st_at.trans (if_neg h2)).trans (hF q j h1 h2)))⟩
    · refine cw_aload_n (pc := 0) dX9_firm_0 rfl rfl <|
        cw_iload_n (pc := 1) dX9_firm_1 rfl rfl <|
        cw_invI (q := 67) (pc := 2) dX9_firm_2 (c_X9_isMan hn h6) rfl vX9_162 sh_67 (by decide) rfl rfl rfl (by decide) <|
        cw_if_eq_F (tgt := 17) (pc := 5) dX9_firm_5 (by decide) (bI_n0.mpr hx) <|
        cw_iload_n (pc := 8) dX9_firm_8 rfl rfl <|
        cw_iconst (v := 0) (pc := 9) dX9_firm_9 (by decide) <|
        cw_iconst (v := 1) (pc := 10) dX9_firm_10 (by decide) <|
        cw_insI (pc := 11) dX9_firm_11 c_X9_in vX9_44 rfl rfl rfl (by decide) <|
        cw_if_ne_F (tgt := 19) (pc := 14) dX9_firm_14 (by decide) (bI_0.mpr hw) <|
        cw_iconst (v := -1) (pc := 17) dX9_firm_17 (by decide) <|
        cw_iret (pc := 18) dX9_firm_18 hR <|
        ⟨by rw [firmA, if_neg (fun h => hw h.2)], Same.rf⟩
  · refine cw_aload_n (pc := 0) dX9_firm_0 rfl rfl <|
      cw_iload_n (pc := 1) dX9_firm_1 rfl rfl <|
      cw_invI (q := 67) (pc := 2) dX9_firm_2 (c_X9_isMan hn h6) rfl vX9_162 sh_67 (by decide) rfl rfl rfl (by decide) <|
      cw_if_eq_T (tgt := 17) (pc := 5) dX9_firm_5 (by decide) (bI_0.mpr hx) <|
      cw_iconst (v := -1) (pc := 17) dX9_firm_17 (by decide) <|
      cw_iret (pc := 18) dX9_firm_18 hR <|
      ⟨by rw [firmA, if_neg (fun h => hx h.1)], Same.rf⟩
set_option maxHeartbeats 4000000 in
set_option maxRecDepth 100000 in
theorem c_X9_bar {E : Ev} {μ : Mem} {s : Row} (hs : μ 68 = s) {n mk : Nat} {code : PCo} (hI : Inv s n code mk) {x : Int32} : AM E yX9_bar cX9_bar 5 (some .int) 5 [.ref 67, .int x] μ (fun r μ' => r = some (.int (barA s code n x)) ∧ Same MQr μ μ') := by
  refine am_of (own := RX9) (L := [.ref 67, .int x, .null, .null, .null]) (by decide) rfl (Nat.le_of_ble_eq_true rfl) rfl (fun Γ hR => ?_)
  subst hs
  have hI0 := hI
  obtain ⟨hIL, hIP, hIC, hIS, hIW, hIB, hIT⟩ := hI
  have hn := hIL.1
  have h6 := hIL.2.1
  by_cases hx : 0 ≤ x ∧ x ≤ 6
  · refine cw_iload_n (pc := 0) dX9_bar_0 rfl rfl <|
      cw_iconst (v := 0) (pc := 1) dX9_bar_1 (by decide) <|
      cw_bipush (v := 6) (pc := 2) dX9_bar_2 (by decide) <|
      cw_insI (pc := 4) dX9_bar_4 c_X9_in vX9_44 rfl rfl rfl (by decide) <|
      cw_if_ne_T (tgt := 13) (pc := 7) dX9_bar_7 (by decide) (bI_n0.mpr hx) <|
      cw_iconst (v := 0) (pc := 13) dX9_bar_13 (by decide) <|
      cw_istore_n (L' := [_, _, _, _, _]) (pc := 14) dX9_bar_14 rfl (by decide) rfl rfl <|
      ?_
    refine cw_for (σ := Value × Value) 61 (fun j _ m => Same MS μ m ∧ barA (μ 68) code n x = fstI (fun m => decide (nI (cntB (barB (μ 68) code m) n) ≤ x)) j (61 - j)) (fun j a => [.ref 67, .int x, .int (nI j), a.1, a.2]) ?_ ?_ 0 (.null, .null) _ (Nat.zero_le _) ⟨Same.rf, by rw [barA, if_pos hx]⟩
    · rintro ⟨z1, z2⟩ m ⟨hS, ef⟩
      refine cw_iload_n (pc := 15) dX9_bar_15 rfl rfl <|
        cw_bipush (v := 60) (pc := 16) dX9_bar_16 (by decide) <|
        cw_icmp_gt_T (tgt := 88) (pc := 18) dX9_bar_18 (by decide) (by decide) <|
        cw_bipush (v := -5) (pc := 88) dX9_bar_88 (by decide) <|
        cw_iret (pc := 90) dX9_bar_90 hR <|
        ⟨by rw [ef]; rfl, MS_MQ hS⟩
    · rintro j ⟨z1, z2⟩ m hj ⟨hS, ef⟩ ih
      rw [fstI_s hj] at ef
      refine cw_iload_n (pc := 15) dX9_bar_15 rfl rfl <|
        cw_bipush (v := 60) (pc := 16) dX9_bar_16 (by decide) <|
        cw_icmp_gt_F (tgt := 88) (pc := 18) dX9_bar_18 (by decide) (fun h => absurd h (Int32.not_lt.mpr (nI_le (b := 60) (by omega) (by decide)))) <|
        cw_iconst (v := 0) (pc := 21) dX9_bar_21 (by decide) <|
        cw_istore_n (L' := [_, _, _, _, _]) (pc := 22) dX9_bar_22 rfl (by decide) rfl rfl <|
        cw_iconst (v := 0) (pc := 23) dX9_bar_23 (by decide) <|
        cw_istore (L' := [_, _, _, _, _]) (pc := 24) dX9_bar_24 (by decide) rfl rfl <|
        ?_
      refine cw_for (σ := Unit) n (fun i _ m => Same MS μ m) (fun i _ => [.ref 67, .int x, .int (nI j), .int (nI (cntB (barB (μ 68) code j) i)), .int (nI i)]) ?_ ?_ 0 () _ (Nat.zero_le _) hS
      · rintro ⟨⟩ m2 hS2
        have e68 := hS2.r68
        by_cases hc : nI (cntB (barB (μ 68) code j) n) ≤ x
        · refine cw_iload (pc := 26) dX9_bar_26 rfl <|
            cw_aload_n (pc := 28) dX9_bar_28 rfl rfl <|
            cw_getR (q := 67) (t := 68) (pc := 29) dX9_bar_29 fX9_9 sh_67 (by decide) rfl <|
            cw_bipush (v := 31) (pc := 32) dX9_bar_32 (by decide) <|
            cw_ial (q := 68) (jn := 31) (pc := 34) dX9_bar_34 sh_68 rfl (by decide) (by decide) <|
            ?_
          rw [e68, hn]
          refine cw_icmp_ge_T (tgt := 75) (pc := 35) dX9_bar_35 (by decide) (Int32.le_refl _) <|
            cw_iload_n (pc := 75) dX9_bar_75 rfl rfl <|
            cw_iload_n (pc := 76) dX9_bar_76 rfl rfl <|
            cw_icmp_gt_F (tgt := 82) (pc := 77) dX9_bar_77 (by decide) (fun h => absurd h (Int32.not_lt.mpr hc)) <|
            cw_iload_n (pc := 80) dX9_bar_80 rfl rfl <|
            cw_iret (pc := 81) dX9_bar_81 hR <|
            ⟨by rw [ef, decide_eq_true hc]; rfl, MS_MQ hS2⟩
        · refine cw_iload (pc := 26) dX9_bar_26 rfl <|
            cw_aload_n (pc := 28) dX9_bar_28 rfl rfl <|
            cw_getR (q := 67) (t := 68) (pc := 29) dX9_bar_29 fX9_9 sh_67 (by decide) rfl <|
            cw_bipush (v := 31) (pc := 32) dX9_bar_32 (by decide) <|
            cw_ial (q := 68) (jn := 31) (pc := 34) dX9_bar_34 sh_68 rfl (by decide) (by decide) <|
            ?_
          rw [e68, hn]
          refine cw_icmp_ge_T (tgt := 75) (pc := 35) dX9_bar_35 (by decide) (Int32.le_refl _) <|
            cw_iload_n (pc := 75) dX9_bar_75 rfl rfl <|
            cw_iload_n (pc := 76) dX9_bar_76 rfl rfl <|
            cw_icmp_gt_T (tgt := 82) (pc := 77) dX9_bar_77 (by decide) (Int32.not_le.mp hc) <|
            cw_iincL (L' := [_, _, _, _, _]) (c := 1) (pc := 82) dX9_bar_82 rfl (by decide) (by decide) rfl rfl <|
            ?_
          rw [nI_1 j]
          refine cw_goto (tgt := 15) (pc := 85) dX9_bar_85 (by decide) <|
            ?_
          exact ih (_, _) m2 ⟨hS2, by rw [ef, decide_eq_false hc]; rfl⟩
      · rintro i ⟨⟩ m2 hin hS2 ih2
        have e68 := hS2.r68
        have hsu := cntB_s (barB (μ 68) code j) i
        by_cases hna : μ 68 (7 + i) = 0
        · by_cases hc : nI j ≤ scP (μ 68) code i
          · have hb : barB (μ 68) code j i = true := by unfold barB naS; simp [hna, hc]
            rw [hb] at hsu
            rw [show Bool.toNat true = 1 from rfl] at hsu
            refine cw_iload (pc := 26) dX9_bar_26 rfl <|
              cw_aload_n (pc := 28) dX9_bar_28 rfl rfl <|
              cw_getR (q := 67) (t := 68) (pc := 29) dX9_bar_29 fX9_9 sh_67 (by decide) rfl <|
              cw_bipush (v := 31) (pc := 32) dX9_bar_32 (by decide) <|
              cw_ial (q := 68) (jn := 31) (pc := 34) dX9_bar_34 sh_68 rfl (by decide) (by decide) <|
              ?_
            rw [e68, hn]
            refine cw_icmp_ge_F (tgt := 75) (pc := 35) dX9_bar_35 (by decide) (nI_ge hin (by omega)) <|
              cw_iload_n (pc := 38) dX9_bar_38 rfl rfl <|
              cw_aload_n (pc := 39) dX9_bar_39 rfl rfl <|
              cw_getR (q := 67) (t := 68) (pc := 40) dX9_bar_40 fX9_9 sh_67 (by decide) rfl <|
              cw_bipush (v := 7) (pc := 43) dX9_bar_43 (by decide) <|
              cw_iload (pc := 45) dX9_bar_45 rfl <|
              cw_iadd (pc := 47) dX9_bar_47 <|
              cw_ial (q := 68) (jn := (7 + i)) (pc := 48) dX9_bar_48 sh_68 (nx_add rfl rfl) (by omega) (by decide) <|
              ?_
            rw [e68]
            refine cw_if_ne_F (tgt := 66) (pc := 49) dX9_bar_49 (by decide) hna <|
              cw_aload_n (pc := 52) dX9_bar_52 rfl rfl <|
              cw_iload (pc := 53) dX9_bar_53 rfl <|
              cw_invP (q := 67) (pc := 55) dX9_bar_55 (c_X9_scoreOf e68 hIP hIL hin) rfl vX9_154 sh_67 (by decide) rfl rfl rfl (by decide) <|
              ?_
            rintro _ m3 ⟨rfl, s3⟩
            refine cw_iload_n (pc := 58) dX9_bar_58 rfl rfl <|
              cw_icmp_lt_F (tgt := 66) (pc := 59) dX9_bar_59 (by decide) (Int32.not_lt.mpr hc) <|
              cw_iconst (v := 1) (pc := 62) dX9_bar_62 (by decide) <|
              cw_goto (tgt := 67) (pc := 63) dX9_bar_63 (by decide) <|
              cw_iadd (pc := 67) dX9_bar_67 <|
              ?_
            rw [nI_1]
            refine cw_istore_n (L' := [_, _, _, _, _]) (pc := 68) dX9_bar_68 rfl (by decide) rfl rfl <|
              cw_iincL (L' := [_, _, _, _, _]) (c := 1) (pc := 69) dX9_bar_69 rfl (by decide) (by decide) rfl rfl <|
              ?_
            rw [nI_1 i]
            refine cw_goto (tgt := 26) (pc := 72) dX9_bar_72 (by decide) <|
              ?_
            have := ih2 () m3 (hS2.tr s3)
            rw [hsu] at this
            exact this
          · have hb : barB (μ 68) code j i = false := by unfold barB naS; simp [hna, hc]
            rw [hb] at hsu
            rw [show Bool.toNat false = 0 from rfl, Nat.add_zero] at hsu
            refine cw_iload (pc := 26) dX9_bar_26 rfl <|
              cw_aload_n (pc := 28) dX9_bar_28 rfl rfl <|
              cw_getR (q := 67) (t := 68) (pc := 29) dX9_bar_29 fX9_9 sh_67 (by decide) rfl <|
              cw_bipush (v := 31) (pc := 32) dX9_bar_32 (by decide) <|
              cw_ial (q := 68) (jn := 31) (pc := 34) dX9_bar_34 sh_68 rfl (by decide) (by decide) <|
              ?_
            rw [e68, hn]
            refine cw_icmp_ge_F (tgt := 75) (pc := 35) dX9_bar_35 (by decide) (nI_ge hin (by omega)) <|
              cw_iload_n (pc := 38) dX9_bar_38 rfl rfl <|
              cw_aload_n (pc := 39) dX9_bar_39 rfl rfl <|
              cw_getR (q := 67) (t := 68) (pc := 40) dX9_bar_40 fX9_9 sh_67 (by decide) rfl <|
              cw_bipush (v := 7) (pc := 43) dX9_bar_43 (by decide) <|
              cw_iload (pc := 45) dX9_bar_45 rfl <|
              cw_iadd (pc := 47) dX9_bar_47 <|
              cw_ial (q := 68) (jn := (7 + i)) (pc := 48) dX9_bar_48 sh_68 (nx_add rfl rfl) (by omega) (by decide) <|
              ?_
            rw [e68]
            refine cw_if_ne_F (tgt := 66) (pc := 49) dX9_bar_49 (by decide) hna <|
              cw_aload_n (pc := 52) dX9_bar_52 rfl rfl <|
              cw_iload (pc := 53) dX9_bar_53 rfl <|
              cw_invP (q := 67) (pc := 55) dX9_bar_55 (c_X9_scoreOf e68 hIP hIL hin) rfl vX9_154 sh_67 (by decide) rfl rfl rfl (by decide) <|
              ?_
            rintro _ m3 ⟨rfl, s3⟩
            refine cw_iload_n (pc := 58) dX9_bar_58 rfl rfl <|
              cw_icmp_lt_T (tgt := 66) (pc := 59) dX9_bar_59 (by decide) (Int32.not_le.mp hc) <|
              cw_iconst (v := 0) (pc := 66) dX9_bar_66 (by decide) <|
              cw_iadd (pc := 67) dX9_bar_67 <|
              ?_
            rw [Int32.add_zero]
            refine cw_istore_n (L' := [_, _, _, _, _]) (pc := 68) dX9_bar_68 rfl (by decide) rfl rfl <|
              cw_iincL (L' := [_, _, _, _, _]) (c := 1) (pc := 69) dX9_bar_69 rfl (by decide) (by decide) rfl rfl <|
              ?_
            rw [nI_1 i]
            refine cw_goto (tgt := 26) (pc := 72) dX9_bar_72 (by decide) <|
              ?_
            have := ih2 () m3 (hS2.tr s3)
            rw [hsu] at this
            exact this
        · have hb : barB (μ 68) code j i = false := by unfold barB naS; simp [hna]
          rw [hb] at hsu
          rw [show Bool.toNat false = 0 from rfl, Nat.add_zero] at hsu
          refine cw_iload (pc := 26) dX9_bar_26 rfl <|
            cw_aload_n (pc := 28) dX9_bar_28 rfl rfl <|
            cw_getR (q := 67) (t := 68) (pc := 29) dX9_bar_29 fX9_9 sh_67 (by decide) rfl <|
            cw_bipush (v := 31) (pc := 32) dX9_bar_32 (by decide) <|
            cw_ial (q := 68) (jn := 31) (pc := 34) dX9_bar_34 sh_68 rfl (by decide) (by decide) <|
            ?_
          rw [e68, hn]
          refine cw_icmp_ge_F (tgt := 75) (pc := 35) dX9_bar_35 (by decide) (nI_ge hin (by omega)) <|
            cw_iload_n (pc := 38) dX9_bar_38 rfl rfl <|
            cw_aload_n (pc := 39) dX9_bar_39 rfl rfl <|
            cw_getR (q := 67) (t := 68) (pc := 40) dX9_bar_40 fX9_9 sh_67 (by decide) rfl <|
            cw_bipush (v := 7) (pc := 43) dX9_bar_43 (by decide) <|
            cw_iload (pc := 45) dX9_bar_45 rfl <|
            cw_iadd (pc := 47) dX9_bar_47 <|
            cw_ial (q := 68) (jn := (7 + i)) (pc := 48) dX9_bar_48 sh_68 (nx_add rfl rfl) (by omega) (by decide) <|
            ?_
          rw [e68]
          refine cw_if_ne_T (tgt := 66) (pc := 49) dX9_bar_49 (by decide) hna <|
            cw_iconst (v := 0) (pc := 66) dX9_bar_66 (by decide) <|
            cw_iadd (pc := 67) dX9_bar_67 <|
            ?_
          rw [Int32.add_zero]
          refine cw_istore_n (L' := [_, _, _, _, _]) (pc := 68) dX9_bar_68 rfl (by decide) rfl rfl <|
            cw_iincL (L' := [_, _, _, _, _]) (c := 1) (pc := 69) dX9_bar_69 rfl (by decide) (by decide) rfl rfl <|
            ?_
          rw [nI_1 i]
          refine cw_goto (tgt := 26) (pc := 72) dX9_bar_72 (by decide) <|
            ?_
          have := ih2 () m2 hS2
          rw [hsu] at this
          exact this
  · refine cw_iload_n (pc := 0) dX9_bar_0 rfl rfl <|
      cw_iconst (v := 0) (pc := 1) dX9_bar_1 (by decide) <|
      cw_bipush (v := 6) (pc := 2) dX9_bar_2 (by decide) <|
      cw_insI (pc := 4) dX9_bar_4 c_X9_in vX9_44 rfl rfl rfl (by decide) <|
      cw_if_ne_F (tgt := 13) (pc := 7) dX9_bar_7 (by decide) (bI_0.mpr hx) <|
      cw_bipush (v := -2) (pc := 10) dX9_bar_10 (by decide) <|
      cw_iret (pc := 12) dX9_bar_12 hR <|
      ⟨by rw [barA, if_neg hx], Same.rf⟩
