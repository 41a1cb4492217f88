/-! ===== ACTS and THE TRACE ===== -/
def actP (k : Nat) (m x : Int32) : Int32 × List Int32 := if k = 1 ∨ k = 4 then (x * 3 + m, [11, 1]) else if k = 5 then ((x + m) ^^^ m, [51, 1]) else (x + m, [1])
def actQ (kd : Nat) (v m x : Int32) : Int32 × List Int32 := ((actP kd m x).1 - v, 2 :: (actP kd m x).2)
def actL (kd k : Nat) (v m x : Int32) : Int32 × List Int32 := if k = 2 ∨ k = 5 then (-(actQ kd v m x).1, 21 :: (actQ kd v m x).2) else if k = 6 then ((actQ kd v m x).1 + v, 61 :: (actQ kd v m x).2) else actQ kd v m x
def actT (kd : Nat) (v m x : Int32) : Int32 × List Int32 := ((actL kd kd v m x).1 * 2, 3 :: (actL kd kd v m x).2)
def actS (kd k : Nat) (v m x : Int32) : Int32 × List Int32 := if k = 3 ∨ k = 6 then ((actT kd v m x).1 ^^^ 7, 31 :: (actT kd v m x).2) else if k = 4 then ((actT kd v m (x - 1)).1 + (actP kd m 2).1, 41 :: ((actT kd v m (x - 1)).2 ++ (actP kd m 2).2)) else actT kd v m x
theorem actP_len (k : Nat) (m x : Int32) : (actP k m x).2.length ≤ 2 := by unfold actP; split <;> (try split) <;> simp
theorem actQ_len (kd : Nat) (v m x : Int32) : (actQ kd v m x).2.length ≤ 3 := by have := actP_len kd m x; simp only [actQ, List.length_cons]; omega
theorem actL_len (kd k : Nat) (v m x : Int32) : (actL kd k v m x).2.length ≤ 4 := by
  have := actQ_len kd v m x
  unfold actL; split
  · simp only [List.length_cons]; omega
  · split
    · simp only [List.length_cons]; omega
    · omega
theorem actT_len (kd : Nat) (v m x : Int32) : (actT kd v m x).2.length ≤ 5 := by have := actL_len kd kd v m x; simp only [actT, List.length_cons]; omega
theorem actS_len (kd k : Nat) (v m x : Int32) : (actS kd k v m x).2.length ≤ 8 := by
  have := actT_len kd v m x
  have := actT_len kd v m (x - 1)
  have := actP_len kd m 2
  unfold actS; split
  · simp only [List.length_cons]; omega
  · split
    · simp only [List.length_cons, List.length_append]; omega
    · omega
/-- a TRACE in the memory: how many, and which -/
def TrAt (μ : Mem) (q f qa : Nat) (l : List Int32) : Prop := μ q f = nI l.length ∧ l.length ≤ 20 ∧ ∀ (i : Nat) (b : Int32), l[i]? = some b → μ qa i = b
theorem TrAt.mo {μ μ' : Mem} {q f qa : Nat} {l : List Int32} (h : TrAt μ q f qa l) (e : μ' q f = μ q f) (e2 : ∀ i, μ' qa i = μ qa i) : TrAt μ' q f qa l := ⟨e.trans h.1, h.2.1, fun i b hb => (e2 i).trans (h.2.2 i b hb)⟩
def DF : Nat → Nat → Prop := fun q i => (q = 65 ∧ i = 1) ∨ q = 66
theorem TrAt.ad {μ : Mem} {q f qa : Nat} (hq : q ≠ qa) {l : List Int32} (h : TrAt μ q f qa l) (hl : l.length < 20) (b : Int32) : TrAt (st (st μ qa l.length b) q f (nI (l.length + 1))) q f qa (l ++ [b]) := by
  refine ⟨by rw [st_eq, List.length_append]; rfl, by rw [List.length_append]; exact hl, fun i c hc => ?_⟩
  rw [st_at, if_neg (fun e => hq e.1.symm), st_at]
  by_cases e : i = l.length
  · subst e; simp at hc; subst hc; simp
  · rw [if_neg (fun h => e h.2)]
    have hi := (List.getElem?_eq_some_iff.mp hc).1
    rw [List.length_append] at hi
    simp at hi
    rw [List.getElem?_append_left (by omega)] at hc
    exact h.2.2 i c hc
/-- the body of a KIND for an act -/
def bodI (k a : Nat) : Int32 := if k = 0 then tabB a else if k ≤ 3 then (if tabB (k * 3 + a) = 0 then tabB a else tabB (k * 3 + a)) else (if tabB (k * 3 + a) = 0 then (if tabB ((k - 3) * 3 + a) = 0 then tabB a else tabB ((k - 3) * 3 + a)) else tabB (k * 3 + a))
theorem sh_65' : shape[65]? = some (1, 0, [some 66, none, none, none, none]) := rfl
set_option maxHeartbeats 4000000 in
set_option maxRecDepth 100000 in
theorem c_X1_bodyOf {E : Ev} {μ : Mem} {k a : Nat} (hk : k ≤ 6) (ha : a ≤ 2) : AM E yX1_bodyOf cX1_bodyOf 5 (some .int) 1 [.int (nI k), .int (nI a)] μ (fun r μ' => r = some (.int (bodI k a)) ∧ μ' = μ) := by
  refine am_of (own := RX1) (L := [.int (nI k), .int (nI a), .null, .null, .null]) (by decide) rfl (Nat.le_of_ble_eq_true rfl) rfl (fun Γ hR => ?_)
  have step : ∀ (K i : Nat) (z : Value), K ≤ 6 → i < 7 → (tabB (K * 3 + a) = 0 → ∀ z', CW E Γ cX1_bodyOf 5 RX1 1 4 [.int (nI k), .int (nI a), .int (tabA K), .int (nI (i + 1)), z'] [] μ) → (¬ tabB (K * 3 + a) = 0 → tabB (K * 3 + a) = bodI k a) → CW E Γ cX1_bodyOf 5 RX1 1 4 [.int (nI k), .int (nI a), .int (nI K), .int (nI i), z] [] μ := by
    intro K i z hK hi h1 h2
    refine cw_iload_n (pc := 4) dX1_bodyOf_4 rfl rfl <|
      cw_bipush (v := 7) (pc := 5) dX1_bodyOf_5 (by decide) <|
      cw_icmp_ge_F (tgt := 48) (pc := 7) dX1_bodyOf_7 (by decide) (nI_ge (b := 7) hi (by decide)) <|
      cw_iload_n (pc := 10) dX1_bodyOf_10 rfl rfl <|
      cw_insNI (pc := 11) dX1_bodyOf_11 c_X8_isKind vX1_55 rfl rfl rfl (by decide) <|
      cw_if_eq_F (tgt := 48) (pc := 14) dX1_bodyOf_14 (by decide) (bI_n0.mpr (ix_in (n := 7) (by omega) (by decide))) <|
      cw_bodies (pc := 17) dX1_bodyOf_17 zX1_58 <|
      cw_iload_n (pc := 20) dX1_bodyOf_20 rfl rfl <|
      cw_iconst (v := 3) (pc := 21) dX1_bodyOf_21 (by decide) <|
      cw_imul (pc := 22) dX1_bodyOf_22 <|
      cw_iload_n (pc := 23) dX1_bodyOf_23 rfl rfl <|
      cw_iadd (pc := 24) dX1_bodyOf_24 <|
      cw_tabB (pc := 25) dX1_bodyOf_25 (by rw [show nI K * 3 + nI a = nI (K * 3 + a) from nx_add (nx_mul rfl rfl) rfl]; exact vp_in_nI (by omega) (by decide)) <|
      ?_
    rw [show nI K * 3 + nI a = nI (K * 3 + a) from nx_add (nx_mul rfl rfl) rfl, nI_clamp (by omega)]
    refine cw_istore (L' := [_, _, _, _, _]) (pc := 26) dX1_bodyOf_26 (by decide) rfl rfl <|
      cw_iload (pc := 28) dX1_bodyOf_28 rfl <|
      cw_if_eq (tgt := 36) (pc := 30) dX1_bodyOf_30 (by decide) (fun c30 => ?_) (fun c30 => ?_)
    · refine cw_aboveN (pc := 36) dX1_bodyOf_36 zX1_52 <|
        cw_iload_n (pc := 39) dX1_bodyOf_39 rfl rfl <|
        cw_tabA (pc := 40) dX1_bodyOf_40 (vp_in_nI (by omega) (by decide)) <|
        ?_
      rw [nI_clamp (by omega)]
      refine cw_istore_n (L' := [_, _, _, _, _]) (pc := 41) dX1_bodyOf_41 rfl (by decide) rfl rfl <|
        cw_iincL (L' := [_, _, _, _, _]) (c := 1) (pc := 42) dX1_bodyOf_42 rfl (by decide) (by decide) rfl rfl <|
        ?_
      rw [nI_1]
      refine cw_goto (tgt := 4) (pc := 45) dX1_bodyOf_45 (by decide) <|
        ?_
      exact h1 c30 _
    · refine cw_iload (pc := 33) dX1_bodyOf_33 rfl <|
        cw_iret (pc := 35) dX1_bodyOf_35 hR <|
        ⟨by rw [h2 c30], rfl⟩
  refine cw_iload_n (pc := 0) dX1_bodyOf_0 rfl rfl <|
    cw_istore_n (L' := [_, _, _, _, _]) (pc := 1) dX1_bodyOf_1 rfl (by decide) rfl rfl <|
    cw_iconst (v := 0) (pc := 2) dX1_bodyOf_2 (by decide) <|
    cw_istore_n (L' := [_, _, _, _, _]) (pc := 3) dX1_bodyOf_3 rfl (by decide) rfl rfl <|
    ?_
  have h0 : ∀ (i : Nat) (z : Value), i < 7 → tabB a = bodI k a → CW E Γ cX1_bodyOf 5 RX1 1 4 [.int (nI k), .int (nI a), .int (nI 0), .int (nI i), z] [] μ := fun i z hi h => step 0 i z (by omega) hi (fun e => absurd e (by rcases (show a = 0 ∨ a = 1 ∨ a = 2 by omega) with rfl | rfl | rfl <;> decide)) (fun _ => by rw [show 0 * 3 + a = a by omega]; exact h)
  have h1 : ∀ (K i : Nat) (z : Value), 1 ≤ K → K ≤ 3 → i < 6 → (tabB (K * 3 + a) = 0 → tabB a = bodI k a) → (¬ tabB (K * 3 + a) = 0 → tabB (K * 3 + a) = bodI k a) → CW E Γ cX1_bodyOf 5 RX1 1 4 [.int (nI k), .int (nI a), .int (nI K), .int (nI i), z] [] μ := fun K i z a1 a2 hi e1 e2 => step K i z (by omega) (by omega) (fun e z' => by rw [show tabA K = nI 0 by rcases (show K = 1 ∨ K = 2 ∨ K = 3 by omega) with rfl | rfl | rfl <;> rfl]; exact h0 (i + 1) z' (by omega) (e1 e)) e2
  by_cases k0 : k = 0
  · subst k0; exact h0 0 _ (by omega) rfl
  · by_cases k3 : k ≤ 3
    · exact h1 k 0 _ (by omega) k3 (by omega) (fun e => by unfold bodI; rw [if_neg k0, if_pos k3, if_pos e]) (fun e => by unfold bodI; rw [if_neg k0, if_pos k3, if_neg e])
    · exact step k 0 _ hk (by omega) (fun e z' => by rw [show tabA k = nI (k - 3) by rcases (show k = 4 ∨ k = 5 ∨ k = 6 by omega) with rfl | rfl | rfl <;> rfl]; exact h1 (k - 3) 1 z' (by omega) (by omega) (by omega) (fun e' => by unfold bodI; rw [if_neg k0, if_neg k3, if_pos e, if_pos e']) (fun e' => by unfold bodI; rw [if_neg k0, if_neg k3, if_pos e, if_neg e'])) (fun e => by unfold bodI; rw [if_neg k0, if_neg k3, if_neg e])
set_option maxHeartbeats 4000000 in
set_option maxRecDepth 100000 in
theorem c_X1_begins {E : Ev} {μ : Mem} {l : List Int32} (h : TrAt μ 65 1 66 l) (hl : l.length < 20) {b : Int32} : AM E yX1_begins cX1_begins 2 none 0 [.ref 65, .int b] μ (fun r μ' => r = none ∧ TrAt μ' 65 1 66 (l ++ [b]) ∧ Same DF μ μ') := by
  refine am_of (own := RX1) (L := [.ref 65, .int b]) (by decide) rfl (Nat.le_of_ble_eq_true rfl) rfl (fun Γ hR => ?_)
  have e1 : (st μ 66 l.length b) 65 1 = nI l.length := (st_at.trans (if_neg (by omega))).trans h.1
  refine cw_aload_n (pc := 0) dX1_begins_0 rfl rfl <|
    cw_getI (q := 65) (pc := 1) dX1_begins_1 fX1_15 sh_65 (by decide) rfl <|
    ?_
  rw [h.1]
  refine cw_if_lt_F (tgt := 26) (pc := 4) dX1_begins_4 (by decide) (nI_pos (by omega)) <|
    cw_aload_n (pc := 7) dX1_begins_7 rfl rfl <|
    cw_getI (q := 65) (pc := 8) dX1_begins_8 fX1_15 sh_65 (by decide) rfl <|
    ?_
  rw [h.1]
  refine cw_bipush (v := 20) (pc := 11) dX1_begins_11 (by decide) <|
    cw_icmp_ge_F (tgt := 26) (pc := 13) dX1_begins_13 (by decide) (nI_ge (b := 20) hl (by decide)) <|
    cw_aload_n (pc := 16) dX1_begins_16 rfl rfl <|
    cw_getR (q := 65) (t := 66) (pc := 17) dX1_begins_17 fX1_9 sh_65 (by decide) rfl <|
    cw_aload_n (pc := 20) dX1_begins_20 rfl rfl <|
    cw_getI (q := 65) (pc := 21) dX1_begins_21 fX1_15 sh_65 (by decide) rfl <|
    ?_
  rw [h.1]
  refine cw_iload_n (pc := 24) dX1_begins_24 rfl rfl <|
    cw_ias (q := 66) (jn := l.length) (pc := 25) dX1_begins_25 sh_66 rfl hl (by decide) <|
    cw_aload_n (pc := 26) dX1_begins_26 rfl rfl <|
    cw_dup (pc := 27) dX1_begins_27 rfl <|
    cw_getI (q := 65) (pc := 28) dX1_begins_28 fX1_15 sh_65 (by decide) rfl <|
    ?_
  rw [e1]
  refine cw_iconst (v := 1) (pc := 31) dX1_begins_31 (by decide) <|
    cw_iadd (pc := 32) dX1_begins_32 <|
    ?_
  rw [nI_1]
  refine cw_putI (q := 65) (pc := 33) dX1_begins_33 pX1_15 sh_65 (by decide) rfl <|
    cw_vret (pc := 36) dX1_begins_36 hR <|
    ⟨rfl, h.ad (by decide) hl b, (Same.rf.s1 (Or.inr rfl)).s1 (Or.inl ⟨rfl, rfl⟩)⟩
set_option maxHeartbeats 4000000 in
set_option maxRecDepth 100000 in
theorem c_X1_forgets {E : Ev} {μ : Mem} : AM E yX1_forgets cX1_forgets 1 none 0 [.ref 65] μ (fun r μ' => r = none ∧ μ' = st μ 65 1 0) := by
  refine am_of (own := RX1) (L := [.ref 65]) (by decide) rfl (Nat.le_of_ble_eq_true rfl) rfl (fun Γ hR => ?_)
  refine cw_aload_n (pc := 0) dX1_forgets_0 rfl rfl <|
    cw_iconst (v := 0) (pc := 1) dX1_forgets_1 (by decide) <|
    cw_putI (q := 65) (pc := 2) dX1_forgets_2 pX1_15 sh_65 (by decide) rfl <|
    cw_vret (pc := 5) dX1_forgets_5 hR <|
    ⟨rfl, rfl⟩
def traceA (l : List Int32) (x : Int32) : Int32 := if 0 ≤ x ∧ x < nI l.length then l.getD (nN x) 0 else -1
set_option maxHeartbeats 4000000 in
set_option maxRecDepth 100000 in
theorem c_X1_bodyAt {E : Ev} {μ : Mem} {l : List Int32} (h : TrAt μ 65 1 66 l) {x : Int32} : AM E yX1_bodyAt cX1_bodyAt 2 (some .int) 0 [.ref 65, .int x] μ (fun r μ' => r = some (.int (traceA l x)) ∧ μ' = μ) := by
  refine am_of (own := RX1) (L := [.ref 65, .int x]) (by decide) rfl (Nat.le_of_ble_eq_true rfl) rfl (fun Γ hR => ?_)
  have hl := h.2.1
  by_cases hx : 0 ≤ x ∧ x < nI l.length
  · obtain ⟨p, hp, rfl⟩ := ix_of (by omega) hx
    obtain ⟨b, hb⟩ : ∃ b, l[p]? = some b := ⟨_, List.getElem?_eq_getElem hp⟩
    have e2 := h.2.2 p b hb
    refine cw_iload_n (pc := 0) dX1_bodyAt_0 rfl rfl <|
      cw_if_lt_F (tgt := 27) (pc := 1) dX1_bodyAt_1 (by decide) (nI_pos (by omega)) <|
      cw_iload_n (pc := 4) dX1_bodyAt_4 rfl rfl <|
      cw_aload_n (pc := 5) dX1_bodyAt_5 rfl rfl <|
      cw_getI (q := 65) (pc := 6) dX1_bodyAt_6 fX1_15 sh_65 (by decide) rfl <|
      ?_
    rw [h.1]
    refine cw_icmp_ge_F (tgt := 27) (pc := 9) dX1_bodyAt_9 (by decide) (nI_ge hp (by omega)) <|
      cw_iload_n (pc := 12) dX1_bodyAt_12 rfl rfl <|
      cw_bipush (v := 20) (pc := 13) dX1_bodyAt_13 (by decide) <|
      cw_icmp_ge_F (tgt := 27) (pc := 15) dX1_bodyAt_15 (by decide) (nI_ge (b := 20) (by omega) (by decide)) <|
      cw_aload_n (pc := 18) dX1_bodyAt_18 rfl rfl <|
      cw_getR (q := 65) (t := 66) (pc := 19) dX1_bodyAt_19 fX1_9 sh_65 (by decide) rfl <|
      cw_iload_n (pc := 22) dX1_bodyAt_22 rfl rfl <|
      cw_ial (q := 66) (jn := p) (pc := 23) dX1_bodyAt_23 sh_66 rfl (by omega) (by decide) <|
      ?_
    rw [e2]
    refine cw_goto (tgt := 28) (pc := 24) dX1_bodyAt_24 (by decide) <|
      cw_iret (pc := 28) dX1_bodyAt_28 hR <|
      ⟨by rw [traceA, if_pos hx, nN_nI (by omega), List.getD_eq_getElem?_getD, hb]; rfl, rfl⟩
  · by_cases h0 : x < 0
    · refine cw_iload_n (pc := 0) dX1_bodyAt_0 rfl rfl <|
        cw_if_lt_T (tgt := 27) (pc := 1) dX1_bodyAt_1 (by decide) h0 <|
        cw_iconst (v := -1) (pc := 27) dX1_bodyAt_27 (by decide) <|
        cw_iret (pc := 28) dX1_bodyAt_28 hR <|
        ⟨by rw [traceA, if_neg hx], rfl⟩
    · refine cw_iload_n (pc := 0) dX1_bodyAt_0 rfl rfl <|
        cw_if_lt_F (tgt := 27) (pc := 1) dX1_bodyAt_1 (by decide) h0 <|
        cw_iload_n (pc := 4) dX1_bodyAt_4 rfl rfl <|
        cw_aload_n (pc := 5) dX1_bodyAt_5 rfl rfl <|
        cw_getI (q := 65) (pc := 6) dX1_bodyAt_6 fX1_15 sh_65 (by decide) rfl <|
        ?_
      rw [h.1]
      refine cw_icmp_ge_T (tgt := 27) (pc := 9) dX1_bodyAt_9 (by decide) (Int32.not_lt.mp (fun z => hx ⟨Int32.not_lt.mp h0, z⟩)) <|
        cw_iconst (v := -1) (pc := 27) dX1_bodyAt_27 (by decide) <|
        cw_iret (pc := 28) dX1_bodyAt_28 hR <|
        ⟨by rw [traceA, if_neg hx], rfl⟩
set_option maxHeartbeats 4000000 in
set_option maxRecDepth 100000 in
theorem c_X1_runs_1 {E : Ev} {μ : Mem} {l : List Int32} (h : TrAt μ 65 1 66 l) {kd k dp d : Nat} {v m x : Int32} (hm : μ 65 2 = m) (hkd : μ 65 3 = nI kd) (hv : μ 65 4 = v) (hk6 : kd ≤ 6) (hk : k ≤ 6) (hd : 2 ≤ d) (hl : l.length + 1 ≤ 20) (hdp : dp + 1 ≤ 20) (hb : bodI k 0 = 1) : AM E yX1_runs cX1_runs 7 (some .int) d [.ref 65, .int (nI k), .int 0, .int x, .int (nI dp)] μ (fun r μ' => r = some (.int (x + m, ([1] : List Int32)).1) ∧ TrAt μ' 65 1 66 (l ++ (x + m, ([1] : List Int32)).2) ∧ Same DF μ μ') := by
  refine am_of (own := RX1) (L := [.ref 65, .int (nI k), .int 0, .int x, .int (nI dp), .null, .null]) (by decide) rfl (Nat.le_of_ble_eq_true rfl) rfl (fun Γ hR => ?_)
  have hbd : bodI k 0 = 1 := hb
  refine cw_iload (pc := 0) dX1_runs_0 rfl <|
    cw_bipush (v := 20) (pc := 2) dX1_runs_2 (by decide) <|
    cw_icmp_le_T (tgt := 9) (pc := 4) dX1_runs_4 (by decide) (nI_le (b := 20) (by omega) (by decide)) <|
    cw_iload_n (pc := 9) dX1_runs_9 rfl rfl <|
    cw_iload_n (pc := 10) dX1_runs_10 rfl rfl <|
    cw_insI (pc := 11) dX1_runs_11 (c_X1_bodyOf (k := k) (a := 0) hk (by decide)) vX1_44 rfl rfl rfl (by omega) <|
    ?_
  rw [hbd]
  refine cw_istore (L' := [_, _, _, _, _, _, _]) (pc := 14) dX1_runs_14 (by decide) rfl rfl <|
    cw_aload_n (pc := 16) dX1_runs_16 rfl rfl <|
    cw_iload (pc := 17) dX1_runs_17 rfl <|
    cw_invP (q := 65) (pc := 19) dX1_runs_19 (c_X1_begins h (by omega)) rfl vX1_48 sh_65 (by decide) rfl rfl rfl (by omega) <|
    ?_
  rintro _ m1 ⟨rfl, h1, s1⟩
  have hm1 : m1 65 2 = m := (s1 _ _ (by unfold DF; omega)).trans hm
  have hkd1 : m1 65 3 = nI kd := (s1 _ _ (by unfold DF; omega)).trans hkd
  have hv1 : m1 65 4 = v := (s1 _ _ (by unfold DF; omega)).trans hv
  have hl1 : (l ++ [1]).length = l.length + 1 := by simp
  refine cw_iload (pc := 22) dX1_runs_22 rfl <|
    cw_iconst (v := 1) (pc := 24) dX1_runs_24 (by decide) <|
    cw_iadd (pc := 25) dX1_runs_25 <|
    ?_
  rw [nI_1]
  refine cw_istore (L' := [_, _, _, _, _, _, _]) (pc := 26) dX1_runs_26 (by decide) rfl rfl <|
    cw_iload (pc := 28) dX1_runs_28 rfl <|
    cw_lookup (tgt := 112) (pc := 30) dX1_runs_30 (by decide) rfl (by decide) <|
    cw_iload_n (pc := 112) dX1_runs_112 rfl rfl <|
    cw_aload_n (pc := 113) dX1_runs_113 rfl rfl <|
    cw_getI (q := 65) (pc := 114) dX1_runs_114 fX1_25 sh_65 (by decide) rfl <|
    cw_iadd (pc := 117) dX1_runs_117 <|
    cw_iret (pc := 118) dX1_runs_118 hR <|
    ⟨by rw [hm1], h1, s1⟩
set_option maxHeartbeats 4000000 in
set_option maxRecDepth 100000 in
theorem c_X1_runs_11 {E : Ev} {μ : Mem} {l : List Int32} (h : TrAt μ 65 1 66 l) {kd k dp d : Nat} {v m x : Int32} (hm : μ 65 2 = m) (hkd : μ 65 3 = nI kd) (hv : μ 65 4 = v) (hk6 : kd ≤ 6) (hk : k ≤ 6) (hd : 3 ≤ d) (hl : l.length + 2 ≤ 20) (hdp : dp + 2 ≤ 20) (hb : bodI k 0 = 11) : AM E yX1_runs cX1_runs 7 (some .int) d [.ref 65, .int (nI k), .int 0, .int x, .int (nI dp)] μ (fun r μ' => r = some (.int (x * 3 + m, ([11, 1] : List Int32)).1) ∧ TrAt μ' 65 1 66 (l ++ (x * 3 + m, ([11, 1] : List Int32)).2) ∧ Same DF μ μ') := by
  refine am_of (own := RX1) (L := [.ref 65, .int (nI k), .int 0, .int x, .int (nI dp), .null, .null]) (by decide) rfl (Nat.le_of_ble_eq_true rfl) rfl (fun Γ hR => ?_)
  have hbd : bodI k 0 = 11 := hb
  refine cw_iload (pc := 0) dX1_runs_0 rfl <|
    cw_bipush (v := 20) (pc := 2) dX1_runs_2 (by decide) <|
    cw_icmp_le_T (tgt := 9) (pc := 4) dX1_runs_4 (by decide) (nI_le (b := 20) (by omega) (by decide)) <|
    cw_iload_n (pc := 9) dX1_runs_9 rfl rfl <|
    cw_iload_n (pc := 10) dX1_runs_10 rfl rfl <|
    cw_insI (pc := 11) dX1_runs_11 (c_X1_bodyOf (k := k) (a := 0) hk (by decide)) vX1_44 rfl rfl rfl (by omega) <|
    ?_
  rw [hbd]
  refine cw_istore (L' := [_, _, _, _, _, _, _]) (pc := 14) dX1_runs_14 (by decide) rfl rfl <|
    cw_aload_n (pc := 16) dX1_runs_16 rfl rfl <|
    cw_iload (pc := 17) dX1_runs_17 rfl <|
    cw_invP (q := 65) (pc := 19) dX1_runs_19 (c_X1_begins h (by omega)) rfl vX1_48 sh_65 (by decide) rfl rfl rfl (by omega) <|
    ?_
  rintro _ m1 ⟨rfl, h1, s1⟩
  have hm1 : m1 65 2 = m := (s1 _ _ (by unfold DF; omega)).trans hm
  have hkd1 : m1 65 3 = nI kd := (s1 _ _ (by unfold DF; omega)).trans hkd
  have hv1 : m1 65 4 = v := (s1 _ _ (by unfold DF; omega)).trans hv
  have hl1 : (l ++ [11]).length = l.length + 1 := by simp
  refine cw_iload (pc := 22) dX1_runs_22 rfl <|
    cw_iconst (v := 1) (pc := 24) dX1_runs_24 (by decide) <|
    cw_iadd (pc := 25) dX1_runs_25 <|
    ?_
  rw [nI_1]
  refine cw_istore (L' := [_, _, _, _, _, _, _]) (pc := 26) dX1_runs_26 (by decide) rfl rfl <|
    cw_iload (pc := 28) dX1_runs_28 rfl <|
    cw_lookup (tgt := 152) (pc := 30) dX1_runs_30 (by decide) rfl (by decide) <|
    cw_aload_n (pc := 152) dX1_runs_152 rfl rfl <|
    cw_aboveN (pc := 153) dX1_runs_153 zX1_52 <|
    cw_iconst (v := 1) (pc := 156) dX1_runs_156 (by decide) <|
    cw_tabA (pc := 157) dX1_runs_157 (show vp_in (nI 1) 7 from vp_in_nI (by decide) (by decide)) <|
    ?_
  rw [show tabA (1 : Int32).toNatClampNeg = nI 0 from rfl]
  refine cw_iconst (v := 0) (pc := 158) dX1_runs_158 (by decide) <|
    cw_iload_n (pc := 159) dX1_runs_159 rfl rfl <|
    cw_iconst (v := 3) (pc := 160) dX1_runs_160 (by decide) <|
    cw_imul (pc := 161) dX1_runs_161 <|
    cw_iload (pc := 162) dX1_runs_162 rfl <|
    cw_invP (q := 65) (pc := 164) dX1_runs_164 (c_X1_runs_1 (d := d - 1) (k := 0) h1 hm1 hkd1 hv1 hk6 (by decide) (by omega) (by omega) (by omega) rfl) rfl vX1_40 sh_65 (by decide) rfl rfl rfl (by omega) <|
    ?_
  rintro _ m2 ⟨rfl, h2, s2⟩
  refine cw_iret (pc := 167) dX1_runs_167 hR <|
    ⟨rfl, (by have e := h2; rw [List.append_assoc] at e; exact e), s1.tr s2⟩
set_option maxHeartbeats 4000000 in
set_option maxRecDepth 100000 in
theorem c_X1_runs_51 {E : Ev} {μ : Mem} {l : List Int32} (h : TrAt μ 65 1 66 l) {kd k dp d : Nat} {v m x : Int32} (hm : μ 65 2 = m) (hkd : μ 65 3 = nI kd) (hv : μ 65 4 = v) (hk6 : kd ≤ 6) (hk : k ≤ 6) (hd : 3 ≤ d) (hl : l.length + 2 ≤ 20) (hdp : dp + 2 ≤ 20) (hb : bodI k 0 = 51) : AM E yX1_runs cX1_runs 7 (some .int) d [.ref 65, .int (nI k), .int 0, .int x, .int (nI dp)] μ (fun r μ' => r = some (.int ((x + m) ^^^ m, ([51, 1] : List Int32)).1) ∧ TrAt μ' 65 1 66 (l ++ ((x + m) ^^^ m, ([51, 1] : List Int32)).2) ∧ Same DF μ μ') := by
  refine am_of (own := RX1) (L := [.ref 65, .int (nI k), .int 0, .int x, .int (nI dp), .null, .null]) (by decide) rfl (Nat.le_of_ble_eq_true rfl) rfl (fun Γ hR => ?_)
  have hbd : bodI k 0 = 51 := hb
  refine cw_iload (pc := 0) dX1_runs_0 rfl <|
    cw_bipush (v := 20) (pc := 2) dX1_runs_2 (by decide) <|
    cw_icmp_le_T (tgt := 9) (pc := 4) dX1_runs_4 (by decide) (nI_le (b := 20) (by omega) (by decide)) <|
    cw_iload_n (pc := 9) dX1_runs_9 rfl rfl <|
    cw_iload_n (pc := 10) dX1_runs_10 rfl rfl <|
    cw_insI (pc := 11) dX1_runs_11 (c_X1_bodyOf (k := k) (a := 0) hk (by decide)) vX1_44 rfl rfl rfl (by omega) <|
    ?_
  rw [hbd]
  refine cw_istore (L' := [_, _, _, _, _, _, _]) (pc := 14) dX1_runs_14 (by decide) rfl rfl <|
    cw_aload_n (pc := 16) dX1_runs_16 rfl rfl <|
    cw_iload (pc := 17) dX1_runs_17 rfl <|
    cw_invP (q := 65) (pc := 19) dX1_runs_19 (c_X1_begins h (by omega)) rfl vX1_48 sh_65 (by decide) rfl rfl rfl (by omega) <|
    ?_
  rintro _ m1 ⟨rfl, h1, s1⟩
  have hm1 : m1 65 2 = m := (s1 _ _ (by unfold DF; omega)).trans hm
  have hkd1 : m1 65 3 = nI kd := (s1 _ _ (by unfold DF; omega)).trans hkd
  have hv1 : m1 65 4 = v := (s1 _ _ (by unfold DF; omega)).trans hv
  have hl1 : (l ++ [51]).length = l.length + 1 := by simp
  refine cw_iload (pc := 22) dX1_runs_22 rfl <|
    cw_iconst (v := 1) (pc := 24) dX1_runs_24 (by decide) <|
    cw_iadd (pc := 25) dX1_runs_25 <|
    ?_
  rw [nI_1]
  refine cw_istore (L' := [_, _, _, _, _, _, _]) (pc := 26) dX1_runs_26 (by decide) rfl rfl <|
    cw_iload (pc := 28) dX1_runs_28 rfl <|
    cw_lookup (tgt := 229) (pc := 30) dX1_runs_30 (by decide) rfl (by decide) <|
    cw_aload_n (pc := 229) dX1_runs_229 rfl rfl <|
    cw_aboveN (pc := 230) dX1_runs_230 zX1_52 <|
    cw_iconst (v := 5) (pc := 233) dX1_runs_233 (by decide) <|
    cw_tabA (pc := 234) dX1_runs_234 (show vp_in (nI 5) 7 from vp_in_nI (by decide) (by decide)) <|
    ?_
  rw [show tabA (5 : Int32).toNatClampNeg = nI 2 from rfl]
  refine cw_iconst (v := 0) (pc := 235) dX1_runs_235 (by decide) <|
    cw_iload_n (pc := 236) dX1_runs_236 rfl rfl <|
    cw_iload (pc := 237) dX1_runs_237 rfl <|
    cw_invP (q := 65) (pc := 239) dX1_runs_239 (c_X1_runs_1 (d := d - 1) (k := 2) h1 hm1 hkd1 hv1 hk6 (by decide) (by omega) (by omega) (by omega) rfl) rfl vX1_40 sh_65 (by decide) rfl rfl rfl (by omega) <|
    ?_
  rintro _ m2 ⟨rfl, h2, s2⟩
  have hm2 : m2 65 2 = m := (s2 _ _ (by unfold DF; omega)).trans hm1
  refine cw_aload_n (pc := 242) dX1_runs_242 rfl rfl <|
    cw_getI (q := 65) (pc := 243) dX1_runs_243 fX1_25 sh_65 (by decide) rfl <|
    ?_
  rw [hm2]
  refine cw_ixor (pc := 246) dX1_runs_246 <|
    cw_iret (pc := 247) dX1_runs_247 hR <|
    ⟨rfl, (by have e := h2; rw [List.append_assoc] at e; exact e), s1.tr s2⟩
theorem c_runsP {E : Ev} {μ : Mem} {l : List Int32} (h : TrAt μ 65 1 66 l) {kd k dp d : Nat} {v m x : Int32} (hm : μ 65 2 = m) (hkd : μ 65 3 = nI kd) (hv : μ 65 4 = v) (hk6 : kd ≤ 6) (hk : k ≤ 6) (hd : 3 ≤ d) (hl : l.length + 2 ≤ 20) (hdp : dp + 2 ≤ 20) : AM E yX1_runs cX1_runs 7 (some .int) d [.ref 65, .int (nI k), .int 0, .int x, .int (nI dp)] μ (fun r μ' => r = some (.int (actP k m x).1) ∧ TrAt μ' 65 1 66 (l ++ (actP k m x).2) ∧ Same DF μ μ') := by
  by_cases e1 : k = 1 ∨ k = 4
  · rw [show actP k m x = (x * 3 + m, [11, 1]) from if_pos e1]
    exact c_X1_runs_11 h hm hkd hv hk6 hk hd hl hdp (by rcases e1 with rfl | rfl <;> rfl)
  · by_cases e5 : k = 5
    · rw [show actP k m x = ((x + m) ^^^ m, [51, 1]) by unfold actP; rw [if_neg e1, if_pos e5]]
      exact c_X1_runs_51 h hm hkd hv hk6 hk hd hl hdp (by subst e5; rfl)
    · rw [show actP k m x = (x + m, [1]) by unfold actP; rw [if_neg e1, if_neg e5]]
      exact c_X1_runs_1 h hm hkd hv hk6 hk (by omega) (by omega) (by omega) (by rcases (show k = 0 ∨ k = 2 ∨ k = 3 ∨ k = 6 by omega) with rfl | rfl | rfl | rfl <;> rfl)
set_option maxHeartbeats 4000000 in
set_option maxRecDepth 100000 in
theorem c_X1_runs_2 {E : Ev} {μ : Mem} {l : List Int32} (h : TrAt μ 65 1 66 l) {kd k dp d : Nat} {v m x : Int32} (hm : μ 65 2 = m) (hkd : μ 65 3 = nI kd) (hv : μ 65 4 = v) (hk6 : kd ≤ 6) (hk : k ≤ 6) (hd : 4 ≤ d) (hl : l.length + 3 ≤ 20) (hdp : dp + 3 ≤ 20) (hb : bodI k 1 = 2) : AM E yX1_runs cX1_runs 7 (some .int) d [.ref 65, .int (nI k), .int 1, .int x, .int (nI dp)] μ (fun r μ' => r = some (.int (actQ kd v m x).1) ∧ TrAt μ' 65 1 66 (l ++ (actQ kd v m x).2) ∧ Same DF μ μ') := by
  refine am_of (own := RX1) (L := [.ref 65, .int (nI k), .int 1, .int x, .int (nI dp), .null, .null]) (by decide) rfl (Nat.le_of_ble_eq_true rfl) rfl (fun Γ hR => ?_)
  have hbd : bodI k 1 = 2 := hb
  refine cw_iload (pc := 0) dX1_runs_0 rfl <|
    cw_bipush (v := 20) (pc := 2) dX1_runs_2 (by decide) <|
    cw_icmp_le_T (tgt := 9) (pc := 4) dX1_runs_4 (by decide) (nI_le (b := 20) (by omega) (by decide)) <|
    cw_iload_n (pc := 9) dX1_runs_9 rfl rfl <|
    cw_iload_n (pc := 10) dX1_runs_10 rfl rfl <|
    cw_insI (pc := 11) dX1_runs_11 (c_X1_bodyOf (k := k) (a := 1) hk (by decide)) vX1_44 rfl rfl rfl (by omega) <|
    ?_
  rw [hbd]
  refine cw_istore (L' := [_, _, _, _, _, _, _]) (pc := 14) dX1_runs_14 (by decide) rfl rfl <|
    cw_aload_n (pc := 16) dX1_runs_16 rfl rfl <|
    cw_iload (pc := 17) dX1_runs_17 rfl <|
    cw_invP (q := 65) (pc := 19) dX1_runs_19 (c_X1_begins h (by omega)) rfl vX1_48 sh_65 (by decide) rfl rfl rfl (by omega) <|
    ?_
  rintro _ m1 ⟨rfl, h1, s1⟩
  have hm1 : m1 65 2 = m := (s1 _ _ (by unfold DF; omega)).trans hm
  have hkd1 : m1 65 3 = nI kd := (s1 _ _ (by unfold DF; omega)).trans hkd
  have hv1 : m1 65 4 = v := (s1 _ _ (by unfold DF; omega)).trans hv
  have hl1 : (l ++ [2]).length = l.length + 1 := by simp
  refine cw_iload (pc := 22) dX1_runs_22 rfl <|
    cw_iconst (v := 1) (pc := 24) dX1_runs_24 (by decide) <|
    cw_iadd (pc := 25) dX1_runs_25 <|
    ?_
  rw [nI_1]
  refine cw_istore (L' := [_, _, _, _, _, _, _]) (pc := 26) dX1_runs_26 (by decide) rfl rfl <|
    cw_iload (pc := 28) dX1_runs_28 rfl <|
    cw_lookup (tgt := 119) (pc := 30) dX1_runs_30 (by decide) rfl (by decide) <|
    cw_aload_n (pc := 119) dX1_runs_119 rfl rfl <|
    cw_aload_n (pc := 120) dX1_runs_120 rfl rfl <|
    cw_getI (q := 65) (pc := 121) dX1_runs_121 fX1_31 sh_65 (by decide) rfl <|
    ?_
  rw [hkd1]
  refine cw_iconst (v := 0) (pc := 124) dX1_runs_124 (by decide) <|
    cw_iload_n (pc := 125) dX1_runs_125 rfl rfl <|
    cw_iload (pc := 126) dX1_runs_126 rfl <|
    cw_invP (q := 65) (pc := 128) dX1_runs_128 (c_runsP (d := d - 1) (k := kd) h1 hm1 hkd1 hv1 hk6 hk6 (by omega) (by omega) (by omega)) rfl vX1_40 sh_65 (by decide) rfl rfl rfl (by omega) <|
    ?_
  rintro _ m2 ⟨rfl, h2, s2⟩
  have hv2 : m2 65 4 = v := (s2 _ _ (by unfold DF; omega)).trans hv1
  refine cw_aload_n (pc := 131) dX1_runs_131 rfl rfl <|
    cw_getI (q := 65) (pc := 132) dX1_runs_132 fX1_37 sh_65 (by decide) rfl <|
    ?_
  rw [hv2]
  refine cw_isub (pc := 135) dX1_runs_135 <|
    cw_iret (pc := 136) dX1_runs_136 hR <|
    ⟨rfl, (by have e := h2; rw [List.append_assoc] at e; exact e), s1.tr s2⟩
set_option maxHeartbeats 4000000 in
set_option maxRecDepth 100000 in
theorem c_X1_runs_21 {E : Ev} {μ : Mem} {l : List Int32} (h : TrAt μ 65 1 66 l) {kd k dp d : Nat} {v m x : Int32} (hm : μ 65 2 = m) (hkd : μ 65 3 = nI kd) (hv : μ 65 4 = v) (hk6 : kd ≤ 6) (hk : k ≤ 6) (hd : 5 ≤ d) (hl : l.length + 4 ≤ 20) (hdp : dp + 4 ≤ 20) (hb : bodI k 1 = 21) : AM E yX1_runs cX1_runs 7 (some .int) d [.ref 65, .int (nI k), .int 1, .int x, .int (nI dp)] μ (fun r μ' => r = some (.int (-(actQ kd v m x).1, 21 :: (actQ kd v m x).2).1) ∧ TrAt μ' 65 1 66 (l ++ (-(actQ kd v m x).1, 21 :: (actQ kd v m x).2).2) ∧ Same DF μ μ') := by
  refine am_of (own := RX1) (L := [.ref 65, .int (nI k), .int 1, .int x, .int (nI dp), .null, .null]) (by decide) rfl (Nat.le_of_ble_eq_true rfl) rfl (fun Γ hR => ?_)
  have hbd : bodI k 1 = 21 := hb
  refine cw_iload (pc := 0) dX1_runs_0 rfl <|
    cw_bipush (v := 20) (pc := 2) dX1_runs_2 (by decide) <|
    cw_icmp_le_T (tgt := 9) (pc := 4) dX1_runs_4 (by decide) (nI_le (b := 20) (by omega) (by decide)) <|
    cw_iload_n (pc := 9) dX1_runs_9 rfl rfl <|
    cw_iload_n (pc := 10) dX1_runs_10 rfl rfl <|
    cw_insI (pc := 11) dX1_runs_11 (c_X1_bodyOf (k := k) (a := 1) hk (by decide)) vX1_44 rfl rfl rfl (by omega) <|
    ?_
  rw [hbd]
  refine cw_istore (L' := [_, _, _, _, _, _, _]) (pc := 14) dX1_runs_14 (by decide) rfl rfl <|
    cw_aload_n (pc := 16) dX1_runs_16 rfl rfl <|
    cw_iload (pc := 17) dX1_runs_17 rfl <|
    cw_invP (q := 65) (pc := 19) dX1_runs_19 (c_X1_begins h (by omega)) rfl vX1_48 sh_65 (by decide) rfl rfl rfl (by omega) <|
    ?_
  rintro _ m1 ⟨rfl, h1, s1⟩
  have hm1 : m1 65 2 = m := (s1 _ _ (by unfold DF; omega)).trans hm
  have hkd1 : m1 65 3 = nI kd := (s1 _ _ (by unfold DF; omega)).trans hkd
  have hv1 : m1 65 4 = v := (s1 _ _ (by unfold DF; omega)).trans hv
  have hl1 : (l ++ [21]).length = l.length + 1 := by simp
  refine cw_iload (pc := 22) dX1_runs_22 rfl <|
    cw_iconst (v := 1) (pc := 24) dX1_runs_24 (by decide) <|
    cw_iadd (pc := 25) dX1_runs_25 <|
    ?_
  rw [nI_1]
  refine cw_istore (L' := [_, _, _, _, _, _, _]) (pc := 26) dX1_runs_26 (by decide) rfl rfl <|
    cw_iload (pc := 28) dX1_runs_28 rfl <|
    cw_lookup (tgt := 168) (pc := 30) dX1_runs_30 (by decide) rfl (by decide) <|
    cw_aload_n (pc := 168) dX1_runs_168 rfl rfl <|
    cw_aboveN (pc := 169) dX1_runs_169 zX1_52 <|
    cw_iconst (v := 2) (pc := 172) dX1_runs_172 (by decide) <|
    cw_tabA (pc := 173) dX1_runs_173 (show vp_in (nI 2) 7 from vp_in_nI (by decide) (by decide)) <|
    ?_
  rw [show tabA (2 : Int32).toNatClampNeg = nI 0 from rfl]
  refine cw_iconst (v := 1) (pc := 174) dX1_runs_174 (by decide) <|
    cw_iload_n (pc := 175) dX1_runs_175 rfl rfl <|
    cw_iload (pc := 176) dX1_runs_176 rfl <|
    cw_invP (q := 65) (pc := 178) dX1_runs_178 (c_X1_runs_2 (d := d - 1) (k := 0) h1 hm1 hkd1 hv1 hk6 (by decide) (by omega) (by omega) (by omega) rfl) rfl vX1_40 sh_65 (by decide) rfl rfl rfl (by omega) <|
    ?_
  rintro _ m2 ⟨rfl, h2, s2⟩
  refine cw_ineg (pc := 181) dX1_runs_181 <|
    cw_iret (pc := 182) dX1_runs_182 hR <|
    ⟨rfl, (by have e := h2; rw [List.append_assoc] at e; exact e), s1.tr s2⟩
set_option maxHeartbeats 4000000 in
set_option maxRecDepth 100000 in
theorem c_X1_runs_61 {E : Ev} {μ : Mem} {l : List Int32} (h : TrAt μ 65 1 66 l) {kd k dp d : Nat} {v m x : Int32} (hm : μ 65 2 = m) (hkd : μ 65 3 = nI kd) (hv : μ 65 4 = v) (hk6 : kd ≤ 6) (hk : k ≤ 6) (hd : 5 ≤ d) (hl : l.length + 4 ≤ 20) (hdp : dp + 4 ≤ 20) (hb : bodI k 1 = 61) : AM E yX1_runs cX1_runs 7 (some .int) d [.ref 65, .int (nI k), .int 1, .int x, .int (nI dp)] μ (fun r μ' => r = some (.int ((actQ kd v m x).1 + v, 61 :: (actQ kd v m x).2).1) ∧ TrAt μ' 65 1 66 (l ++ ((actQ kd v m x).1 + v, 61 :: (actQ kd v m x).2).2) ∧ Same DF μ μ') := by
  refine am_of (own := RX1) (L := [.ref 65, .int (nI k), .int 1, .int x, .int (nI dp), .null, .null]) (by decide) rfl (Nat.le_of_ble_eq_true rfl) rfl (fun Γ hR => ?_)
  have hbd : bodI k 1 = 61 := hb
  refine cw_iload (pc := 0) dX1_runs_0 rfl <|
    cw_bipush (v := 20) (pc := 2) dX1_runs_2 (by decide) <|
    cw_icmp_le_T (tgt := 9) (pc := 4) dX1_runs_4 (by decide) (nI_le (b := 20) (by omega) (by decide)) <|
    cw_iload_n (pc := 9) dX1_runs_9 rfl rfl <|
    cw_iload_n (pc := 10) dX1_runs_10 rfl rfl <|
    cw_insI (pc := 11) dX1_runs_11 (c_X1_bodyOf (k := k) (a := 1) hk (by decide)) vX1_44 rfl rfl rfl (by omega) <|
    ?_
  rw [hbd]
  refine cw_istore (L' := [_, _, _, _, _, _, _]) (pc := 14) dX1_runs_14 (by decide) rfl rfl <|
    cw_aload_n (pc := 16) dX1_runs_16 rfl rfl <|
    cw_iload (pc := 17) dX1_runs_17 rfl <|
    cw_invP (q := 65) (pc := 19) dX1_runs_19 (c_X1_begins h (by omega)) rfl vX1_48 sh_65 (by decide) rfl rfl rfl (by omega) <|
    ?_
  rintro _ m1 ⟨rfl, h1, s1⟩
  have hm1 : m1 65 2 = m := (s1 _ _ (by unfold DF; omega)).trans hm
  have hkd1 : m1 65 3 = nI kd := (s1 _ _ (by unfold DF; omega)).trans hkd
  have hv1 : m1 65 4 = v := (s1 _ _ (by unfold DF; omega)).trans hv
  have hl1 : (l ++ [61]).length = l.length + 1 := by simp
  refine cw_iload (pc := 22) dX1_runs_22 rfl <|
    cw_iconst (v := 1) (pc := 24) dX1_runs_24 (by decide) <|
    cw_iadd (pc := 25) dX1_runs_25 <|
    ?_
  rw [nI_1]
  refine cw_istore (L' := [_, _, _, _, _, _, _]) (pc := 26) dX1_runs_26 (by decide) rfl rfl <|
    cw_iload (pc := 28) dX1_runs_28 rfl <|
    cw_lookup (tgt := 248) (pc := 30) dX1_runs_30 (by decide) rfl (by decide) <|
    cw_aload_n (pc := 248) dX1_runs_248 rfl rfl <|
    cw_aboveN (pc := 249) dX1_runs_249 zX1_52 <|
    cw_bipush (v := 6) (pc := 252) dX1_runs_252 (by decide) <|
    cw_tabA (pc := 254) dX1_runs_254 (show vp_in (nI 6) 7 from vp_in_nI (by decide) (by decide)) <|
    ?_
  rw [show tabA (6 : Int32).toNatClampNeg = nI 3 from rfl]
  refine cw_iconst (v := 1) (pc := 255) dX1_runs_255 (by decide) <|
    cw_iload_n (pc := 256) dX1_runs_256 rfl rfl <|
    cw_iload (pc := 257) dX1_runs_257 rfl <|
    cw_invP (q := 65) (pc := 259) dX1_runs_259 (c_X1_runs_2 (d := d - 1) (k := 3) h1 hm1 hkd1 hv1 hk6 (by decide) (by omega) (by omega) (by omega) rfl) rfl vX1_40 sh_65 (by decide) rfl rfl rfl (by omega) <|
    ?_
  rintro _ m2 ⟨rfl, h2, s2⟩
  have hv2 : m2 65 4 = v := (s2 _ _ (by unfold DF; omega)).trans hv1
  refine cw_aload_n (pc := 262) dX1_runs_262 rfl rfl <|
    cw_getI (q := 65) (pc := 263) dX1_runs_263 fX1_37 sh_65 (by decide) rfl <|
    ?_
  rw [hv2]
  refine cw_iadd (pc := 266) dX1_runs_266 <|
    cw_iret (pc := 267) dX1_runs_267 hR <|
    ⟨rfl, (by have e := h2; rw [List.append_assoc] at e; exact e), s1.tr s2⟩
theorem c_runsL {E : Ev} {μ : Mem} {l : List Int32} (h : TrAt μ 65 1 66 l) {kd k dp d : Nat} {v m x : Int32} (hm : μ 65 2 = m) (hkd : μ 65 3 = nI kd) (hv : μ 65 4 = v) (hk6 : kd ≤ 6) (hk : k ≤ 6) (hd : 5 ≤ d) (hl : l.length + 4 ≤ 20) (hdp : dp + 4 ≤ 20) : AM E yX1_runs cX1_runs 7 (some .int) d [.ref 65, .int (nI k), .int 1, .int x, .int (nI dp)] μ (fun r μ' => r = some (.int (actL kd k v m x).1) ∧ TrAt μ' 65 1 66 (l ++ (actL kd k v m x).2) ∧ Same DF μ μ') := by
  by_cases e1 : k = 2 ∨ k = 5
  · rw [show actL kd k v m x = (-(actQ kd v m x).1, 21 :: (actQ kd v m x).2) from if_pos e1]
    exact c_X1_runs_21 h hm hkd hv hk6 hk hd hl hdp (by rcases e1 with rfl | rfl <;> rfl)
  · by_cases e5 : k = 6
    · rw [show actL kd k v m x = ((actQ kd v m x).1 + v, 61 :: (actQ kd v m x).2) by unfold actL; rw [if_neg e1, if_pos e5]]
      exact c_X1_runs_61 h hm hkd hv hk6 hk hd hl hdp (by subst e5; rfl)
    · rw [show actL kd k v m x = actQ kd v m x by unfold actL; rw [if_neg e1, if_neg e5]]
      exact c_X1_runs_2 h hm hkd hv hk6 hk (by omega) (by omega) (by omega) (by rcases (show k = 0 ∨ k = 1 ∨ k = 3 ∨ k = 4 by omega) with rfl | rfl | rfl | rfl <;> rfl)
set_option maxHeartbeats 4000000 in
set_option maxRecDepth 100000 in
theorem c_X1_runs_3 {E : Ev} {μ : Mem} {l : List Int32} (h : TrAt μ 65 1 66 l) {kd k dp d : Nat} {v m x : Int32} (hm : μ 65 2 = m) (hkd : μ 65 3 = nI kd) (hv : μ 65 4 = v) (hk6 : kd ≤ 6) (hk : k ≤ 6) (hd : 6 ≤ d) (hl : l.length + 5 ≤ 20) (hdp : dp + 5 ≤ 20) (hb : bodI k 2 = 3) : AM E yX1_runs cX1_runs 7 (some .int) d [.ref 65, .int (nI k), .int 2, .int x, .int (nI dp)] μ (fun r μ' => r = some (.int (actT kd v m x).1) ∧ TrAt μ' 65 1 66 (l ++ (actT kd v m x).2) ∧ Same DF μ μ') := by
  refine am_of (own := RX1) (L := [.ref 65, .int (nI k), .int 2, .int x, .int (nI dp), .null, .null]) (by decide) rfl (Nat.le_of_ble_eq_true rfl) rfl (fun Γ hR => ?_)
  have hbd : bodI k 2 = 3 := hb
  refine cw_iload (pc := 0) dX1_runs_0 rfl <|
    cw_bipush (v := 20) (pc := 2) dX1_runs_2 (by decide) <|
    cw_icmp_le_T (tgt := 9) (pc := 4) dX1_runs_4 (by decide) (nI_le (b := 20) (by omega) (by decide)) <|
    cw_iload_n (pc := 9) dX1_runs_9 rfl rfl <|
    cw_iload_n (pc := 10) dX1_runs_10 rfl rfl <|
    cw_insI (pc := 11) dX1_runs_11 (c_X1_bodyOf (k := k) (a := 2) hk (by decide)) vX1_44 rfl rfl rfl (by omega) <|
    ?_
  rw [hbd]
  refine cw_istore (L' := [_, _, _, _, _, _, _]) (pc := 14) dX1_runs_14 (by decide) rfl rfl <|
    cw_aload_n (pc := 16) dX1_runs_16 rfl rfl <|
    cw_iload (pc := 17) dX1_runs_17 rfl <|
    cw_invP (q := 65) (pc := 19) dX1_runs_19 (c_X1_begins h (by omega)) rfl vX1_48 sh_65 (by decide) rfl rfl rfl (by omega) <|
    ?_
  rintro _ m1 ⟨rfl, h1, s1⟩
  have hm1 : m1 65 2 = m := (s1 _ _ (by unfold DF; omega)).trans hm
  have hkd1 : m1 65 3 = nI kd := (s1 _ _ (by unfold DF; omega)).trans hkd
  have hv1 : m1 65 4 = v := (s1 _ _ (by unfold DF; omega)).trans hv
  have hl1 : (l ++ [3]).length = l.length + 1 := by simp
  refine cw_iload (pc := 22) dX1_runs_22 rfl <|
    cw_iconst (v := 1) (pc := 24) dX1_runs_24 (by decide) <|
    cw_iadd (pc := 25) dX1_runs_25 <|
    ?_
  rw [nI_1]
  refine cw_istore (L' := [_, _, _, _, _, _, _]) (pc := 26) dX1_runs_26 (by decide) rfl rfl <|
    cw_iload (pc := 28) dX1_runs_28 rfl <|
    cw_lookup (tgt := 137) (pc := 30) dX1_runs_30 (by decide) rfl (by decide) <|
    cw_aload_n (pc := 137) dX1_runs_137 rfl rfl <|
    cw_aload_n (pc := 138) dX1_runs_138 rfl rfl <|
    cw_getI (q := 65) (pc := 139) dX1_runs_139 fX1_31 sh_65 (by decide) rfl <|
    ?_
  rw [hkd1]
  refine cw_iconst (v := 1) (pc := 142) dX1_runs_142 (by decide) <|
    cw_iload_n (pc := 143) dX1_runs_143 rfl rfl <|
    cw_iload (pc := 144) dX1_runs_144 rfl <|
    cw_invP (q := 65) (pc := 146) dX1_runs_146 (c_runsL (d := d - 1) (k := kd) h1 hm1 hkd1 hv1 hk6 hk6 (by omega) (by omega) (by omega)) rfl vX1_40 sh_65 (by decide) rfl rfl rfl (by omega) <|
    ?_
  rintro _ m2 ⟨rfl, h2, s2⟩
  refine cw_iconst (v := 2) (pc := 149) dX1_runs_149 (by decide) <|
    cw_imul (pc := 150) dX1_runs_150 <|
    cw_iret (pc := 151) dX1_runs_151 hR <|
    ⟨rfl, (by have e := h2; rw [List.append_assoc] at e; exact e), s1.tr s2⟩
set_option maxHeartbeats 4000000 in
set_option maxRecDepth 100000 in
theorem c_X1_runs_31 {E : Ev} {μ : Mem} {l : List Int32} (h : TrAt μ 65 1 66 l) {kd k dp d : Nat} {v m x : Int32} (hm : μ 65 2 = m) (hkd : μ 65 3 = nI kd) (hv : μ 65 4 = v) (hk6 : kd ≤ 6) (hk : k ≤ 6) (hd : 7 ≤ d) (hl : l.length + 6 ≤ 20) (hdp : dp + 6 ≤ 20) (hb : bodI k 2 = 31) : AM E yX1_runs cX1_runs 7 (some .int) d [.ref 65, .int (nI k), .int 2, .int x, .int (nI dp)] μ (fun r μ' => r = some (.int ((actT kd v m x).1 ^^^ 7, 31 :: (actT kd v m x).2).1) ∧ TrAt μ' 65 1 66 (l ++ ((actT kd v m x).1 ^^^ 7, 31 :: (actT kd v m x).2).2) ∧ Same DF μ μ') := by
  refine am_of (own := RX1) (L := [.ref 65, .int (nI k), .int 2, .int x, .int (nI dp), .null, .null]) (by decide) rfl (Nat.le_of_ble_eq_true rfl) rfl (fun Γ hR => ?_)
  have hbd : bodI k 2 = 31 := hb
  refine cw_iload (pc := 0) dX1_runs_0 rfl <|
    cw_bipush (v := 20) (pc := 2) dX1_runs_2 (by decide) <|
    cw_icmp_le_T (tgt := 9) (pc := 4) dX1_runs_4 (by decide) (nI_le (b := 20) (by omega) (by decide)) <|
    cw_iload_n (pc := 9) dX1_runs_9 rfl rfl <|
    cw_iload_n (pc := 10) dX1_runs_10 rfl rfl <|
    cw_insI (pc := 11) dX1_runs_11 (c_X1_bodyOf (k := k) (a := 2) hk (by decide)) vX1_44 rfl rfl rfl (by omega) <|
    ?_
  rw [hbd]
  refine cw_istore (L' := [_, _, _, _, _, _, _]) (pc := 14) dX1_runs_14 (by decide) rfl rfl <|
    cw_aload_n (pc := 16) dX1_runs_16 rfl rfl <|
    cw_iload (pc := 17) dX1_runs_17 rfl <|
    cw_invP (q := 65) (pc := 19) dX1_runs_19 (c_X1_begins h (by omega)) rfl vX1_48 sh_65 (by decide) rfl rfl rfl (by omega) <|
    ?_
  rintro _ m1 ⟨rfl, h1, s1⟩
  have hm1 : m1 65 2 = m := (s1 _ _ (by unfold DF; omega)).trans hm
  have hkd1 : m1 65 3 = nI kd := (s1 _ _ (by unfold DF; omega)).trans hkd
  have hv1 : m1 65 4 = v := (s1 _ _ (by unfold DF; omega)).trans hv
  have hl1 : (l ++ [31]).length = l.length + 1 := by simp
  refine cw_iload (pc := 22) dX1_runs_22 rfl <|
    cw_iconst (v := 1) (pc := 24) dX1_runs_24 (by decide) <|
    cw_iadd (pc := 25) dX1_runs_25 <|
    ?_
  rw [nI_1]
  refine cw_istore (L' := [_, _, _, _, _, _, _]) (pc := 26) dX1_runs_26 (by decide) rfl rfl <|
    cw_iload (pc := 28) dX1_runs_28 rfl <|
    cw_lookup (tgt := 183) (pc := 30) dX1_runs_30 (by decide) rfl (by decide) <|
    cw_aload_n (pc := 183) dX1_runs_183 rfl rfl <|
    cw_aboveN (pc := 184) dX1_runs_184 zX1_52 <|
    cw_iconst (v := 3) (pc := 187) dX1_runs_187 (by decide) <|
    cw_tabA (pc := 188) dX1_runs_188 (show vp_in (nI 3) 7 from vp_in_nI (by decide) (by decide)) <|
    ?_
  rw [show tabA (3 : Int32).toNatClampNeg = nI 0 from rfl]
  refine cw_iconst (v := 2) (pc := 189) dX1_runs_189 (by decide) <|
    cw_iload_n (pc := 190) dX1_runs_190 rfl rfl <|
    cw_iload (pc := 191) dX1_runs_191 rfl <|
    cw_invP (q := 65) (pc := 193) dX1_runs_193 (c_X1_runs_3 (d := d - 1) (k := 0) h1 hm1 hkd1 hv1 hk6 (by decide) (by omega) (by omega) (by omega) rfl) rfl vX1_40 sh_65 (by decide) rfl rfl rfl (by omega) <|
    ?_
  rintro _ m2 ⟨rfl, h2, s2⟩
  refine cw_bipush (v := 7) (pc := 196) dX1_runs_196 (by decide) <|
    cw_ixor (pc := 198) dX1_runs_198 <|
    cw_iret (pc := 199) dX1_runs_199 hR <|
    ⟨rfl, (by have e := h2; rw [List.append_assoc] at e; exact e), s1.tr s2⟩
set_option maxHeartbeats 4000000 in
set_option maxRecDepth 100000 in
theorem c_X1_runs_41 {E : Ev} {μ : Mem} {l : List Int32} (h : TrAt μ 65 1 66 l) {kd k dp d : Nat} {v m x : Int32} (hm : μ 65 2 = m) (hkd : μ 65 3 = nI kd) (hv : μ 65 4 = v) (hk6 : kd ≤ 6) (hk : k ≤ 6) (hd : 7 ≤ d) (hl : l.length + 8 ≤ 20) (hdp : dp + 6 ≤ 20) (hb : bodI k 2 = 41) : AM E yX1_runs cX1_runs 7 (some .int) d [.ref 65, .int (nI k), .int 2, .int x, .int (nI dp)] μ (fun r μ' => r = some (.int ((actT kd v m (x - 1)).1 + (actP kd m 2).1, 41 :: ((actT kd v m (x - 1)).2 ++ (actP kd m 2).2)).1) ∧ TrAt μ' 65 1 66 (l ++ ((actT kd v m (x - 1)).1 + (actP kd m 2).1, 41 :: ((actT kd v m (x - 1)).2 ++ (actP kd m 2).2)).2) ∧ Same DF μ μ') := by
  refine am_of (own := RX1) (L := [.ref 65, .int (nI k), .int 2, .int x, .int (nI dp), .null, .null]) (by decide) rfl (Nat.le_of_ble_eq_true rfl) rfl (fun Γ hR => ?_)
  have hbd : bodI k 2 = 41 := hb
  refine cw_iload (pc := 0) dX1_runs_0 rfl <|
    cw_bipush (v := 20) (pc := 2) dX1_runs_2 (by decide) <|
    cw_icmp_le_T (tgt := 9) (pc := 4) dX1_runs_4 (by decide) (nI_le (b := 20) (by omega) (by decide)) <|
    cw_iload_n (pc := 9) dX1_runs_9 rfl rfl <|
    cw_iload_n (pc := 10) dX1_runs_10 rfl rfl <|
    cw_insI (pc := 11) dX1_runs_11 (c_X1_bodyOf (k := k) (a := 2) hk (by decide)) vX1_44 rfl rfl rfl (by omega) <|
    ?_
  rw [hbd]
  refine cw_istore (L' := [_, _, _, _, _, _, _]) (pc := 14) dX1_runs_14 (by decide) rfl rfl <|
    cw_aload_n (pc := 16) dX1_runs_16 rfl rfl <|
    cw_iload (pc := 17) dX1_runs_17 rfl <|
    cw_invP (q := 65) (pc := 19) dX1_runs_19 (c_X1_begins h (by omega)) rfl vX1_48 sh_65 (by decide) rfl rfl rfl (by omega) <|
    ?_
  rintro _ m1 ⟨rfl, h1, s1⟩
  have hm1 : m1 65 2 = m := (s1 _ _ (by unfold DF; omega)).trans hm
  have hkd1 : m1 65 3 = nI kd := (s1 _ _ (by unfold DF; omega)).trans hkd
  have hv1 : m1 65 4 = v := (s1 _ _ (by unfold DF; omega)).trans hv
  have hl1 : (l ++ [41]).length = l.length + 1 := by simp
  refine cw_iload (pc := 22) dX1_runs_22 rfl <|
    cw_iconst (v := 1) (pc := 24) dX1_runs_24 (by decide) <|
    cw_iadd (pc := 25) dX1_runs_25 <|
    ?_
  rw [nI_1]
  refine cw_istore (L' := [_, _, _, _, _, _, _]) (pc := 26) dX1_runs_26 (by decide) rfl rfl <|
    cw_iload (pc := 28) dX1_runs_28 rfl <|
    cw_lookup (tgt := 200) (pc := 30) dX1_runs_30 (by decide) rfl (by decide) <|
    cw_aload_n (pc := 200) dX1_runs_200 rfl rfl <|
    cw_aboveN (pc := 201) dX1_runs_201 zX1_52 <|
    cw_iconst (v := 4) (pc := 204) dX1_runs_204 (by decide) <|
    cw_tabA (pc := 205) dX1_runs_205 (show vp_in (nI 4) 7 from vp_in_nI (by decide) (by decide)) <|
    ?_
  rw [show tabA (4 : Int32).toNatClampNeg = nI 1 from rfl]
  refine cw_iconst (v := 2) (pc := 206) dX1_runs_206 (by decide) <|
    cw_iload_n (pc := 207) dX1_runs_207 rfl rfl <|
    cw_iconst (v := 1) (pc := 208) dX1_runs_208 (by decide) <|
    cw_isub (pc := 209) dX1_runs_209 <|
    cw_iload (pc := 210) dX1_runs_210 rfl <|
    cw_invP (q := 65) (pc := 212) dX1_runs_212 (c_X1_runs_3 (d := d - 1) (k := 1) h1 hm1 hkd1 hv1 hk6 (by decide) (by omega) (by omega) (by omega) rfl) rfl vX1_40 sh_65 (by decide) rfl rfl rfl (by omega) <|
    ?_
  rintro _ m2 ⟨rfl, h2, s2⟩
  have hm2 : m2 65 2 = m := (s2 _ _ (by unfold DF; omega)).trans hm1
  have hkd2 : m2 65 3 = nI kd := (s2 _ _ (by unfold DF; omega)).trans hkd1
  have hv2 : m2 65 4 = v := (s2 _ _ (by unfold DF; omega)).trans hv1
  have hl2 : (l ++ [41] ++ (actT kd v m (x - 1)).2).length ≤ l.length + 6 := by have := actT_len kd v m (x - 1); simp; omega
  refine cw_aload_n (pc := 215) dX1_runs_215 rfl rfl <|
    cw_aload_n (pc := 216) dX1_runs_216 rfl rfl <|
    cw_getI (q := 65) (pc := 217) dX1_runs_217 fX1_31 sh_65 (by decide) rfl <|
    ?_
  rw [hkd2]
  refine cw_iconst (v := 0) (pc := 220) dX1_runs_220 (by decide) <|
    cw_iconst (v := 2) (pc := 221) dX1_runs_221 (by decide) <|
    cw_iload (pc := 222) dX1_runs_222 rfl <|
    cw_invP (q := 65) (pc := 224) dX1_runs_224 (c_runsP (d := d - 1) (k := kd) h2 hm2 hkd2 hv2 hk6 hk6 (by omega) (by omega) (by omega)) rfl vX1_40 sh_65 (by decide) rfl rfl rfl (by omega) <|
    ?_
  rintro _ m3 ⟨rfl, h3, s3⟩
  refine cw_iadd (pc := 227) dX1_runs_227 <|
    cw_iret (pc := 228) dX1_runs_228 hR <|
    ⟨rfl, (by have e := h3; rw [List.append_assoc, List.append_assoc] at e; exact e), s1.tr (s2.tr s3)⟩
theorem c_runsS {E : Ev} {μ : Mem} {l : List Int32} (h : TrAt μ 65 1 66 l) {kd k dp d : Nat} {v m x : Int32} (hm : μ 65 2 = m) (hkd : μ 65 3 = nI kd) (hv : μ 65 4 = v) (hk6 : kd ≤ 6) (hk : k ≤ 6) (hd : 7 ≤ d) (hl : l.length + 8 ≤ 20) (hdp : dp + 6 ≤ 20) : AM E yX1_runs cX1_runs 7 (some .int) d [.ref 65, .int (nI k), .int 2, .int x, .int (nI dp)] μ (fun r μ' => r = some (.int (actS kd k v m x).1) ∧ TrAt μ' 65 1 66 (l ++ (actS kd k v m x).2) ∧ Same DF μ μ') := by
  by_cases e1 : k = 3 ∨ k = 6
  · rw [show actS kd k v m x = ((actT kd v m x).1 ^^^ 7, 31 :: (actT kd v m x).2) from if_pos e1]
    exact c_X1_runs_31 h hm hkd hv hk6 hk hd (by omega) hdp (by rcases e1 with rfl | rfl <;> rfl)
  · by_cases e5 : k = 4
    · rw [show actS kd k v m x = ((actT kd v m (x - 1)).1 + (actP kd m 2).1, 41 :: ((actT kd v m (x - 1)).2 ++ (actP kd m 2).2)) by unfold actS; rw [if_neg e1, if_pos e5]]
      exact c_X1_runs_41 h hm hkd hv hk6 hk hd hl hdp (by subst e5; rfl)
    · rw [show actS kd k v m x = actT kd v m x by unfold actS; rw [if_neg e1, if_neg e5]]
      exact c_X1_runs_3 h hm hkd hv hk6 hk (by omega) (by omega) (by omega) (by rcases (show k = 0 ∨ k = 1 ∨ k = 2 ∨ k = 5 by omega) with rfl | rfl | rfl | rfl <;> rfl)
