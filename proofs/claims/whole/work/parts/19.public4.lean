/-! years -/
def bsY (s : Row) (code : PCo) (n j : Nat) : Int32 := (bestF (naS s) (fun p => scS s code (nI (nN (s 0) + j)) p (pgS s p)) (-999999) n).1
def blY (s : Row) (code : PCo) (mk : Int32) (n j p : Nat) : Bool := decide (p < n) && (naS s p && decide (mk ≤ scS s code (nI (nN (s 0) + j)) p (pgS s p)))
/-- how all is when k YEARS have gone (WINS not held) -/
def evo (s : Row) (code : PCo) (mk : Int32) (n k : Nat) : Row := fun i =>
  if i = 0 then nI (nN (s 0) + k)
  else if 1 ≤ i ∧ i ≤ 6 then (if k = 0 then s i else if blY s code mk n (k - 1) (i - 1) then 1 else 0)
  else if 13 ≤ i ∧ i ≤ 18 then nI (nN (s i) + cntN (bsY s code n) (i - 13) k)
  else s i
def capR (M : Nat) (r : Row) : Row := fun i => if 13 ≤ i ∧ i ≤ 18 then nI (min M (nN (r i))) else r i
theorem evo_o {s : Row} {code : PCo} {mk : Int32} {n k i : Nat} (h : 7 ≤ i ∧ i ≤ 12 ∨ 19 ≤ i) : evo s code mk n k i = s i := by
  unfold evo; rw [if_neg (by omega), if_neg (by omega), if_neg (by omega)]
theorem evo_y {s : Row} {code : PCo} {mk : Int32} {n k : Nat} : evo s code mk n k 0 = nI (nN (s 0) + k) := if_pos rfl
theorem evo_b {s : Row} {code : PCo} {mk : Int32} {n k p : Nat} (hp : p < 6) : evo s code mk n k (1 + p) = if k = 0 then s (1 + p) else if blY s code mk n (k - 1) p then 1 else 0 := by
  unfold evo; rw [if_neg (by omega), if_pos (by omega), show 1 + p - 1 = p by omega]
theorem evo_w {s : Row} {code : PCo} {mk : Int32} {n k p : Nat} (hp : p < 6) : evo s code mk n k (13 + p) = nI (nN (s (13 + p)) + cntN (bsY s code n) p k) := by
  unfold evo; rw [if_neg (by omega), if_neg (by omega), if_pos (by omega), show 13 + p - 13 = p by omega]
theorem capR_o {M : Nat} {r : Row} {i : Nat} (h : ¬ (13 ≤ i ∧ i ≤ 18)) : capR M r i = r i := if_neg h
theorem cnt_le (b : Nat → Int32) (p k : Nat) : cntN b p k ≤ k := by
  induction k with
  | zero => simp [cntN]
  | succ k ih => simp only [cntN]; split <;> omega
theorem nN_min {x : Int32} {w : Nat} (h : x = nI w) (hw : w < 2 ^ 31) : nN x = w := by rw [h]; exact nN_nI hw
/-- the land part stays within its bounds -/
theorem InvL.evo {s : Row} {n Y M : Nat} {code : PCo} {mk : Int32} (h : InvL s n Y M) (k : Nat) (hY : Y + k < 2 ^ 31) (hM : M + k < 2 ^ 31) : InvL (evo s code mk n k) n (Y + k) (M + k) := by
  obtain ⟨h1, h2, ⟨y, hy, ey⟩, h4, h5, h6, h7⟩ := h
  refine ⟨by rw [evo_o (by omega)]; exact h1, h2, ⟨y + k, by omega, by rw [evo_y, ey, nN_nI (by omega)]⟩, fun p hp => ⟨?_, by rw [evo_o (by omega)]; exact (h4 p hp).2⟩, fun p h1 hp => ⟨?_, by rw [evo_o (by omega)]; exact (h5 p h1 hp).2.1, ?_, fun j hj => by rw [evo_o (by omega)]; exact (h5 p h1 hp).2.2.2 j hj⟩, fun p hp => ?_, fun p hp => ?_⟩
  · rw [evo_b hp]
    by_cases hk : k = 0
    · rw [if_pos hk]; exact (h4 p hp).1
    · rw [if_neg hk]; split <;> simp
  · rw [evo_b hp]
    by_cases hk : k = 0
    · rw [if_pos hk]; exact (h5 p h1 hp).1
    · rw [if_neg hk, if_neg (by unfold blY; simp; intro h; omega)]
  · rw [evo_w hp, (h5 p h1 hp).2.2.1]
    have : cntN (bsY s code n) p k = 0 := by
      have nb : ∀ j, ¬ bsY s code n j = nI p := by
        intro j e
        rcases bestF_val (naS s) (fun p => scS s code (nI (nN (s 0) + j)) p (pgS s p)) (-999999) n with h | ⟨q, hq, h⟩
        · have : (-5 : Int32) = nI p := h.symm.trans e
          have h2 : ¬ (-5 : Int32) < 0 := by rw [this]; exact nI_pos (by omega)
          exact h2 (by decide)
        · have : nI q = nI p := h.symm.trans e
          have := (nI_eq (by omega) (by omega)).mp this
          omega
      clear hY hM
      induction k with
      | zero => rfl
      | succ k ih => simp only [cntN]; rw [ih, if_neg (nb k)]
    rw [this]; rfl
  · obtain ⟨w, hw, ew⟩ := h6 p hp
    have := cnt_le (bsY s code n) p k
    exact ⟨w + cntN (bsY s code n) p k, by omega, by rw [evo_w hp, ew, nN_nI (by omega)]⟩
  · rw [evo_o (by omega), evo_o (by omega)]; exact h7 p hp
theorem InvL.cap {s : Row} {n Y M C : Nat} (h : InvL s n Y M) (hM : M < 2 ^ 31) : InvL (capR C s) n Y C := by
  obtain ⟨h1, h2, h3, h4, h5, h6, h7⟩ := h
  refine ⟨by rw [capR_o (by omega)]; exact h1, h2, by rw [capR_o (by omega)]; exact h3, fun p hp => by rw [capR_o (by omega), capR_o (by omega)]; exact h4 p hp, fun p a hp => ⟨by rw [capR_o (by omega)]; exact (h5 p a hp).1, by rw [capR_o (by omega)]; exact (h5 p a hp).2.1, ?_, fun j hj => by rw [capR_o (by omega)]; exact (h5 p a hp).2.2.2 j hj⟩, fun p hp => ?_, fun p hp => by rw [capR_o (by omega), capR_o (by omega)]; exact h7 p hp⟩
  · unfold capR; rw [if_pos (by omega), (h5 p a hp).2.2.1]; simp [nN, nI_0]
  · exact ⟨min C (nN (s (13 + p))), Nat.min_le_left _ _, by unfold capR; rw [if_pos (by omega)]⟩
theorem bestY_eq {μ : Mem} {land n Y M j : Nat} {s : Row} {code : PCo} (h : RelL μ land s) (hi : InvL s n Y M) : bestY μ land code n (nN (s 0)) j = bsY s code n j := by
  have h6 := hi.2.1
  exact congrArg Prod.fst (bestF_congr (fun p hp => h.na (by omega)) (fun p hp _ => h.sy code _ (by omega)))
theorem belY_eq {μ : Mem} {land n Y M j : Nat} {s : Row} {code : PCo} {mk : Int32} (h : RelL μ land s) (hi : InvL s n Y M) : belY μ land code n (nN (s 0)) mk j = bitsI (blY s code mk n j) 6 := by
  have h6 := hi.2.1
  unfold belY
  rw [bitsI_more (f := blY s code mk n j) h6 (fun p h1 h2 => by unfold blY; simp; intro h; omega)]
  exact bitsI_congr (fun p hp => by unfold blY; rw [h.na (by omega), h.sy code _ (by omega)]; simp [hp])
theorem c_years {E : Ev} {P land par : Nat} (hP : PloAt P land par) (hk : LandAt land) (hq : ParAt par) {μ : Mem} {code : PCo} (hc : CodeAt μ par code) (hw : WFc 0 code) (hdis : par + 2 < land ∨ land + 6 < par) {s : Row} {n Y M C mk k : Nat} (hL : RelL μ land s) (hi : InvL s n Y M) (hY : Y ≤ 20000) (hMC : M ≤ C) (hC : C ≤ 1000000) (hk60 : k ≤ 60) (hmk : μ par 3 = nI mk) : AM E yX4_yearsGo cX4_yearsGo 7 none 5 [.ref P, .int (nI k), .int (nI C)] μ (fun r μ' => r = none ∧ RelL μ' land (capR C (evo s code (nI mk) n k)) ∧ Same (FY P land) μ μ') := by
  obtain ⟨i1, i2, ⟨y, hy, ey⟩, i4, i5, i6, i7⟩ := id hi
  have hn0 : nN (s 0) = y := by rw [ey]; exact nN_nI (by omega)
  have b1 := hP.2.2.2.2.1
  refine (c_X4_yearsGo hP hk hq hc hw (hL.men hi) (w := fun p => nN (s (13 + p))) (M := C) (y := y) (hL.1.trans ey) (by omega) hk60 hC (fun p hp => ?_) hdis).mono (fun r μ' h => ?_)
  · obtain ⟨w, hw, ew⟩ := i6 p hp
    rw [(hL.2.2.2.2.2.1 p hp).2.2.2, ew, nN_nI (by omega)]
    exact ⟨rfl, by omega⟩
  · obtain ⟨rfl, g1, g2, g3, g4⟩ := h
    have hb : bestY μ land code n y = bsY s code n := funext fun j => by rw [← hn0]; exact bestY_eq hL hi
    obtain ⟨a1, a2, a3, a4, a5, a6, a7⟩ := id hL
    have fr : ∀ q i, ¬ FY P land q i → μ' q i = μ q i := g4
    refine ⟨rfl, ⟨by rw [g1, capR_o (by omega), evo_y, hn0], ?_, ?_, ?_, fun x hx => ?_, fun p hp => ?_, fun j hj => ?_⟩, g4⟩
    · rw [fr _ _ (by unfold FY PS; omega), capR_o (by omega), evo_o (by omega)]; exact a2
    · rw [fr _ _ (by unfold FY PS; omega), a3]
      exact bitsI_congr (fun p hp => by unfold naS; rw [capR_o (by omega), evo_o (by omega)])
    · rw [g3]
      by_cases h0 : k = 0
      · rw [if_pos h0, a4]
        exact bitsI_congr (fun p hp => by unfold beS; rw [capR_o (by omega), evo_b hp, if_pos h0])
      · rw [if_neg h0, hmk, ← hn0, belY_eq hL hi]
        exact bitsI_congr (fun p hp => by
          unfold beS
          rw [capR_o (by omega), evo_b hp, if_neg h0]
          cases blY s code (nI mk) n (k - 1) p <;> simp)
    · rw [fr _ _ (by unfold FY PS; omega), capR_o (by omega), evo_o (by omega)]; exact a5 x hx
    · obtain ⟨c1, c2, c3, c4⟩ := a6 p hp
      refine ⟨by rw [fr _ _ (by unfold FY PS; omega), capR_o (by omega), evo_o (by omega)]; exact c1, by rw [fr _ _ (by unfold FY PS; omega), capR_o (by omega), evo_o (by omega)]; exact c2, by rw [fr _ _ (by unfold FY PS; omega), capR_o (by omega), evo_o (by omega)]; exact c3, ?_⟩
      obtain ⟨w, hw, ew⟩ := i6 p hp
      have := cnt_le (bsY s code n) p k
      rw [g2 p hp, hb]
      unfold capR
      rw [if_pos (by omega), evo_w hp, nN_nI (by rw [ew, nN_nI (by omega)]; omega)]
    · rw [fr _ _ (by unfold FY PS; omega), capR_o (by omega), evo_o (by omega)]; exact a7 j hj
def passA (s : Row) (x : Int32) : Int32 := if 0 ≤ x ∧ x ≤ 60 then (if 9999 < s 0 + x then -3 else s 0 + x) else -2
def passR (s : Row) (code : PCo) (mk n : Nat) (x : Int32) : Row := if (0 ≤ x ∧ x ≤ 60) ∧ ¬ 9999 < s 0 + x then capR 9999 (evo s code (nI mk) n (nN x)) else s
set_option maxHeartbeats 4000000 in
set_option maxRecDepth 100000 in
theorem c_X8_pass {E : Ev} {μ : Mem} {s : Row} {n mk : Nat} {code : PCo} (hI : Inv s n code mk) (hR1 : Rel μ 1 s code mk) {x : Int32} : AM E yX8_pass cX8_pass 2 (some .int) 6 [.ref 0, .int x] μ (fun r μ' => (r = some (.int (passA s x)) ∧ Rel μ' 1 (passR s code mk n x) code mk) ∧ Same PB μ μ') := by
  refine am_of (own := RX8) (L := [.ref 0, .int x]) (by decide) rfl (Nat.le_of_ble_eq_true rfl) rfl (fun Γ hR => ?_)
  have hR0 := hR1
  obtain ⟨hIL, hIP, hIC, hIS, hIW, hIB, hIT⟩ := hI
  obtain ⟨hL, ⟨hcd, hmk⟩, hT, hC, hS, hW, hB, hnp⟩ := hR1
  have hn := hIL.1
  have h6 := hIL.2.1
  have h31 : μ 2 1 = s 31 := hL.2.1
  obtain ⟨y, hy, ey⟩ := hIL.2.2.1
  have e0 : μ 2 0 = s 0 := hL.1
  by_cases hx : 0 ≤ x ∧ x ≤ 60
  · obtain ⟨k, hk, rfl⟩ := ix_of (n := 61) (by decide) ⟨hx.1, Int32.lt_of_le_of_lt hx.2 (by decide)⟩
    by_cases hf : 9999 < s 0 + nI k
    · refine cw_iload_n (pc := 0) dX8_pass_0 rfl rfl <|
        cw_if_lt_F (tgt := 10) (pc := 1) dX8_pass_1 (by decide) (Int32.not_lt.mpr hx.1) <|
        cw_iload_n (pc := 4) dX8_pass_4 rfl rfl <|
        cw_bipush (v := 60) (pc := 5) dX8_pass_5 (by decide) <|
        cw_icmp_le_T (tgt := 13) (pc := 7) dX8_pass_7 (by decide) hx.2 <|
        cw_aload_n (pc := 13) dX8_pass_13 rfl rfl <|
        cw_getR (q := 0) (t := 2) (pc := 14) dX8_pass_14 fX8_25 sh_0 (by decide) rfl <|
        cw_getI (q := 2) (pc := 17) dX8_pass_17 fX8_165 sh_2 (by decide) rfl <|
        cw_iload_n (pc := 20) dX8_pass_20 rfl rfl <|
        cw_iadd (pc := 21) dX8_pass_21 <|
        cw_sipush (v := 9999) (pc := 22) dX8_pass_22 (by decide) <|
        cw_icmp_le_F (tgt := 31) (pc := 25) dX8_pass_25 (by decide) (by rw [e0]; exact Int32.not_le.mpr hf) <|
        cw_bipush (v := -3) (pc := 28) dX8_pass_28 (by decide) <|
        cw_iret (pc := 30) dX8_pass_30 hR <|
        ⟨⟨by rw [passA, if_pos hx, if_pos hf], by rw [passR, if_neg (fun h => h.2 hf)]; exact hR0⟩, by first | exact Same.rf | (exact q2.mo (fun q i h => by unfold FY PS at h; unfold PB; omega)) | (repeat (refine Same.s1 ?_ (by unfold PB; omega))); exact Same.rf⟩
    · refine cw_iload_n (pc := 0) dX8_pass_0 rfl rfl <|
        cw_if_lt_F (tgt := 10) (pc := 1) dX8_pass_1 (by decide) (Int32.not_lt.mpr hx.1) <|
        cw_iload_n (pc := 4) dX8_pass_4 rfl rfl <|
        cw_bipush (v := 60) (pc := 5) dX8_pass_5 (by decide) <|
        cw_icmp_le_T (tgt := 13) (pc := 7) dX8_pass_7 (by decide) hx.2 <|
        cw_aload_n (pc := 13) dX8_pass_13 rfl rfl <|
        cw_getR (q := 0) (t := 2) (pc := 14) dX8_pass_14 fX8_25 sh_0 (by decide) rfl <|
        cw_getI (q := 2) (pc := 17) dX8_pass_17 fX8_165 sh_2 (by decide) rfl <|
        cw_iload_n (pc := 20) dX8_pass_20 rfl rfl <|
        cw_iadd (pc := 21) dX8_pass_21 <|
        cw_sipush (v := 9999) (pc := 22) dX8_pass_22 (by decide) <|
        cw_icmp_le_T (tgt := 31) (pc := 25) dX8_pass_25 (by decide) (by rw [e0]; exact Int32.not_lt.mp hf) <|
        cw_aload_n (pc := 31) dX8_pass_31 rfl rfl <|
        cw_getR (q := 0) (t := 50) (pc := 32) dX8_pass_32 fX8_35 sh_0 (by decide) rfl <|
        cw_iload_n (pc := 35) dX8_pass_35 rfl rfl <|
        cw_sipush (v := 9999) (pc := 36) dX8_pass_36 (by decide) <|
        cw_invP (q := 50) (pc := 39) dX8_pass_39 (c_years plo_50 land_2 par_9 hcd hIP.2.2.2 (by decide) (C := 9999) hL hIL (by decide) (by decide) (by decide) (by omega) hmk) rfl vX8_174 sh_50 (by decide) rfl rfl rfl (by decide) <|
        ?_
      rintro _ m1 ⟨rfl, q1, q2⟩
      refine cw_aload_n (pc := 42) dX8_pass_42 rfl rfl <|
        cw_getR (q := 0) (t := 2) (pc := 43) dX8_pass_43 fX8_25 sh_0 (by decide) rfl <|
        cw_getI (q := 2) (pc := 46) dX8_pass_46 fX8_165 sh_2 (by decide) rfl <|
        cw_iret (pc := 49) dX8_pass_49 hR <|
        ⟨⟨by
      rw [passA, if_pos hx, if_neg hf, q1.1, capR_o (by omega), evo_y, ey, nN_nI (by omega), nI_add], by
      rw [passR, if_pos ⟨hx, hf⟩, nN_nI (by omega)]
      have g : ∀ q, 8 < q → q ≤ 21 → m1 q = μ q := fun q a b => funext fun i => q2 _ _ (by unfold FY PS; omega)
      have g1 : m1 1 = μ 1 := funext fun i => q2 _ _ (by unfold FY PS; omega)
      exact hR0.pL q1 (fun q a b h => by
        by_cases e : q = 1
        · subst e; exact g1
        · exact g q (by omega) (by omega)) (fun i hi => by rw [capR_o (by omega), evo_o (by omega)])⟩, by first | exact Same.rf | (exact q2.mo (fun q i h => by unfold FY PS at h; unfold PB; omega)) | (repeat (refine Same.s1 ?_ (by unfold PB; omega))); exact Same.rf⟩
  · refine cw_iload_n (pc := 0) dX8_pass_0 rfl rfl <|
      cw_if_lt (tgt := 10) (pc := 1) dX8_pass_1 (by decide) (fun c1 => ?_) (fun c1 => ?_)
    · refine cw_bipush (v := -2) (pc := 10) dX8_pass_10 (by decide) <|
        cw_iret (pc := 12) dX8_pass_12 hR <|
        ⟨⟨by rw [passA, if_neg hx], by rw [passR, if_neg (fun h => hx h.1)]; exact hR0⟩, by first | exact Same.rf | (exact q2.mo (fun q i h => by unfold FY PS at h; unfold PB; omega)) | (repeat (refine Same.s1 ?_ (by unfold PB; omega))); exact Same.rf⟩
    · refine cw_iload_n (pc := 4) dX8_pass_4 rfl rfl <|
        cw_bipush (v := 60) (pc := 5) dX8_pass_5 (by decide) <|
        cw_icmp_le (tgt := 13) (pc := 7) dX8_pass_7 (by decide) (fun c7 => ?_) (fun c7 => ?_)
      · exact absurd ⟨Int32.not_lt.mp c1, c7⟩ hx
      · refine cw_bipush (v := -2) (pc := 10) dX8_pass_10 (by decide) <|
          cw_iret (pc := 12) dX8_pass_12 hR <|
          ⟨⟨by rw [passA, if_neg hx], by rw [passR, if_neg (fun h => hx h.1)]; exact hR0⟩, by first | exact Same.rf | (exact q2.mo (fun q i h => by unfold FY PS at h; unfold PB; omega)) | (repeat (refine Same.s1 ?_ (by unfold PB; omega))); exact Same.rf⟩
