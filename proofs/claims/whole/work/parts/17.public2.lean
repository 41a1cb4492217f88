theorem RelT.ad {μ : Mem} {s : Row} (h : RelT μ 1 s) {k : Nat} (hk : k < 100) (hs : s 37 = nI k) (x : Int32) : RelT (st (st μ 13 (k * 1) x) 12 2 (nI (k + 1))) 1 (upd (upd s (138 + k) x) 37 (s 37 + 1)) := by
  obtain ⟨a1, a2, a3⟩ := h
  refine ⟨a1, by rw [us, hs, nI_1]; rfl, fun i hi => ?_⟩
  rw [un (by omega)]
  by_cases e : i = k
  · subst e; rw [us]; simp [st_at]
  · rw [un (by omega), ← a3 i hi]; simp [st_at]; intro h; exact absurd h e
theorem RelC.ad {μ : Mem} {s : Row} (h : RelC μ 1 s) {k : Nat} (hk : k < 5) (hs : s 33 = nI k) (a b : Int32) : RelC (st (st (st μ 15 (k * 2) a) 15 (k * 2 + 1) b) 14 2 (nI (k + 1))) 1 (upd (upd (upd s (81 + k) a) (86 + k) b) 33 (s 33 + 1)) := by
  obtain ⟨a1, a2, a3⟩ := h
  refine ⟨a1, by rw [us, hs, nI_1]; rfl, fun i hi => ?_⟩
  by_cases e : i = k
  · subst e; exact ⟨by rw [un (by omega), un (by omega), us]; simp [st_at], by rw [un (by omega), us]; simp [st_at]⟩
  · have e1 : ¬ i * 2 = k * 2 := by omega
    have e2 : ¬ i * 2 = k * 2 + 1 := by omega
    have e3 : ¬ i * 2 + 1 = k * 2 := by omega
    have e4 : ¬ i * 2 + 1 = k * 2 + 1 := by omega
    exact ⟨by rw [un (by omega), un (by omega), un (by omega), ← (a3 i hi).1]; rw [st_at, if_neg (by omega), st_at, if_neg (by omega), st_at, if_neg (by omega)], by rw [un (by omega), un (by omega), un (by omega), ← (a3 i hi).2]; rw [st_at, if_neg (by omega), st_at, if_neg (by omega), st_at, if_neg (by omega)]⟩
theorem RelW.ad {μ : Mem} {s : Row} (h : RelW μ 1 s) {k : Nat} (hk : k < 8) (hs : s 35 = nI k) (a b : Int32) : RelW (st (st (st μ 19 (k * 2) a) 19 (k * 2 + 1) b) 18 2 (nI (k + 1))) 1 (upd (upd (upd s (106 + k) a) (114 + k) b) 35 (s 35 + 1)) := by
  obtain ⟨a1, a2, a3⟩ := h
  refine ⟨a1, by rw [us, hs, nI_1]; rfl, fun i hi => ?_⟩
  by_cases e : i = k
  · subst e; exact ⟨by rw [un (by omega), un (by omega), us]; simp [st_at], by rw [un (by omega), us]; simp [st_at]⟩
  · have e1 : ¬ i * 2 = k * 2 := by omega
    have e2 : ¬ i * 2 = k * 2 + 1 := by omega
    have e3 : ¬ i * 2 + 1 = k * 2 := by omega
    have e4 : ¬ i * 2 + 1 = k * 2 + 1 := by omega
    exact ⟨by rw [un (by omega), un (by omega), un (by omega), ← (a3 i hi).1]; rw [st_at, if_neg (by omega), st_at, if_neg (by omega), st_at, if_neg (by omega)], by rw [un (by omega), un (by omega), un (by omega), ← (a3 i hi).2]; rw [st_at, if_neg (by omega), st_at, if_neg (by omega), st_at, if_neg (by omega)]⟩
theorem RelB.ad {μ : Mem} {s : Row} (h : RelB μ 1 s) {k : Nat} (hk : k < 8) (hs : s 36 = nI k) (a b : Int32) : RelB (st (st (st μ 21 (k * 2) a) 21 (k * 2 + 1) b) 20 2 (nI (k + 1))) 1 (upd (upd (upd s (122 + k) a) (130 + k) b) 36 (s 36 + 1)) := by
  obtain ⟨a1, a2, a3⟩ := h
  refine ⟨a1, by rw [us, hs, nI_1]; rfl, fun i hi => ?_⟩
  by_cases e : i = k
  · subst e; exact ⟨by rw [un (by omega), un (by omega), us]; simp [st_at], by rw [un (by omega), us]; simp [st_at]⟩
  · have e1 : ¬ i * 2 = k * 2 := by omega
    have e2 : ¬ i * 2 = k * 2 + 1 := by omega
    have e3 : ¬ i * 2 + 1 = k * 2 := by omega
    have e4 : ¬ i * 2 + 1 = k * 2 + 1 := by omega
    exact ⟨by rw [un (by omega), un (by omega), un (by omega), ← (a3 i hi).1]; rw [st_at, if_neg (by omega), st_at, if_neg (by omega), st_at, if_neg (by omega)], by rw [un (by omega), un (by omega), un (by omega), ← (a3 i hi).2]; rw [st_at, if_neg (by omega), st_at, if_neg (by omega), st_at, if_neg (by omega)]⟩
theorem RelS.ad {μ : Mem} {s : Row} (h : RelS μ 1 s) {k : Nat} (hk : k < 5) (hs : s 34 = nI k) (a b c : Int32) : RelS (st (st (st (st μ 17 (k * 3) a) 17 (k * 3 + 1) b) 17 (k * 3 + 2) c) 16 2 (nI (k + 1))) 1 (upd (upd (upd (upd s (91 + k) a) (96 + k) b) (101 + k) c) 34 (s 34 + 1)) := by
  obtain ⟨a1, a2, a3⟩ := h
  refine ⟨a1, by rw [us, hs, nI_1]; rfl, fun i hi => ?_⟩
  by_cases e : i = k
  · subst e; exact ⟨by rw [un (by omega), un (by omega), un (by omega), us]; simp [st_at], by rw [un (by omega), un (by omega), us]; simp [st_at], by rw [un (by omega), us]; simp [st_at]⟩
  · have e1 : ¬ i * 3 = k * 3 := by omega
    have e2 : ¬ i * 3 = k * 3 + 1 := by omega
    have e3 : ¬ i * 3 = k * 3 + 2 := by omega
    have e4 : ¬ i * 3 + 1 = k * 3 := by omega
    have e5 : ¬ i * 3 + 1 = k * 3 + 1 := by omega
    have e6 : ¬ i * 3 + 1 = k * 3 + 2 := by omega
    have e7 : ¬ i * 3 + 2 = k * 3 := by omega
    have e8 : ¬ i * 3 + 2 = k * 3 + 1 := by omega
    have e9 : ¬ i * 3 + 2 = k * 3 + 2 := by omega
    exact ⟨by rw [un (by omega), un (by omega), un (by omega), un (by omega), ← (a3 i hi).1]; rw [st_at, if_neg (by omega), st_at, if_neg (by omega), st_at, if_neg (by omega), st_at, if_neg (by omega)], by rw [un (by omega), un (by omega), un (by omega), un (by omega), ← (a3 i hi).2.1]; rw [st_at, if_neg (by omega), st_at, if_neg (by omega), st_at, if_neg (by omega), st_at, if_neg (by omega)], by rw [un (by omega), un (by omega), un (by omega), un (by omega), ← (a3 i hi).2.2]; rw [st_at, if_neg (by omega), st_at, if_neg (by omega), st_at, if_neg (by omega), st_at, if_neg (by omega)]⟩
theorem full_iff {x : Int32} {k m : Nat} (hx : x = nI k) (hk : k ≤ m) (hm : m < 2 ^ 31) : ¬ x = nI m ↔ k < m := by
  rw [hx, nI_eq (by omega) hm]; omega
def feedA (s : Row) (x : Int32) : Int32 := if 0 ≤ x ∧ x ≤ 127 then (if s 37 = 100 then -4 else s 37 + 1) else -2
def feedR (s : Row) (x : Int32) : Row := if (0 ≤ x ∧ x ≤ 127) ∧ ¬ s 37 = 100 then upd (upd s (138 + nN (s 37)) x) 37 (s 37 + 1) else s
set_option maxHeartbeats 4000000 in
set_option maxRecDepth 100000 in
theorem c_X8_feed {E : Ev} {μ : Mem} {s : Row} {n mk : Nat} {code : PCo} (hI : Inv s n code mk) (hR1 : Rel μ 1 s code mk) {x : Int32} : AM E yX8_feed cX8_feed 2 (some .int) 1 [.ref 0, .int x] μ (fun r μ' => (r = some (.int (feedA s x)) ∧ Rel μ' 1 (feedR s x) code mk) ∧ Same PB μ μ') := by
  refine am_of (own := RX8) (L := [.ref 0, .int x]) (by decide) rfl (Nat.le_of_ble_eq_true rfl) rfl (fun Γ hR => ?_)
  have hR0 := hR1
  obtain ⟨hIL, hIP, hIC, hIS, hIW, hIB, hIT⟩ := hI
  obtain ⟨hL, ⟨hcd, hmk⟩, hT, hC, hS, hW, hB, hnp⟩ := hR1
  have hn := hIL.1
  have h6 := hIL.2.1
  have h31 : μ 2 1 = s 31 := hL.2.1
  obtain ⟨k, hk, e37, -⟩ := hIT
  have hfl := full_iff (m := 100) e37 hk (by decide)
  have hnk : nN (s 37) = k := by rw [e37]; exact nN_nI (by omega)
  by_cases hx : 0 ≤ x ∧ x ≤ 127
  · refine cw_iload_n (pc := 0) dX8_feed_0 rfl rfl <|
      cw_if_lt_F (tgt := 10) (pc := 1) dX8_feed_1 (by decide) (Int32.not_lt.mpr hx.1) <|
      cw_iload_n (pc := 4) dX8_feed_4 rfl rfl <|
      cw_bipush (v := 127) (pc := 5) dX8_feed_5 (by decide) <|
      cw_icmp_le_T (tgt := 15) (pc := 7) dX8_feed_7 (by decide) hx.2 <|
      cw_aload_n (pc := 15) dX8_feed_15 rfl rfl <|
      cw_getR (q := 0) (t := 1) (pc := 16) dX8_feed_16 fX8_12 sh_0 (by decide) rfl <|
      cw_getR (q := 1) (t := 12) (pc := 19) dX8_feed_19 fX8_57 sh_1 (by decide) rfl <|
      cw_iload_n (pc := 22) dX8_feed_22 rfl rfl <|
      cw_iconst (v := 0) (pc := 23) dX8_feed_23 (by decide) <|
      cw_iconst (v := 0) (pc := 24) dX8_feed_24 (by decide) <|
      cw_invP (q := 12) (pc := 25) dX8_feed_25 (c_X6_adds_1 row_12 (sz := k) (most := 100) hT.1 (hT.2.1.trans e37) rfl hk) rfl vX8_75 sh_12 (by decide) rfl rfl rfl (by decide) <|
      ?_
    rintro r' μ' ⟨q1, q2⟩
    by_cases hf : s 37 = 100
    · obtain ⟨rfl, rfl⟩ := q2 (fun h => (hfl.mpr h) hf)
      exact cw_iret (pc := 28) dX8_feed_28 hR ⟨⟨by rw [feedA, if_pos hx, if_pos hf], by rw [feedR, if_neg (fun h => h.2 hf)]; exact hR0⟩, by first | exact Same.rf | (exact q2.mo (fun q i h => by unfold FY PS at h; unfold PB; omega)) | (repeat (refine Same.s1 ?_ (by unfold PB; omega))); exact Same.rf⟩
    · have hk2 := hfl.mp hf
      obtain ⟨rfl, rfl⟩ := q1 hk2
      exact cw_iret (pc := 28) dX8_feed_28 hR ⟨⟨by rw [feedA, if_pos hx, if_neg hf, e37, nI_1], by
        rw [feedR, if_pos ⟨hx, hf⟩, hnk]
        exact hR0.pT (hT.ad (hfl.mp hf) e37 x) (fun q _ _ h => (st_ne _ _ (by omega)).trans (st_ne _ _ (by omega))) (fun i hi => (un (by omega)).trans (un (by omega)))⟩, by first | exact Same.rf | (exact q2.mo (fun q i h => by unfold FY PS at h; unfold PB; omega)) | (repeat (refine Same.s1 ?_ (by unfold PB; omega))); exact Same.rf⟩
  · refine cw_iload_n (pc := 0) dX8_feed_0 rfl rfl <|
      cw_if_lt (tgt := 10) (pc := 1) dX8_feed_1 (by decide) (fun c1 => ?_) (fun c1 => ?_)
    · refine cw_bipush (v := -2) (pc := 10) dX8_feed_10 (by decide) <|
        cw_goto (tgt := 28) (pc := 12) dX8_feed_12 (by decide) <|
        cw_iret (pc := 28) dX8_feed_28 hR <|
        ⟨⟨by rw [feedA, if_neg hx], by rw [feedR, if_neg (fun h => hx h.1)]; exact hR0⟩, by first | exact Same.rf | (exact q2.mo (fun q i h => by unfold FY PS at h; unfold PB; omega)) | (repeat (refine Same.s1 ?_ (by unfold PB; omega))); exact Same.rf⟩
    · refine cw_iload_n (pc := 4) dX8_feed_4 rfl rfl <|
        cw_bipush (v := 127) (pc := 5) dX8_feed_5 (by decide) <|
        cw_icmp_le (tgt := 15) (pc := 7) dX8_feed_7 (by decide) (fun c7 => ?_) (fun c7 => ?_)
      · exact absurd ⟨Int32.not_lt.mp c1, c7⟩ hx
      · refine cw_bipush (v := -2) (pc := 10) dX8_feed_10 (by decide) <|
          cw_goto (tgt := 28) (pc := 12) dX8_feed_12 (by decide) <|
          cw_iret (pc := 28) dX8_feed_28 hR <|
          ⟨⟨by rw [feedA, if_neg hx], by rw [feedR, if_neg (fun h => hx h.1)]; exact hR0⟩, by first | exact Same.rf | (exact q2.mo (fun q i h => by unfold FY PS at h; unfold PB; omega)) | (repeat (refine Same.s1 ?_ (by unfold PB; omega))); exact Same.rf⟩
def pleadA (s : Row) (a b : Int32) : Int32 := if (0 ≤ a ∧ a < s 31) ∧ (0 ≤ b ∧ b < s 31) then (if a = b then -2 else if s 33 = 5 then -4 else s 33) else -1
def pleadR (s : Row) (a b : Int32) : Row := if ((0 ≤ a ∧ a < s 31) ∧ (0 ≤ b ∧ b < s 31)) ∧ ¬ a = b ∧ ¬ s 33 = 5 then upd (upd (upd s (81 + nN (s 33)) a) (86 + nN (s 33)) b) 33 (s 33 + 1) else s
set_option maxHeartbeats 4000000 in
set_option maxRecDepth 100000 in
theorem c_X8_plead {E : Ev} {μ : Mem} {s : Row} {n mk : Nat} {code : PCo} (hI : Inv s n code mk) (hR1 : Rel μ 1 s code mk) {a b : Int32} : AM E yX8_plead cX8_plead 4 (some .int) 1 [.ref 0, .int a, .int b] μ (fun r μ' => (r = some (.int (pleadA s a b)) ∧ Rel μ' 1 (pleadR s a b) code mk) ∧ Same PB μ μ') := by
  refine am_of (own := RX8) (L := [.ref 0, .int a, .int b, .null]) (by decide) rfl (Nat.le_of_ble_eq_true rfl) rfl (fun Γ hR => ?_)
  have hR0 := hR1
  obtain ⟨hIL, hIP, hIC, hIS, hIW, hIB, hIT⟩ := hI
  obtain ⟨hL, ⟨hcd, hmk⟩, hT, hC, hS, hW, hB, hnp⟩ := hR1
  have hn := hIL.1
  have h6 := hIL.2.1
  have h31 : μ 2 1 = s 31 := hL.2.1
  obtain ⟨k, hk, e33, -⟩ := hIC
  have hfl := full_iff (m := 5) e33 hk (by decide)
  have hnk : nN (s 33) = k := by rw [e33]; exact nN_nI (by omega)
  by_cases ha : 0 ≤ a ∧ a < s 31
  · by_cases hb : 0 ≤ b ∧ b < s 31
    · by_cases hab : a = b
      · refine cw_aload_n (pc := 0) dX8_plead_0 rfl rfl <|
          cw_getR (q := 0) (t := 2) (pc := 1) dX8_plead_1 fX8_25 sh_0 (by decide) rfl <|
          cw_iload_n (pc := 4) dX8_plead_4 rfl rfl <|
          cw_invI (q := 2) (pc := 5) dX8_plead_5 (c_has land_2 h31 hn h6) rfl vX8_112 sh_2 (by decide) rfl rfl rfl (by decide) <|
          cw_if_eq_F (tgt := 22) (pc := 8) dX8_plead_8 (by decide) (bI_n0.mpr ha) <|
          cw_aload_n (pc := 11) dX8_plead_11 rfl rfl <|
          cw_getR (q := 0) (t := 2) (pc := 12) dX8_plead_12 fX8_25 sh_0 (by decide) rfl <|
          cw_iload_n (pc := 15) dX8_plead_15 rfl rfl <|
          cw_invI (q := 2) (pc := 16) dX8_plead_16 (c_has land_2 h31 hn h6) rfl vX8_112 sh_2 (by decide) rfl rfl rfl (by decide) <|
          cw_if_ne_T (tgt := 24) (pc := 19) dX8_plead_19 (by decide) (bI_n0.mpr hb) <|
          cw_iload_n (pc := 24) dX8_plead_24 rfl rfl <|
          cw_iload_n (pc := 25) dX8_plead_25 rfl rfl <|
          cw_icmp_ne_F (tgt := 32) (pc := 26) dX8_plead_26 (by decide) hab <|
          cw_bipush (v := -2) (pc := 29) dX8_plead_29 (by decide) <|
          cw_iret (pc := 31) dX8_plead_31 hR <|
          ⟨⟨by rw [pleadA, if_pos ⟨ha, hb⟩, if_pos hab], by rw [pleadR, if_neg (fun h => h.2.1 hab)]; exact hR0⟩, by first | exact Same.rf | (exact q2.mo (fun q i h => by unfold FY PS at h; unfold PB; omega)) | (repeat (refine Same.s1 ?_ (by unfold PB; omega))); exact Same.rf⟩
      · refine cw_aload_n (pc := 0) dX8_plead_0 rfl rfl <|
          cw_getR (q := 0) (t := 2) (pc := 1) dX8_plead_1 fX8_25 sh_0 (by decide) rfl <|
          cw_iload_n (pc := 4) dX8_plead_4 rfl rfl <|
          cw_invI (q := 2) (pc := 5) dX8_plead_5 (c_has land_2 h31 hn h6) rfl vX8_112 sh_2 (by decide) rfl rfl rfl (by decide) <|
          cw_if_eq_F (tgt := 22) (pc := 8) dX8_plead_8 (by decide) (bI_n0.mpr ha) <|
          cw_aload_n (pc := 11) dX8_plead_11 rfl rfl <|
          cw_getR (q := 0) (t := 2) (pc := 12) dX8_plead_12 fX8_25 sh_0 (by decide) rfl <|
          cw_iload_n (pc := 15) dX8_plead_15 rfl rfl <|
          cw_invI (q := 2) (pc := 16) dX8_plead_16 (c_has land_2 h31 hn h6) rfl vX8_112 sh_2 (by decide) rfl rfl rfl (by decide) <|
          cw_if_ne_T (tgt := 24) (pc := 19) dX8_plead_19 (by decide) (bI_n0.mpr hb) <|
          cw_iload_n (pc := 24) dX8_plead_24 rfl rfl <|
          cw_iload_n (pc := 25) dX8_plead_25 rfl rfl <|
          cw_icmp_ne_T (tgt := 32) (pc := 26) dX8_plead_26 (by decide) hab <|
          cw_aload_n (pc := 32) dX8_plead_32 rfl rfl <|
          cw_getR (q := 0) (t := 1) (pc := 33) dX8_plead_33 fX8_12 sh_0 (by decide) rfl <|
          cw_getR (q := 1) (t := 14) (pc := 36) dX8_plead_36 fX8_156 sh_1 (by decide) rfl <|
          cw_iload_n (pc := 39) dX8_plead_39 rfl rfl <|
          cw_iload_n (pc := 40) dX8_plead_40 rfl rfl <|
          cw_iconst (v := 0) (pc := 41) dX8_plead_41 (by decide) <|
          cw_invP (q := 14) (pc := 42) dX8_plead_42 (c_X6_adds_2 row_14 (sz := k) (most := 5) hC.1 (hC.2.1.trans e33) rfl hk) rfl vX8_75 sh_14 (by decide) rfl rfl rfl (by decide) <|
          ?_
        rintro r' μ' ⟨q1, q2⟩
        by_cases hf : s 33 = 5
        · obtain ⟨rfl, rfl⟩ := q2 (fun h => (hfl.mpr h) hf)
          skip
          refine cw_istore_n (L' := [_, _, _, _]) (pc := 45) dX8_plead_45 rfl (by decide) rfl rfl <|
            cw_iload_n (pc := 46) dX8_plead_46 rfl rfl <|
            cw_if_ge_F (tgt := 54) (pc := 47) dX8_plead_47 (by decide) (by decide) <|
            cw_iload_n (pc := 50) dX8_plead_50 rfl rfl <|
            cw_goto (tgt := 57) (pc := 51) dX8_plead_51 (by decide) <|
            cw_iret (pc := 57) dX8_plead_57 hR <|
            ⟨⟨by rw [pleadA, if_pos ⟨ha, hb⟩, if_neg hab, if_pos hf], by rw [pleadR, if_neg (fun h => h.2.2 hf)]; exact hR0⟩, by first | exact Same.rf | (exact q2.mo (fun q i h => by unfold FY PS at h; unfold PB; omega)) | (repeat (refine Same.s1 ?_ (by unfold PB; omega))); exact Same.rf⟩
        · have hk2 := hfl.mp hf
          obtain ⟨rfl, rfl⟩ := q1 hk2
          refine cw_istore_n (L' := [_, _, _, _]) (pc := 45) dX8_plead_45 rfl (by decide) rfl rfl <|
            cw_iload_n (pc := 46) dX8_plead_46 rfl rfl <|
            cw_if_ge_T (tgt := 54) (pc := 47) dX8_plead_47 (by decide) (nI_pos' (by omega)) <|
            cw_iload_n (pc := 54) dX8_plead_54 rfl rfl <|
            cw_iconst (v := 1) (pc := 55) dX8_plead_55 (by decide) <|
            cw_isub (pc := 56) dX8_plead_56 <|
            cw_iret (pc := 57) dX8_plead_57 hR <|
            ⟨⟨by rw [pleadA, if_pos ⟨ha, hb⟩, if_neg hab, if_neg hf, e33, show nI (k + 1) - 1 = nI k from pk_sub (b := 1) (by omega)], by
          rw [pleadR, if_pos ⟨⟨ha, hb⟩, hab, hf⟩, hnk]
          exact hR0.pC (hC.ad (hfl.mp hf) e33 a b) (fun q _ _ h => (st_ne _ _ (by omega)).trans ((st_ne _ _ (by omega)).trans (st_ne _ _ (by omega)))) (fun i hi => (un (by omega)).trans ((un (by omega)).trans (un (by omega))))⟩, by first | exact Same.rf | (exact q2.mo (fun q i h => by unfold FY PS at h; unfold PB; omega)) | (repeat (refine Same.s1 ?_ (by unfold PB; omega))); exact Same.rf⟩
    · refine cw_aload_n (pc := 0) dX8_plead_0 rfl rfl <|
        cw_getR (q := 0) (t := 2) (pc := 1) dX8_plead_1 fX8_25 sh_0 (by decide) rfl <|
        cw_iload_n (pc := 4) dX8_plead_4 rfl rfl <|
        cw_invI (q := 2) (pc := 5) dX8_plead_5 (c_has land_2 h31 hn h6) rfl vX8_112 sh_2 (by decide) rfl rfl rfl (by decide) <|
        cw_if_eq_F (tgt := 22) (pc := 8) dX8_plead_8 (by decide) (bI_n0.mpr ha) <|
        cw_aload_n (pc := 11) dX8_plead_11 rfl rfl <|
        cw_getR (q := 0) (t := 2) (pc := 12) dX8_plead_12 fX8_25 sh_0 (by decide) rfl <|
        cw_iload_n (pc := 15) dX8_plead_15 rfl rfl <|
        cw_invI (q := 2) (pc := 16) dX8_plead_16 (c_has land_2 h31 hn h6) rfl vX8_112 sh_2 (by decide) rfl rfl rfl (by decide) <|
        cw_if_ne_F (tgt := 24) (pc := 19) dX8_plead_19 (by decide) (bI_0.mpr hb) <|
        cw_iconst (v := -1) (pc := 22) dX8_plead_22 (by decide) <|
        cw_iret (pc := 23) dX8_plead_23 hR <|
        ⟨⟨by rw [pleadA, if_neg (fun h => hb h.2)], by rw [pleadR, if_neg (fun h => hb h.1.2)]; exact hR0⟩, by first | exact Same.rf | (exact q2.mo (fun q i h => by unfold FY PS at h; unfold PB; omega)) | (repeat (refine Same.s1 ?_ (by unfold PB; omega))); exact Same.rf⟩
  · refine cw_aload_n (pc := 0) dX8_plead_0 rfl rfl <|
      cw_getR (q := 0) (t := 2) (pc := 1) dX8_plead_1 fX8_25 sh_0 (by decide) rfl <|
      cw_iload_n (pc := 4) dX8_plead_4 rfl rfl <|
      cw_invI (q := 2) (pc := 5) dX8_plead_5 (c_has land_2 h31 hn h6) rfl vX8_112 sh_2 (by decide) rfl rfl rfl (by decide) <|
      cw_if_eq_T (tgt := 22) (pc := 8) dX8_plead_8 (by decide) (bI_0.mpr ha) <|
      cw_iconst (v := -1) (pc := 22) dX8_plead_22 (by decide) <|
      cw_iret (pc := 23) dX8_plead_23 hR <|
      ⟨⟨by rw [pleadA, if_neg (fun h => ha h.1)], by rw [pleadR, if_neg (fun h => ha h.1.1)]; exact hR0⟩, by first | exact Same.rf | (exact q2.mo (fun q i h => by unfold FY PS at h; unfold PB; omega)) | (repeat (refine Same.s1 ?_ (by unfold PB; omega))); exact Same.rf⟩
def bookA (s : Row) (x l : Int32) : Int32 := if x = -1 then 0 else if (0 ≤ x ∧ x < s 31) ∧ (0 ≤ l ∧ l < 9) then (if s 36 = 8 then -4 else s 36 + 1) else -1
def bookR (s : Row) (x l : Int32) : Row := if x = -1 then upd s 36 0 else if ((0 ≤ x ∧ x < s 31) ∧ (0 ≤ l ∧ l < 9)) ∧ ¬ s 36 = 8 then upd (upd (upd s (122 + nN (s 36)) x) (130 + nN (s 36)) l) 36 (s 36 + 1) else s
theorem RelB.em {μ : Mem} {s : Row} (h : RelB μ 1 s) : RelB (st μ 20 2 0) 1 (upd s 36 0) := ⟨h.1, by rw [us]; rfl, fun i hi => by rw [un (by omega), un (by omega)]; exact h.2.2 i hi⟩
theorem RelW.em {μ : Mem} {s : Row} (h : RelW μ 1 s) : RelW (st μ 18 2 0) 1 (upd s 35 0) := ⟨h.1, by rw [us]; rfl, fun i hi => by rw [un (by omega), un (by omega)]; exact h.2.2 i hi⟩
theorem RelS.em {μ : Mem} {s : Row} (h : RelS μ 1 s) : RelS (st μ 16 2 0) 1 (upd s 34 0) := ⟨h.1, by rw [us]; rfl, fun i hi => by rw [un (by omega), un (by omega), un (by omega)]; exact h.2.2 i hi⟩
theorem RelT.em {μ : Mem} {s : Row} (h : RelT μ 1 s) : RelT (st μ 12 2 0) 1 (upd s 37 0) := ⟨h.1, by rw [us]; rfl, fun i hi => by rw [un (by omega)]; exact h.2.2 i hi⟩
theorem m1_not {s : Row} : ¬ (0 ≤ (-1 : Int32) ∧ (-1 : Int32) < s 31) := fun h => absurd h.1 (by decide)
set_option maxHeartbeats 4000000 in
set_option maxRecDepth 100000 in
theorem c_X8_book {E : Ev} {μ : Mem} {s : Row} {n mk : Nat} {code : PCo} (hI : Inv s n code mk) (hR1 : Rel μ 1 s code mk) {x l : Int32} : AM E yX8_book cX8_book 3 (some .int) 1 [.ref 0, .int x, .int l] μ (fun r μ' => (r = some (.int (bookA s x l)) ∧ Rel μ' 1 (bookR s x l) code mk) ∧ Same PB μ μ') := by
  refine am_of (own := RX8) (L := [.ref 0, .int x, .int l]) (by decide) rfl (Nat.le_of_ble_eq_true rfl) rfl (fun Γ hR => ?_)
  have hR0 := hR1
  obtain ⟨hIL, hIP, hIC, hIS, hIW, hIB, hIT⟩ := hI
  obtain ⟨hL, ⟨hcd, hmk⟩, hT, hC, hS, hW, hB, hnp⟩ := hR1
  have hn := hIL.1
  have h6 := hIL.2.1
  have h31 : μ 2 1 = s 31 := hL.2.1
  obtain ⟨k, hk, e36, -⟩ := hIB
  have hfl := full_iff (m := 8) e36 hk (by decide)
  have hnk : nN (s 36) = k := by rw [e36]; exact nN_nI (by omega)
  by_cases h0 : x = -1
  · refine cw_iload_n (pc := 0) dX8_book_0 rfl rfl <|
      cw_iconst (v := -1) (pc := 1) dX8_book_1 (by decide) <|
      cw_icmp_ne_F (tgt := 16) (pc := 2) dX8_book_2 (by decide) h0 <|
      cw_aload_n (pc := 5) dX8_book_5 rfl rfl <|
      cw_getR (q := 0) (t := 1) (pc := 6) dX8_book_6 fX8_12 sh_0 (by decide) rfl <|
      cw_getR (q := 1) (t := 20) (pc := 9) dX8_book_9 fX8_258 sh_1 (by decide) rfl <|
      cw_invI (q := 20) (pc := 12) dX8_book_12 (c_X6_empties row_20) rfl vX8_89 sh_20 (by decide) rfl rfl rfl (by decide) <|
      cw_iret (pc := 15) dX8_book_15 hR <|
      ⟨⟨by rw [bookA, if_pos h0], by rw [bookR, if_pos h0]; exact hR0.pB hB.em (fun q _ _ h => st_ne _ _ (by omega)) (fun i hi => un (by omega))⟩, by first | exact Same.rf | (exact q2.mo (fun q i h => by unfold FY PS at h; unfold PB; omega)) | (repeat (refine Same.s1 ?_ (by unfold PB; omega))); exact Same.rf⟩
  · by_cases hx : 0 ≤ x ∧ x < s 31
    · by_cases hl : 0 ≤ l ∧ l < 9
      · refine cw_iload_n (pc := 0) dX8_book_0 rfl rfl <|
          cw_iconst (v := -1) (pc := 1) dX8_book_1 (by decide) <|
          cw_icmp_ne_T (tgt := 16) (pc := 2) dX8_book_2 (by decide) h0 <|
          cw_aload_n (pc := 16) dX8_book_16 rfl rfl <|
          cw_getR (q := 0) (t := 2) (pc := 17) dX8_book_17 fX8_25 sh_0 (by decide) rfl <|
          cw_iload_n (pc := 20) dX8_book_20 rfl rfl <|
          cw_invI (q := 2) (pc := 21) dX8_book_21 (c_has land_2 h31 hn h6) rfl vX8_112 sh_2 (by decide) rfl rfl rfl (by decide) <|
          cw_if_eq_F (tgt := 50) (pc := 24) dX8_book_24 (by decide) (bI_n0.mpr hx) <|
          cw_iload_n (pc := 27) dX8_book_27 rfl rfl <|
          cw_insI (pc := 28) dX8_book_28 c_X8_isLane vX8_105 rfl rfl rfl (by decide) <|
          cw_if_eq_F (tgt := 50) (pc := 31) dX8_book_31 (by decide) (bI_n0.mpr hl) <|
          cw_aload_n (pc := 34) dX8_book_34 rfl rfl <|
          cw_getR (q := 0) (t := 1) (pc := 35) dX8_book_35 fX8_12 sh_0 (by decide) rfl <|
          cw_getR (q := 1) (t := 20) (pc := 38) dX8_book_38 fX8_258 sh_1 (by decide) rfl <|
          cw_iload_n (pc := 41) dX8_book_41 rfl rfl <|
          cw_iload_n (pc := 42) dX8_book_42 rfl rfl <|
          cw_iconst (v := 0) (pc := 43) dX8_book_43 (by decide) <|
          cw_invP (q := 20) (pc := 44) dX8_book_44 (c_X6_adds_2 row_20 (sz := k) (most := 8) hB.1 (hB.2.1.trans e36) rfl hk) rfl vX8_75 sh_20 (by decide) rfl rfl rfl (by decide) <|
          ?_
        rintro r' μ' ⟨q1, q2⟩
        refine cw_goto (tgt := 51) (pc := 47) dX8_book_47 (by decide) <|
          ?_
        by_cases hf : s 36 = 8
        · obtain ⟨rfl, rfl⟩ := q2 (fun h => (hfl.mpr h) hf)
          exact cw_iret (pc := 51) dX8_book_51 hR ⟨⟨by rw [bookA, if_neg h0, if_pos ⟨hx, hl⟩, if_pos hf], by rw [bookR, if_neg h0, if_neg (fun h => h.2 hf)]; exact hR0⟩, by first | exact Same.rf | (exact q2.mo (fun q i h => by unfold FY PS at h; unfold PB; omega)) | (repeat (refine Same.s1 ?_ (by unfold PB; omega))); exact Same.rf⟩
        · have hk2 := hfl.mp hf
          obtain ⟨rfl, rfl⟩ := q1 hk2
          exact cw_iret (pc := 51) dX8_book_51 hR ⟨⟨by rw [bookA, if_neg h0, if_pos ⟨hx, hl⟩, if_neg hf, e36, nI_1], by
            rw [bookR, if_neg h0, if_pos ⟨⟨hx, hl⟩, hf⟩, hnk]
            exact hR0.pB (hB.ad (hfl.mp hf) e36 x l) (fun q _ _ h => (st_ne _ _ (by omega)).trans ((st_ne _ _ (by omega)).trans (st_ne _ _ (by omega)))) (fun i hi => (un (by omega)).trans ((un (by omega)).trans (un (by omega))))⟩, by first | exact Same.rf | (exact q2.mo (fun q i h => by unfold FY PS at h; unfold PB; omega)) | (repeat (refine Same.s1 ?_ (by unfold PB; omega))); exact Same.rf⟩
      · refine cw_iload_n (pc := 0) dX8_book_0 rfl rfl <|
          cw_iconst (v := -1) (pc := 1) dX8_book_1 (by decide) <|
          cw_icmp_ne_T (tgt := 16) (pc := 2) dX8_book_2 (by decide) h0 <|
          cw_aload_n (pc := 16) dX8_book_16 rfl rfl <|
          cw_getR (q := 0) (t := 2) (pc := 17) dX8_book_17 fX8_25 sh_0 (by decide) rfl <|
          cw_iload_n (pc := 20) dX8_book_20 rfl rfl <|
          cw_invI (q := 2) (pc := 21) dX8_book_21 (c_has land_2 h31 hn h6) rfl vX8_112 sh_2 (by decide) rfl rfl rfl (by decide) <|
          cw_if_eq_F (tgt := 50) (pc := 24) dX8_book_24 (by decide) (bI_n0.mpr hx) <|
          cw_iload_n (pc := 27) dX8_book_27 rfl rfl <|
          cw_insI (pc := 28) dX8_book_28 c_X8_isLane vX8_105 rfl rfl rfl (by decide) <|
          cw_if_eq_T (tgt := 50) (pc := 31) dX8_book_31 (by decide) (bI_0.mpr hl) <|
          cw_iconst (v := -1) (pc := 50) dX8_book_50 (by decide) <|
          cw_iret (pc := 51) dX8_book_51 hR <|
          ⟨⟨by rw [bookA, if_neg h0, if_neg (fun h => hl h.2)], by rw [bookR, if_neg h0, if_neg (fun h => hl h.1.2)]; exact hR0⟩, by first | exact Same.rf | (exact q2.mo (fun q i h => by unfold FY PS at h; unfold PB; omega)) | (repeat (refine Same.s1 ?_ (by unfold PB; omega))); exact Same.rf⟩
    · refine cw_iload_n (pc := 0) dX8_book_0 rfl rfl <|
        cw_iconst (v := -1) (pc := 1) dX8_book_1 (by decide) <|
        cw_icmp_ne_T (tgt := 16) (pc := 2) dX8_book_2 (by decide) h0 <|
        cw_aload_n (pc := 16) dX8_book_16 rfl rfl <|
        cw_getR (q := 0) (t := 2) (pc := 17) dX8_book_17 fX8_25 sh_0 (by decide) rfl <|
        cw_iload_n (pc := 20) dX8_book_20 rfl rfl <|
        cw_invI (q := 2) (pc := 21) dX8_book_21 (c_has land_2 h31 hn h6) rfl vX8_112 sh_2 (by decide) rfl rfl rfl (by decide) <|
        cw_if_eq_T (tgt := 50) (pc := 24) dX8_book_24 (by decide) (bI_0.mpr hx) <|
        cw_iconst (v := -1) (pc := 50) dX8_book_50 (by decide) <|
        cw_iret (pc := 51) dX8_book_51 hR <|
        ⟨⟨by rw [bookA, if_neg h0, if_neg (fun h => hx h.1)], by rw [bookR, if_neg h0, if_neg (fun h => hx h.1.1)]; exact hR0⟩, by first | exact Same.rf | (exact q2.mo (fun q i h => by unfold FY PS at h; unfold PB; omega)) | (repeat (refine Same.s1 ?_ (by unfold PB; omega))); exact Same.rf⟩
def seeA (s : Row) (x t l : Int32) : Int32 := if x = -1 then 0 else if (0 ≤ x ∧ x < s 31) ∧ (0 ≤ t ∧ t ≤ 12) ∧ (0 ≤ l ∧ l < 9) then (if s 34 = 5 then -4 else s 34 + 1) else -1
def seeR (s : Row) (x t l : Int32) : Row := if x = -1 then upd s 34 0 else if ((0 ≤ x ∧ x < s 31) ∧ (0 ≤ t ∧ t ≤ 12) ∧ (0 ≤ l ∧ l < 9)) ∧ ¬ s 34 = 5 then upd (upd (upd (upd s (91 + nN (s 34)) x) (96 + nN (s 34)) t) (101 + nN (s 34)) l) 34 (s 34 + 1) else s
set_option maxHeartbeats 4000000 in
set_option maxRecDepth 100000 in
theorem c_X8_see {E : Ev} {μ : Mem} {s : Row} {n mk : Nat} {code : PCo} (hI : Inv s n code mk) (hR1 : Rel μ 1 s code mk) {x t l : Int32} : AM E yX8_see cX8_see 5 (some .int) 1 [.ref 0, .int x, .int t, .int l] μ (fun r μ' => (r = some (.int (seeA s x t l)) ∧ Rel μ' 1 (seeR s x t l) code mk) ∧ Same PB μ μ') := by
  refine am_of (own := RX8) (L := [.ref 0, .int x, .int t, .int l, .null]) (by decide) rfl (Nat.le_of_ble_eq_true rfl) rfl (fun Γ hR => ?_)
  have hR0 := hR1
  obtain ⟨hIL, hIP, hIC, hIS, hIW, hIB, hIT⟩ := hI
  obtain ⟨hL, ⟨hcd, hmk⟩, hT, hC, hS, hW, hB, hnp⟩ := hR1
  have hn := hIL.1
  have h6 := hIL.2.1
  have h31 : μ 2 1 = s 31 := hL.2.1
  obtain ⟨k, hk, e34, -⟩ := hIS
  have hfl := full_iff (m := 5) e34 hk (by decide)
  have hnk : nN (s 34) = k := by rw [e34]; exact nN_nI (by omega)
  by_cases h0 : x = -1
  · refine cw_iload_n (pc := 0) dX8_see_0 rfl rfl <|
      cw_iconst (v := -1) (pc := 1) dX8_see_1 (by decide) <|
      cw_icmp_ne_F (tgt := 16) (pc := 2) dX8_see_2 (by decide) h0 <|
      cw_aload_n (pc := 5) dX8_see_5 rfl rfl <|
      cw_getR (q := 0) (t := 1) (pc := 6) dX8_see_6 fX8_12 sh_0 (by decide) rfl <|
      cw_getR (q := 1) (t := 16) (pc := 9) dX8_see_9 fX8_236 sh_1 (by decide) rfl <|
      cw_invI (q := 16) (pc := 12) dX8_see_12 (c_X6_empties row_16) rfl vX8_89 sh_16 (by decide) rfl rfl rfl (by decide) <|
      cw_iret (pc := 15) dX8_see_15 hR <|
      ⟨⟨by rw [seeA, if_pos h0], by rw [seeR, if_pos h0]; exact hR0.pS hS.em (fun q _ _ h => st_ne _ _ (by omega)) (fun i hi => un (by omega))⟩, by first | exact Same.rf | (exact q2.mo (fun q i h => by unfold FY PS at h; unfold PB; omega)) | (repeat (refine Same.s1 ?_ (by unfold PB; omega))); exact Same.rf⟩
  · by_cases ht : 0 ≤ t ∧ t ≤ 12
    · by_cases hl : 0 ≤ l ∧ l < 9
      · by_cases hx : 0 ≤ x ∧ x < s 31
        · refine cw_iload_n (pc := 0) dX8_see_0 rfl rfl <|
            cw_iconst (v := -1) (pc := 1) dX8_see_1 (by decide) <|
            cw_icmp_ne_T (tgt := 16) (pc := 2) dX8_see_2 (by decide) h0 <|
            cw_iload_n (pc := 16) dX8_see_16 rfl rfl <|
            cw_if_lt_F (tgt := 37) (pc := 17) dX8_see_17 (by decide) (Int32.not_lt.mpr ht.1) <|
            cw_iload_n (pc := 20) dX8_see_20 rfl rfl <|
            cw_bipush (v := 12) (pc := 21) dX8_see_21 (by decide) <|
            cw_icmp_gt_F (tgt := 37) (pc := 23) dX8_see_23 (by decide) (Int32.not_lt.mpr ht.2) <|
            cw_iload_n (pc := 26) dX8_see_26 rfl rfl <|
            cw_insI (pc := 27) dX8_see_27 c_X8_isLane vX8_105 rfl rfl rfl (by decide) <|
            cw_if_eq_F (tgt := 37) (pc := 30) dX8_see_30 (by decide) (bI_n0.mpr hl) <|
            cw_iconst (v := 1) (pc := 33) dX8_see_33 (by decide) <|
            cw_goto (tgt := 38) (pc := 34) dX8_see_34 (by decide) <|
            cw_istore (L' := [_, _, _, _, _]) (pc := 38) dX8_see_38 (by decide) rfl rfl <|
            cw_aload_n (pc := 40) dX8_see_40 rfl rfl <|
            cw_getR (q := 0) (t := 2) (pc := 41) dX8_see_41 fX8_25 sh_0 (by decide) rfl <|
            cw_iload_n (pc := 44) dX8_see_44 rfl rfl <|
            cw_invI (q := 2) (pc := 45) dX8_see_45 (c_has land_2 h31 hn h6) rfl vX8_112 sh_2 (by decide) rfl rfl rfl (by decide) <|
            cw_if_eq_F (tgt := 72) (pc := 48) dX8_see_48 (by decide) (bI_n0.mpr hx) <|
            cw_iload (pc := 51) dX8_see_51 rfl <|
            cw_if_eq_F (tgt := 72) (pc := 53) dX8_see_53 (by decide) (by decide) <|
            cw_aload_n (pc := 56) dX8_see_56 rfl rfl <|
            cw_getR (q := 0) (t := 1) (pc := 57) dX8_see_57 fX8_12 sh_0 (by decide) rfl <|
            cw_getR (q := 1) (t := 16) (pc := 60) dX8_see_60 fX8_236 sh_1 (by decide) rfl <|
            cw_iload_n (pc := 63) dX8_see_63 rfl rfl <|
            cw_iload_n (pc := 64) dX8_see_64 rfl rfl <|
            cw_iload_n (pc := 65) dX8_see_65 rfl rfl <|
            cw_invP (q := 16) (pc := 66) dX8_see_66 (c_X6_adds_3 row_16 (sz := k) (most := 5) hS.1 (hS.2.1.trans e34) rfl hk) rfl vX8_75 sh_16 (by decide) rfl rfl rfl (by decide) <|
            ?_
          rintro r' μ' ⟨q1, q2⟩
          refine cw_goto (tgt := 73) (pc := 69) dX8_see_69 (by decide) <|
            ?_
          by_cases hf : s 34 = 5
          · obtain ⟨rfl, rfl⟩ := q2 (fun h => (hfl.mpr h) hf)
            exact cw_iret (pc := 73) dX8_see_73 hR ⟨⟨by rw [seeA, if_neg h0, if_pos ⟨hx, ht, hl⟩, if_pos hf], by rw [seeR, if_neg h0, if_neg (fun h => h.2 hf)]; exact hR0⟩, by first | exact Same.rf | (exact q2.mo (fun q i h => by unfold FY PS at h; unfold PB; omega)) | (repeat (refine Same.s1 ?_ (by unfold PB; omega))); exact Same.rf⟩
          · have hk2 := hfl.mp hf
            obtain ⟨rfl, rfl⟩ := q1 hk2
            exact cw_iret (pc := 73) dX8_see_73 hR ⟨⟨by rw [seeA, if_neg h0, if_pos ⟨hx, ht, hl⟩, if_neg hf, e34, nI_1], by
              rw [seeR, if_neg h0, if_pos ⟨⟨hx, ht, hl⟩, hf⟩, hnk]
              exact hR0.pS (hS.ad (hfl.mp hf) e34 x t l) (fun q _ _ h => (st_ne _ _ (by omega)).trans ((st_ne _ _ (by omega)).trans ((st_ne _ _ (by omega)).trans (st_ne _ _ (by omega))))) (fun i hi => (un (by omega)).trans ((un (by omega)).trans ((un (by omega)).trans (un (by omega)))))⟩, by first | exact Same.rf | (exact q2.mo (fun q i h => by unfold FY PS at h; unfold PB; omega)) | (repeat (refine Same.s1 ?_ (by unfold PB; omega))); exact Same.rf⟩
        · refine cw_iload_n (pc := 0) dX8_see_0 rfl rfl <|
            cw_iconst (v := -1) (pc := 1) dX8_see_1 (by decide) <|
            cw_icmp_ne_T (tgt := 16) (pc := 2) dX8_see_2 (by decide) h0 <|
            cw_iload_n (pc := 16) dX8_see_16 rfl rfl <|
            cw_if_lt_F (tgt := 37) (pc := 17) dX8_see_17 (by decide) (Int32.not_lt.mpr ht.1) <|
            cw_iload_n (pc := 20) dX8_see_20 rfl rfl <|
            cw_bipush (v := 12) (pc := 21) dX8_see_21 (by decide) <|
            cw_icmp_gt_F (tgt := 37) (pc := 23) dX8_see_23 (by decide) (Int32.not_lt.mpr ht.2) <|
            cw_iload_n (pc := 26) dX8_see_26 rfl rfl <|
            cw_insI (pc := 27) dX8_see_27 c_X8_isLane vX8_105 rfl rfl rfl (by decide) <|
            cw_if_eq_F (tgt := 37) (pc := 30) dX8_see_30 (by decide) (bI_n0.mpr hl) <|
            cw_iconst (v := 1) (pc := 33) dX8_see_33 (by decide) <|
            cw_goto (tgt := 38) (pc := 34) dX8_see_34 (by decide) <|
            cw_istore (L' := [_, _, _, _, _]) (pc := 38) dX8_see_38 (by decide) rfl rfl <|
            cw_aload_n (pc := 40) dX8_see_40 rfl rfl <|
            cw_getR (q := 0) (t := 2) (pc := 41) dX8_see_41 fX8_25 sh_0 (by decide) rfl <|
            cw_iload_n (pc := 44) dX8_see_44 rfl rfl <|
            cw_invI (q := 2) (pc := 45) dX8_see_45 (c_has land_2 h31 hn h6) rfl vX8_112 sh_2 (by decide) rfl rfl rfl (by decide) <|
            cw_if_eq_T (tgt := 72) (pc := 48) dX8_see_48 (by decide) (bI_0.mpr hx) <|
            cw_iconst (v := -1) (pc := 72) dX8_see_72 (by decide) <|
            cw_iret (pc := 73) dX8_see_73 hR <|
            ⟨⟨by rw [seeA, if_neg h0, if_neg (fun h => hx h.1)], by rw [seeR, if_neg h0, if_neg (fun h => hx h.1.1)]; exact hR0⟩, by first | exact Same.rf | (exact q2.mo (fun q i h => by unfold FY PS at h; unfold PB; omega)) | (repeat (refine Same.s1 ?_ (by unfold PB; omega))); exact Same.rf⟩
      · refine cw_iload_n (pc := 0) dX8_see_0 rfl rfl <|
          cw_iconst (v := -1) (pc := 1) dX8_see_1 (by decide) <|
          cw_icmp_ne_T (tgt := 16) (pc := 2) dX8_see_2 (by decide) h0 <|
          cw_iload_n (pc := 16) dX8_see_16 rfl rfl <|
          cw_if_lt_F (tgt := 37) (pc := 17) dX8_see_17 (by decide) (Int32.not_lt.mpr ht.1) <|
          cw_iload_n (pc := 20) dX8_see_20 rfl rfl <|
          cw_bipush (v := 12) (pc := 21) dX8_see_21 (by decide) <|
          cw_icmp_gt_F (tgt := 37) (pc := 23) dX8_see_23 (by decide) (Int32.not_lt.mpr ht.2) <|
          cw_iload_n (pc := 26) dX8_see_26 rfl rfl <|
          cw_insI (pc := 27) dX8_see_27 c_X8_isLane vX8_105 rfl rfl rfl (by decide) <|
          cw_if_eq_T (tgt := 37) (pc := 30) dX8_see_30 (by decide) (bI_0.mpr hl) <|
          cw_iconst (v := 0) (pc := 37) dX8_see_37 (by decide) <|
          cw_istore (L' := [_, _, _, _, _]) (pc := 38) dX8_see_38 (by decide) rfl rfl <|
          cw_aload_n (pc := 40) dX8_see_40 rfl rfl <|
          cw_getR (q := 0) (t := 2) (pc := 41) dX8_see_41 fX8_25 sh_0 (by decide) rfl <|
          cw_iload_n (pc := 44) dX8_see_44 rfl rfl <|
          ?_
        by_cases hx : 0 ≤ x ∧ x < s 31
        · refine cw_invI (q := 2) (pc := 45) dX8_see_45 (c_has land_2 h31 hn h6) rfl vX8_112 sh_2 (by decide) rfl rfl rfl (by decide) <|
          cw_if_eq_F (tgt := 72) (pc := 48) dX8_see_48 (by decide) (bI_n0.mpr hx) <|
          cw_iload (pc := 51) dX8_see_51 rfl <|
          cw_if_eq_T (tgt := 72) (pc := 53) dX8_see_53 (by decide) rfl <|
          cw_iconst (v := -1) (pc := 72) dX8_see_72 (by decide) <|
          cw_iret (pc := 73) dX8_see_73 hR <|
          ⟨⟨by rw [seeA, if_neg h0, if_neg (fun h => hl h.2.2)], by rw [seeR, if_neg h0, if_neg (fun h => hl h.1.2.2)]; exact hR0⟩, by first | exact Same.rf | (exact q2.mo (fun q i h => by unfold FY PS at h; unfold PB; omega)) | (repeat (refine Same.s1 ?_ (by unfold PB; omega))); exact Same.rf⟩
        · refine cw_invI (q := 2) (pc := 45) dX8_see_45 (c_has land_2 h31 hn h6) rfl vX8_112 sh_2 (by decide) rfl rfl rfl (by decide) <|
          cw_if_eq_T (tgt := 72) (pc := 48) dX8_see_48 (by decide) (bI_0.mpr hx) <|
          cw_iconst (v := -1) (pc := 72) dX8_see_72 (by decide) <|
          cw_iret (pc := 73) dX8_see_73 hR <|
          ⟨⟨by rw [seeA, if_neg h0, if_neg (fun h => hl h.2.2)], by rw [seeR, if_neg h0, if_neg (fun h => hl h.1.2.2)]; exact hR0⟩, by first | exact Same.rf | (exact q2.mo (fun q i h => by unfold FY PS at h; unfold PB; omega)) | (repeat (refine Same.s1 ?_ (by unfold PB; omega))); exact Same.rf⟩
    · by_cases ht0 : t < 0
      · refine cw_iload_n (pc := 0) dX8_see_0 rfl rfl <|
          cw_iconst (v := -1) (pc := 1) dX8_see_1 (by decide) <|
          cw_icmp_ne_T (tgt := 16) (pc := 2) dX8_see_2 (by decide) h0 <|
          cw_iload_n (pc := 16) dX8_see_16 rfl rfl <|
          cw_if_lt_T (tgt := 37) (pc := 17) dX8_see_17 (by decide) ht0 <|
          cw_iconst (v := 0) (pc := 37) dX8_see_37 (by decide) <|
          cw_istore (L' := [_, _, _, _, _]) (pc := 38) dX8_see_38 (by decide) rfl rfl <|
          cw_aload_n (pc := 40) dX8_see_40 rfl rfl <|
          cw_getR (q := 0) (t := 2) (pc := 41) dX8_see_41 fX8_25 sh_0 (by decide) rfl <|
          cw_iload_n (pc := 44) dX8_see_44 rfl rfl <|
          ?_
        by_cases hx : 0 ≤ x ∧ x < s 31
        · refine cw_invI (q := 2) (pc := 45) dX8_see_45 (c_has land_2 h31 hn h6) rfl vX8_112 sh_2 (by decide) rfl rfl rfl (by decide) <|
          cw_if_eq_F (tgt := 72) (pc := 48) dX8_see_48 (by decide) (bI_n0.mpr hx) <|
          cw_iload (pc := 51) dX8_see_51 rfl <|
          cw_if_eq_T (tgt := 72) (pc := 53) dX8_see_53 (by decide) rfl <|
          cw_iconst (v := -1) (pc := 72) dX8_see_72 (by decide) <|
          cw_iret (pc := 73) dX8_see_73 hR <|
          ⟨⟨by rw [seeA, if_neg h0, if_neg (fun h => ht h.2.1)], by rw [seeR, if_neg h0, if_neg (fun h => ht h.1.2.1)]; exact hR0⟩, by first | exact Same.rf | (exact q2.mo (fun q i h => by unfold FY PS at h; unfold PB; omega)) | (repeat (refine Same.s1 ?_ (by unfold PB; omega))); exact Same.rf⟩
        · refine cw_invI (q := 2) (pc := 45) dX8_see_45 (c_has land_2 h31 hn h6) rfl vX8_112 sh_2 (by decide) rfl rfl rfl (by decide) <|
          cw_if_eq_T (tgt := 72) (pc := 48) dX8_see_48 (by decide) (bI_0.mpr hx) <|
          cw_iconst (v := -1) (pc := 72) dX8_see_72 (by decide) <|
          cw_iret (pc := 73) dX8_see_73 hR <|
          ⟨⟨by rw [seeA, if_neg h0, if_neg (fun h => ht h.2.1)], by rw [seeR, if_neg h0, if_neg (fun h => ht h.1.2.1)]; exact hR0⟩, by first | exact Same.rf | (exact q2.mo (fun q i h => by unfold FY PS at h; unfold PB; omega)) | (repeat (refine Same.s1 ?_ (by unfold PB; omega))); exact Same.rf⟩
      · refine cw_iload_n (pc := 0) dX8_see_0 rfl rfl <|
          cw_iconst (v := -1) (pc := 1) dX8_see_1 (by decide) <|
          cw_icmp_ne_T (tgt := 16) (pc := 2) dX8_see_2 (by decide) h0 <|
          cw_iload_n (pc := 16) dX8_see_16 rfl rfl <|
          cw_if_lt_F (tgt := 37) (pc := 17) dX8_see_17 (by decide) ht0 <|
          cw_iload_n (pc := 20) dX8_see_20 rfl rfl <|
          cw_bipush (v := 12) (pc := 21) dX8_see_21 (by decide) <|
          cw_icmp_gt_T (tgt := 37) (pc := 23) dX8_see_23 (by decide) (Int32.not_le.mp (fun z => ht ⟨Int32.not_lt.mp ht0, z⟩)) <|
          cw_iconst (v := 0) (pc := 37) dX8_see_37 (by decide) <|
          cw_istore (L' := [_, _, _, _, _]) (pc := 38) dX8_see_38 (by decide) rfl rfl <|
          cw_aload_n (pc := 40) dX8_see_40 rfl rfl <|
          cw_getR (q := 0) (t := 2) (pc := 41) dX8_see_41 fX8_25 sh_0 (by decide) rfl <|
          cw_iload_n (pc := 44) dX8_see_44 rfl rfl <|
          ?_
        by_cases hx : 0 ≤ x ∧ x < s 31
        · refine cw_invI (q := 2) (pc := 45) dX8_see_45 (c_has land_2 h31 hn h6) rfl vX8_112 sh_2 (by decide) rfl rfl rfl (by decide) <|
          cw_if_eq_F (tgt := 72) (pc := 48) dX8_see_48 (by decide) (bI_n0.mpr hx) <|
          cw_iload (pc := 51) dX8_see_51 rfl <|
          cw_if_eq_T (tgt := 72) (pc := 53) dX8_see_53 (by decide) rfl <|
          cw_iconst (v := -1) (pc := 72) dX8_see_72 (by decide) <|
          cw_iret (pc := 73) dX8_see_73 hR <|
          ⟨⟨by rw [seeA, if_neg h0, if_neg (fun h => ht h.2.1)], by rw [seeR, if_neg h0, if_neg (fun h => ht h.1.2.1)]; exact hR0⟩, by first | exact Same.rf | (exact q2.mo (fun q i h => by unfold FY PS at h; unfold PB; omega)) | (repeat (refine Same.s1 ?_ (by unfold PB; omega))); exact Same.rf⟩
        · refine cw_invI (q := 2) (pc := 45) dX8_see_45 (c_has land_2 h31 hn h6) rfl vX8_112 sh_2 (by decide) rfl rfl rfl (by decide) <|
          cw_if_eq_T (tgt := 72) (pc := 48) dX8_see_48 (by decide) (bI_0.mpr hx) <|
          cw_iconst (v := -1) (pc := 72) dX8_see_72 (by decide) <|
          cw_iret (pc := 73) dX8_see_73 hR <|
          ⟨⟨by rw [seeA, if_neg h0, if_neg (fun h => ht h.2.1)], by rw [seeR, if_neg h0, if_neg (fun h => ht h.1.2.1)]; exact hR0⟩, by first | exact Same.rf | (exact q2.mo (fun q i h => by unfold FY PS at h; unfold PB; omega)) | (repeat (refine Same.s1 ?_ (by unfold PB; omega))); exact Same.rf⟩
def manA (s : Row) (k v l : Int32) : Int32 := if (0 ≤ k ∧ k < 7) ∧ (0 ≤ l ∧ l < 9) then (if 0 ≤ v ∧ v ≤ 9 then (if s 31 = 6 then -4 else s 31) else -2) else -1
def manR (s : Row) (k v l : Int32) : Row := if ((0 ≤ k ∧ k < 7) ∧ (0 ≤ l ∧ l < 9)) ∧ (0 ≤ v ∧ v ≤ 9) ∧ ¬ s 31 = 6 then upd (upd (upd (upd s (39 + nN (s 31)) k) (45 + nN (s 31)) v) (51 + nN (s 31)) l) 31 (s 31 + 1) else s
theorem RelL.mn {μ : Mem} {k : Nat} {s : Row} (h : RelL μ k s) (v : Int32) : RelL (st μ k 1 v) k (upd s 31 v) := by
  obtain ⟨a1, a2, a3, a4, a5, a6, a7⟩ := h
  have hm : ∀ q, ¬ q = k → (st μ k 1 v) q = μ q := fun q h => st_ne _ _ h
  refine ⟨by rw [st_at, if_neg (by omega), un (by omega)]; exact a1, by rw [st_eq, us], by rw [st_at, if_neg (by omega), a3]; exact bitsI_congr (fun y hy => by unfold naS; rw [un (by omega)]), by rw [st_at, if_neg (by omega), a4]; exact bitsI_congr (fun y hy => by unfold beS; rw [un (by omega)]), fun y hy => by rw [hm _ (by omega), un (by omega)]; exact a5 y hy, fun y hy => ?_, fun y hy => by rw [hm _ (by omega), un (by omega)]; exact a7 y hy⟩
  obtain ⟨b1, b2, b3, b4⟩ := a6 y hy
  exact ⟨by rw [hm _ (by omega), un (by omega)]; exact b1, by rw [hm _ (by omega), un (by omega)]; exact b2, by rw [hm _ (by omega), un (by omega)]; exact b3, by rw [hm _ (by omega), un (by omega)]; exact b4⟩
set_option maxHeartbeats 4000000 in
set_option maxRecDepth 100000 in
theorem c_X8_man {E : Ev} {μ : Mem} {s : Row} {n mk : Nat} {code : PCo} (hI : Inv s n code mk) (hR1 : Rel μ 1 s code mk) {k v l : Int32} : AM E yX8_man cX8_man 4 (some .int) 1 [.ref 0, .int k, .int v, .int l] μ (fun r μ' => (r = some (.int (manA s k v l)) ∧ Rel μ' 1 (manR s k v l) code mk) ∧ Same PB μ μ') := by
  refine am_of (own := RX8) (L := [.ref 0, .int k, .int v, .int l]) (by decide) rfl (Nat.le_of_ble_eq_true rfl) rfl (fun Γ hR => ?_)
  have hR0 := hR1
  obtain ⟨hIL, hIP, hIC, hIS, hIW, hIB, hIT⟩ := hI
  obtain ⟨hL, ⟨hcd, hmk⟩, hT, hC, hS, hW, hB, hnp⟩ := hR1
  have hn := hIL.1
  have h6 := hIL.2.1
  have h31 : μ 2 1 = s 31 := hL.2.1
  have hfl := full_iff (m := 6) hn h6 (by decide)
  have hnk : nN (s 31) = n := by rw [hn]; exact nN_nI (by omega)
  by_cases hk : 0 ≤ k ∧ k < 7
  · by_cases hl : 0 ≤ l ∧ l < 9
    · by_cases hv : 0 ≤ v ∧ v ≤ 9
      · refine cw_iload_n (pc := 0) dX8_man_0 rfl rfl <|
          cw_insI (pc := 1) dX8_man_1 c_X8_isKind vX8_101 rfl rfl rfl (by decide) <|
          cw_if_eq_F (tgt := 14) (pc := 4) dX8_man_4 (by decide) (bI_n0.mpr hk) <|
          cw_iload_n (pc := 7) dX8_man_7 rfl rfl <|
          cw_insI (pc := 8) dX8_man_8 c_X8_isLane vX8_105 rfl rfl rfl (by decide) <|
          cw_if_ne_T (tgt := 16) (pc := 11) dX8_man_11 (by decide) (bI_n0.mpr hl) <|
          cw_iload_n (pc := 16) dX8_man_16 rfl rfl <|
          cw_insI (pc := 17) dX8_man_17 c_X8_isDigit vX8_108 rfl rfl rfl (by decide) <|
          cw_if_eq_F (tgt := 36) (pc := 20) dX8_man_20 (by decide) (bI_n0.mpr hv) <|
          cw_aload_n (pc := 23) dX8_man_23 rfl rfl <|
          cw_getR (q := 0) (t := 2) (pc := 24) dX8_man_24 fX8_25 sh_0 (by decide) rfl <|
          cw_iload_n (pc := 27) dX8_man_27 rfl rfl <|
          cw_iload_n (pc := 28) dX8_man_28 rfl rfl <|
          cw_iload_n (pc := 29) dX8_man_29 rfl rfl <|
          cw_invP (q := 2) (pc := 30) dX8_man_30 (c_X2_adds land_2 (h31.trans hn) h6) rfl vX8_111 sh_2 (by decide) rfl rfl rfl (by decide) <|
          ?_
        rintro r' μ' ⟨q1, q2⟩
        refine cw_goto (tgt := 38) (pc := 33) dX8_man_33 (by decide) <|
          ?_
        by_cases hf : s 31 = 6
        · obtain ⟨rfl, rfl⟩ := q2 (fun h => (hfl.mpr h) hf)
          exact cw_iret (pc := 38) dX8_man_38 hR ⟨⟨by rw [manA, if_pos ⟨hk, hl⟩, if_pos hv, if_pos hf], by rw [manR, if_neg (fun h => h.2.2 hf)]; exact hR0⟩, by first | exact Same.rf | (exact q2.mo (fun q i h => by unfold FY PS at h; unfold PB; omega)) | (repeat (refine Same.s1 ?_ (by unfold PB; omega))); exact Same.rf⟩
        · have hk2 := hfl.mp hf
          obtain ⟨rfl, rfl⟩ := q1 hk2
          exact cw_iret (pc := 38) dX8_man_38 hR ⟨⟨by rw [manA, if_pos ⟨hk, hl⟩, if_pos hv, if_neg hf, hn], by
            rw [manR, if_pos ⟨⟨hk, hl⟩, hv, hf⟩, hnk, hn, nI_1]
            exact hR0.pL ((((hL.kd (hfl.mp hf) k).vv (hfl.mp hf) v).pgu (hfl.mp hf) l).mn _) (fun q _ _ h => (st_ne _ _ (by omega)).trans ((st_ne _ _ (by omega)).trans ((st_ne _ _ (by omega)).trans (st_ne _ _ (by omega))))) (fun i hi => (un (by omega)).trans ((un (by omega)).trans ((un (by omega)).trans (un (by omega)))))⟩, by first | exact Same.rf | (exact q2.mo (fun q i h => by unfold FY PS at h; unfold PB; omega)) | (repeat (refine Same.s1 ?_ (by unfold PB; omega))); exact Same.rf⟩
      · refine cw_iload_n (pc := 0) dX8_man_0 rfl rfl <|
          cw_insI (pc := 1) dX8_man_1 c_X8_isKind vX8_101 rfl rfl rfl (by decide) <|
          cw_if_eq_F (tgt := 14) (pc := 4) dX8_man_4 (by decide) (bI_n0.mpr hk) <|
          cw_iload_n (pc := 7) dX8_man_7 rfl rfl <|
          cw_insI (pc := 8) dX8_man_8 c_X8_isLane vX8_105 rfl rfl rfl (by decide) <|
          cw_if_ne_T (tgt := 16) (pc := 11) dX8_man_11 (by decide) (bI_n0.mpr hl) <|
          cw_iload_n (pc := 16) dX8_man_16 rfl rfl <|
          cw_insI (pc := 17) dX8_man_17 c_X8_isDigit vX8_108 rfl rfl rfl (by decide) <|
          cw_if_eq_T (tgt := 36) (pc := 20) dX8_man_20 (by decide) (bI_0.mpr hv) <|
          cw_bipush (v := -2) (pc := 36) dX8_man_36 (by decide) <|
          cw_iret (pc := 38) dX8_man_38 hR <|
          ⟨⟨by rw [manA, if_pos ⟨hk, hl⟩, if_neg hv], by rw [manR, if_neg (fun h => hv h.2.1)]; exact hR0⟩, by first | exact Same.rf | (exact q2.mo (fun q i h => by unfold FY PS at h; unfold PB; omega)) | (repeat (refine Same.s1 ?_ (by unfold PB; omega))); exact Same.rf⟩
    · refine cw_iload_n (pc := 0) dX8_man_0 rfl rfl <|
        cw_insI (pc := 1) dX8_man_1 c_X8_isKind vX8_101 rfl rfl rfl (by decide) <|
        cw_if_eq_F (tgt := 14) (pc := 4) dX8_man_4 (by decide) (bI_n0.mpr hk) <|
        cw_iload_n (pc := 7) dX8_man_7 rfl rfl <|
        cw_insI (pc := 8) dX8_man_8 c_X8_isLane vX8_105 rfl rfl rfl (by decide) <|
        cw_if_ne_F (tgt := 16) (pc := 11) dX8_man_11 (by decide) (bI_0.mpr hl) <|
        cw_iconst (v := -1) (pc := 14) dX8_man_14 (by decide) <|
        cw_iret (pc := 15) dX8_man_15 hR <|
        ⟨⟨by rw [manA, if_neg (fun h => hl h.2)], by rw [manR, if_neg (fun h => hl h.1.2)]; exact hR0⟩, by first | exact Same.rf | (exact q2.mo (fun q i h => by unfold FY PS at h; unfold PB; omega)) | (repeat (refine Same.s1 ?_ (by unfold PB; omega))); exact Same.rf⟩
  · refine cw_iload_n (pc := 0) dX8_man_0 rfl rfl <|
      cw_insI (pc := 1) dX8_man_1 c_X8_isKind vX8_101 rfl rfl rfl (by decide) <|
      cw_if_eq_T (tgt := 14) (pc := 4) dX8_man_4 (by decide) (bI_0.mpr hk) <|
      cw_iconst (v := -1) (pc := 14) dX8_man_14 (by decide) <|
      cw_iret (pc := 15) dX8_man_15 hR <|
      ⟨⟨by rw [manA, if_neg (fun h => hk h.1)], by rw [manR, if_neg (fun h => hk h.1.1)]; exact hR0⟩, by first | exact Same.rf | (exact q2.mo (fun q i h => by unfold FY PS at h; unfold PB; omega)) | (repeat (refine Same.s1 ?_ (by unfold PB; omega))); exact Same.rf⟩
