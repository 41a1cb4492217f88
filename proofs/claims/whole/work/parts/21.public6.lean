def bestL (sc : Nat → Int32) : Nat → Nat
  | 0 => 0
  | l + 1 => if sc (bestL sc l) < sc (l + 1) then l + 1 else bestL sc l
theorem bestL_0 (sc : Nat → Int32) : bestL sc 0 = 0 := rfl
theorem bestL_s (sc : Nat → Int32) (l : Nat) : bestL sc (l + 1) = if sc (bestL sc l) < sc (l + 1) then l + 1 else bestL sc l := rfl
def startA (s : Row) (code : PCo) (x : Int32) : Int32 := if 0 ≤ x ∧ x < s 31 then nI (bestL (fun l => scS s code (s 0) (nN x) l) 8) else -1
theorem bestL_le (sc : Nat → Int32) (l : Nat) : bestL sc l ≤ l := by
  induction l with
  | zero => exact Nat.le_refl _
  | succ l ih => simp only [bestL]; split <;> omega
theorem RelL.sl {μ : Mem} {s : Row} (h : RelL μ 2 s) (code : PCo) {p : Nat} (l : Nat) (hp : p < 6) : scoreN (lnC μ 2 code p l) = scS s code (s 0) p l := by rw [scC_eq, h.sc code _ _ hp, h.1]
set_option maxHeartbeats 4000000 in
set_option maxRecDepth 100000 in
theorem c_X8_start {E : Ev} {μ : Mem} {s : Row} {n mk : Nat} {code : PCo} (hI : Inv s n code mk) (hR1 : Rel μ 1 s code mk) {x : Int32} : AM E yX8_start cX8_start 6 (some .int) 4 [.ref 0, .int x] μ (fun r μ' => r = some (.int (startA s code x)) ∧ Same (fun q _ => 43 ≤ q ∧ q ≤ 64) μ μ') := by
  refine am_of (own := RX8) (L := [.ref 0, .int x, .null, .null, .null, .null]) (by decide) rfl (Nat.le_of_ble_eq_true rfl) rfl (fun Γ hR => ?_)
  have hR0 := hR1
  obtain ⟨hIL, hIP, hIC, hIS, hIW, hIB, hIT⟩ := hI
  obtain ⟨hL, ⟨hcd, hmk⟩, hT, hC, hS, hW, hB, hnp⟩ := hR1
  have hn := hIL.1
  have h6 := hIL.2.1
  have h31 : μ 2 1 = s 31 := hL.2.1
  by_cases hx : 0 ≤ x ∧ x < s 31
  · obtain ⟨p, hp, rfl⟩ := isM_of hn h6 hx
    have hp6 : p < 6 := by omega
    refine cw_aload_n (pc := 0) dX8_start_0 rfl rfl <|
      cw_getR (q := 0) (t := 2) (pc := 1) dX8_start_1 fX8_25 sh_0 (by decide) rfl <|
      cw_iload_n (pc := 4) dX8_start_4 rfl rfl <|
      cw_invI (q := 2) (pc := 5) dX8_start_5 (c_has land_2 h31 hn h6) rfl vX8_112 sh_2 (by decide) rfl rfl rfl (by decide) <|
      cw_if_ne_T (tgt := 13) (pc := 8) dX8_start_8 (by decide) (bI_n0.mpr hx) <|
      cw_iconst (v := 0) (pc := 13) dX8_start_13 (by decide) <|
      cw_istore_n (L' := [_, _, _, _, _, _]) (pc := 14) dX8_start_14 rfl (by decide) rfl rfl <|
      cw_aload_n (pc := 15) dX8_start_15 rfl rfl <|
      cw_getR (q := 0) (t := 50) (pc := 16) dX8_start_16 fX8_35 sh_0 (by decide) rfl <|
      cw_iload_n (pc := 19) dX8_start_19 rfl rfl <|
      cw_iconst (v := 0) (pc := 20) dX8_start_20 (by decide) <|
      cw_invP (q := 50) (pc := 21) dX8_start_21 (c_X4_goes plo_50 land_2 par_9 hcd hIP.2.2.2 hp6 (by rw [h31]; exact hx.2) (l := 0) (by omega)) rfl vX8_178 sh_50 (by decide) rfl rfl rfl (by decide) <|
      ?_
    rintro _ m0 ⟨rfl, s0, -, -, -⟩
    rw [hL.sl code 0 hp6]
    refine cw_istore_n (L' := [_, _, _, _, _, _]) (pc := 24) dX8_start_24 rfl (by decide) rfl rfl <|
      cw_iconst (v := 1) (pc := 25) dX8_start_25 (by decide) <|
      cw_istore (L' := [_, _, _, _, _, _]) (pc := 26) dX8_start_26 (by decide) rfl rfl <|
      ?_
    refine cw_for (σ := Int32 × Int32 × Int32 × Value) 8 (fun i a m => a.1 = nI (bestL (fun l => scS s code (s 0) p l) i) ∧ a.2.1 = scS s code (s 0) p (bestL (fun l => scS s code (s 0) p l) i) ∧ a.2.2.1 = nI (i + 1) ∧ Same (PH 50) μ m) (fun _ a => [.ref 0, .int (nI p), .int a.1, .int a.2.1, .int a.2.2.1, a.2.2.2]) ?_ ?_ 0 (0, scS s code (s 0) p 0, 1, .null) m0 (Nat.zero_le _) ⟨by rw [bestL_0]; rfl, by rw [bestL_0], rfl, s0⟩
    · rintro ⟨b, mo, x, z⟩ m ⟨hb, hmo, hx1, hS1⟩
      dsimp only at hb hmo hx1 ⊢
      subst hx1
      refine cw_iload (pc := 28) dX8_start_28 rfl <|
        cw_bipush (v := 9) (pc := 30) dX8_start_30 (by decide) <|
        cw_icmp_ge_T (tgt := 65) (pc := 32) dX8_start_32 (by decide) (nI_le (a := 9) (b := 8 + 1) (by decide) (by decide)) <|
        cw_iload_n (pc := 65) dX8_start_65 rfl rfl <|
        cw_iret (pc := 66) dX8_start_66 hR <|
        ⟨by rw [startA, if_pos hx, nN_nI (by omega), hb], hS1.mo (fun q i h => by unfold PH at h; omega)⟩
    · rintro i ⟨b, mo, x, z⟩ m hi ⟨hb, hmo, hx1, hS1⟩ ih
      dsimp only at hb hmo hx1 ⊢
      subst hx1
      have f : ∀ q, q ≤ 21 → m q = μ q := fun q h => funext fun i => hS1 _ _ (by unfold PH; omega)
      have hcm := hcd.mo (f _ (by omega)) (f _ (by omega)) (f _ (by omega))
      have hLm : RelL m 2 s := hL.mo (fun q a b => f q (by omega))
      have hmm : nI p < m 2 1 := by rw [f _ (by omega), h31]; exact hx.2
      refine cw_iload (pc := 28) dX8_start_28 rfl <|
        cw_bipush (v := 9) (pc := 30) dX8_start_30 (by decide) <|
        cw_icmp_ge_F (tgt := 65) (pc := 32) dX8_start_32 (by decide) (nI_ge (b := 9) (by omega) (by decide)) <|
        cw_aload_n (pc := 35) dX8_start_35 rfl rfl <|
        cw_getR (q := 0) (t := 50) (pc := 36) dX8_start_36 fX8_35 sh_0 (by decide) rfl <|
        cw_iload_n (pc := 39) dX8_start_39 rfl rfl <|
        cw_iload (pc := 40) dX8_start_40 rfl <|
        cw_invP (q := 50) (pc := 42) dX8_start_42 (c_X4_goes plo_50 land_2 par_9 hcm hIP.2.2.2 hp6 hmm (l := i + 1) (by omega)) rfl vX8_178 sh_50 (by decide) rfl rfl rfl (by decide) <|
        ?_
      rintro _ m1 ⟨rfl, s1, -, -, -⟩
      rw [hLm.sl code (i + 1) hp6]
      have hS2 := hS1.tr s1
      refine cw_istore (L' := [_, _, _, _, _, _]) (pc := 45) dX8_start_45 (by decide) rfl rfl <|
        cw_iload (pc := 47) dX8_start_47 rfl <|
        cw_iload_n (pc := 49) dX8_start_49 rfl rfl <|
        cw_icmp_le (tgt := 59) (pc := 50) dX8_start_50 (by decide) (fun c50 => ?_) (fun c50 => ?_)
      · refine cw_iincL (L' := [_, _, _, _, _, _]) (c := 1) (pc := 59) dX8_start_59 rfl (by decide) (by decide) rfl rfl <|
          cw_goto (tgt := 28) (pc := 62) dX8_start_62 (by decide) <|
          ?_
        exact ih (_, _, _, _) _ ⟨by rw [bestL_s]; rw [← hmo, if_neg (Int32.not_lt.mpr c50)]; exact hb, by rw [bestL_s]; rw [← hmo, if_neg (Int32.not_lt.mpr c50)]; exact hmo, nI_1 _, hS2⟩
      · refine cw_iload (pc := 53) dX8_start_53 rfl <|
          cw_istore_n (L' := [_, _, _, _, _, _]) (pc := 55) dX8_start_55 rfl (by decide) rfl rfl <|
          cw_iload (pc := 56) dX8_start_56 rfl <|
          cw_istore_n (L' := [_, _, _, _, _, _]) (pc := 58) dX8_start_58 rfl (by decide) rfl rfl <|
          cw_iincL (L' := [_, _, _, _, _, _]) (c := 1) (pc := 59) dX8_start_59 rfl (by decide) (by decide) rfl rfl <|
          cw_goto (tgt := 28) (pc := 62) dX8_start_62 (by decide) <|
          ?_
        exact ih (nI (i + 1), scS s code (s 0) p (i + 1), nI (i + 1) + 1, _) _ ⟨by rw [bestL_s]; rw [← hmo, if_pos (Int32.not_le.mp c50)], by rw [bestL_s]; rw [← hmo, if_pos (Int32.not_le.mp c50)], nI_1 _, hS2⟩
  · refine cw_aload_n (pc := 0) dX8_start_0 rfl rfl <|
      cw_getR (q := 0) (t := 2) (pc := 1) dX8_start_1 fX8_25 sh_0 (by decide) rfl <|
      cw_iload_n (pc := 4) dX8_start_4 rfl rfl <|
      cw_invI (q := 2) (pc := 5) dX8_start_5 (c_has land_2 h31 hn h6) rfl vX8_112 sh_2 (by decide) rfl rfl rfl (by decide) <|
      cw_if_ne_F (tgt := 13) (pc := 8) dX8_start_8 (by decide) (bI_0.mpr hx) <|
      cw_iconst (v := -1) (pc := 11) dX8_start_11 (by decide) <|
      cw_iret (pc := 12) dX8_start_12 hR <|
      ⟨by rw [startA, if_neg hx], Same.rf⟩
theorem InvL.up {s : Row} {n Y M i : Nat} (h : InvL s n Y M) (v : Int32) (hi : 19 ≤ i ∧ i ≤ 30 ∨ 45 ≤ i ∧ i ≤ 50) : InvL (upd s i v) n Y M := by
  obtain ⟨h1, h2, h3, h4, h5, h6, h7⟩ := h
  refine ⟨by rw [un (by omega)]; exact h1, h2, by rw [un (by omega)]; exact h3, fun p hp => by rw [un (by omega), un (by omega)]; exact h4 p hp, fun p a hp => ⟨by rw [un (by omega)]; exact (h5 p a hp).1, by rw [un (by omega)]; exact (h5 p a hp).2.1, by rw [un (by omega)]; exact (h5 p a hp).2.2.1, fun j hj => by rw [un (by omega)]; exact (h5 p a hp).2.2.2 j hj⟩, fun p hp => by rw [un (by omega)]; exact h6 p hp, fun p hp => by rw [un (by omega), un (by omega)]; exact h7 p hp⟩
def laidP (s : Row) (code : PCo) (p x : Nat) (v : Int32) : Int32 := scP (upd s (19 + x) v) code p
set_option maxHeartbeats 4000000 in
set_option maxRecDepth 100000 in
theorem c_X8_scoreIfLaid {E : Ev} {μ : Mem} {s : Row} {n Y M : Nat} {code : PCo} (hL : RelL μ 2 s) (hIL : InvL s n Y M) (hcd : CodeAt μ 9 code) (hwf : WFc 0 code) {p x : Nat} (hp : p < n) (hx6 : x < 12) {v : Int32} : AM E yX8_scoreIfLaid cX8_scoreIfLaid 4 (some .int) 5 [.ref 0, .int (nI p), .int (nI x), .int v] μ (fun r μ' => r = some (.int (laidP s code p x v)) ∧ Same (fun q _ => 43 ≤ q ∧ q ≤ 64) μ μ') := by
  refine am_of (own := RX8) (L := [.ref 0, .int (nI p), .int (nI x), .int v]) (by decide) rfl (Nat.le_of_ble_eq_true rfl) rfl (fun Γ hR => ?_)
  have hp6 : p < 6 := by have := hIL.2.1; omega
  have hx : 0 ≤ nI x ∧ nI x < 12 := ix_in (n := 12) hx6 (by decide)
  refine cw_aload_n (pc := 0) dX8_scoreIfLaid_0 rfl rfl <|
    cw_getR (q := 0) (t := 43) (pc := 1) dX8_scoreIfLaid_1 fX8_42 sh_0 (by decide) rfl <|
    cw_aload_n (pc := 4) dX8_scoreIfLaid_4 rfl rfl <|
    cw_getR (q := 0) (t := 2) (pc := 5) dX8_scoreIfLaid_5 fX8_25 sh_0 (by decide) rfl <|
    cw_invP (q := 43) (pc := 8) dX8_scoreIfLaid_8 (c_copy hL) rfl vX8_202 sh_43 (by decide) rfl rfl rfl (by decide) <|
    ?_
  rintro _ m1 ⟨rfl, l1, s1⟩
  refine cw_iload_n (pc := 11) dX8_scoreIfLaid_11 rfl rfl <|
    cw_insI (pc := 12) dX8_scoreIfLaid_12 c_X8_isStep vX8_150 rfl rfl rfl (by decide) <|
    cw_if_eq_F (tgt := 28) (pc := 15) dX8_scoreIfLaid_15 (by decide) (bI_n0.mpr hx) <|
    cw_aload_n (pc := 18) dX8_scoreIfLaid_18 rfl rfl <|
    cw_getR (q := 0) (t := 43) (pc := 19) dX8_scoreIfLaid_19 fX8_42 sh_0 (by decide) rfl <|
    cw_getR (q := 43) (t := 44) (pc := 22) dX8_scoreIfLaid_22 fX8_153 sh_43 (by decide) rfl <|
    cw_iload_n (pc := 25) dX8_scoreIfLaid_25 rfl rfl <|
    cw_iload_n (pc := 26) dX8_scoreIfLaid_26 rfl rfl <|
    cw_ias (q := 44) (jn := x) (pc := 27) dX8_scoreIfLaid_27 sh_44 rfl (by omega) (by decide) <|
    ?_
  have l2 : RelL (st m1 44 x v) 43 (upd s (19 + x) v) := l1.fd hx6 v
  have i2 := hIL.up v (i := 19 + x) (by omega)
  have g : ∀ q, q ≤ 21 → (st m1 44 x v) q = μ q := fun q h => (st_ne _ _ (by omega)).trans (funext fun i => s1 _ _ (by omega))
  have cd2 := hcd.mo (g _ (by omega)) (g _ (by omega)) (g _ (by omega))
  have sa : Same (fun q _ => 43 ≤ q ∧ q ≤ 64) μ (st m1 44 x v) := (s1.mo (fun q i h => by omega)).s1 (by omega)
  refine cw_aload_n (pc := 28) dX8_scoreIfLaid_28 rfl rfl <|
    cw_getR (q := 0) (t := 54) (pc := 29) dX8_scoreIfLaid_29 fX8_45 sh_0 (by decide) rfl <|
    cw_iload_n (pc := 32) dX8_scoreIfLaid_32 rfl rfl <|
    cw_invP (q := 54) (pc := 33) dX8_scoreIfLaid_33 (c_X4_pegScore plo_54 land_43 par_9 cd2 hwf (l2.men i2) hp) rfl vX8_139 sh_54 (by decide) rfl rfl rfl (by decide) <|
    ?_
  rintro _ m2 ⟨rfl, s2⟩
  refine cw_iret (pc := 36) dX8_scoreIfLaid_36 hR <|
    ⟨by rw [l2.sy code _ hp6, l2.1]; rfl, sa.tr (s2.mo (fun q i h => by unfold PH at h; omega))⟩
def wavF (f : Nat → Int32) (b0 : Int32) : Nat → Int32 × Int32
  | 0 => (-5, b0)
  | x + 1 => if f x < (wavF f b0 x).2 then (nI x, f x) else wavF f b0 x
def waverA (s : Row) (code : PCo) (x v : Int32) : Int32 := if 0 ≤ x ∧ x < s 31 then (if 1 ≤ v ∧ v ≤ 9 then (wavF (fun t => laidP s code (nN x) t v) (scP s code (nN x)) 12).1 else -2) else -1
set_option maxHeartbeats 4000000 in
set_option maxRecDepth 100000 in
theorem c_X8_waver {E : Ev} {μ : Mem} {s : Row} {n mk : Nat} {code : PCo} (hI : Inv s n code mk) (hR1 : Rel μ 1 s code mk) {x v : Int32} : AM E yX8_waver cX8_waver 7 (some .int) 6 [.ref 0, .int x, .int v] μ (fun r μ' => r = some (.int (waverA s code x v)) ∧ Same (fun q _ => 43 ≤ q ∧ q ≤ 64) μ μ') := by
  refine am_of (own := RX8) (L := [.ref 0, .int x, .int v, .null, .null, .null, .null]) (by decide) rfl (Nat.le_of_ble_eq_true rfl) rfl (fun Γ hR => ?_)
  have hR0 := hR1
  obtain ⟨hIL, hIP, hIC, hIS, hIW, hIB, hIT⟩ := hI
  obtain ⟨hL, ⟨hcd, hmk⟩, hT, hC, hS, hW, hB, hnp⟩ := hR1
  have hn := hIL.1
  have h6 := hIL.2.1
  have h31 : μ 2 1 = s 31 := hL.2.1
  by_cases hx : 0 ≤ x ∧ x < s 31
  · by_cases hv : 1 ≤ v ∧ v ≤ 9
    · obtain ⟨p, hp, rfl⟩ := isM_of hn h6 hx
      have hp6 : p < 6 := by omega
      have hMen := hL.men hIL
      refine cw_aload_n (pc := 0) dX8_waver_0 rfl rfl <|
        cw_getR (q := 0) (t := 2) (pc := 1) dX8_waver_1 fX8_25 sh_0 (by decide) rfl <|
        cw_iload_n (pc := 4) dX8_waver_4 rfl rfl <|
        cw_invI (q := 2) (pc := 5) dX8_waver_5 (c_has land_2 h31 hn h6) rfl vX8_112 sh_2 (by decide) rfl rfl rfl (by decide) <|
        cw_if_ne_T (tgt := 13) (pc := 8) dX8_waver_8 (by decide) (bI_n0.mpr hx) <|
        cw_iload_n (pc := 13) dX8_waver_13 rfl rfl <|
        cw_insI (pc := 14) dX8_waver_14 c_X8_isFind vX8_209 rfl rfl rfl (by decide) <|
        cw_if_ne_T (tgt := 23) (pc := 17) dX8_waver_17 (by decide) (bI_n0.mpr hv) <|
        cw_aload_n (pc := 23) dX8_waver_23 rfl rfl <|
        cw_getR (q := 0) (t := 50) (pc := 24) dX8_waver_24 fX8_35 sh_0 (by decide) rfl <|
        cw_iload_n (pc := 27) dX8_waver_27 rfl rfl <|
        cw_invP (q := 50) (pc := 28) dX8_waver_28 (c_X4_pegScore plo_50 land_2 par_9 hcd hIP.2.2.2 hMen hp) rfl vX8_139 sh_50 (by decide) rfl rfl rfl (by decide) <|
        ?_
      rintro _ m0 ⟨rfl, s0⟩
      rw [hL.sy code _ hp6, hL.1]
      refine cw_istore_n (L' := [_, _, _, _, _, _, _]) (pc := 31) dX8_waver_31 rfl (by decide) rfl rfl <|
        cw_bipush (v := -5) (pc := 32) dX8_waver_32 (by decide) <|
        cw_istore (L' := [_, _, _, _, _, _, _]) (pc := 34) dX8_waver_34 (by decide) rfl rfl <|
        cw_iconst (v := 0) (pc := 36) dX8_waver_36 (by decide) <|
        cw_istore (L' := [_, _, _, _, _, _, _]) (pc := 37) dX8_waver_37 (by decide) rfl rfl <|
        ?_
      refine cw_for (σ := Int32 × Int32 × Int32 × Value) 12 (fun i a m => (a.2.1, a.1) = wavF (fun t => laidP s code p t v) (scP s code p) i ∧ a.2.2.1 = nI i ∧ Same (fun q _ => 43 ≤ q ∧ q ≤ 64) μ m) (fun _ a => [.ref 0, .int (nI p), .int v, .int a.1, .int a.2.1, .int a.2.2.1, a.2.2.2]) ?_ ?_ 0 (_, -5, 0, .null) m0 (Nat.zero_le _) ⟨rfl, rfl, s0.mo (fun q i h => by unfold PH at h; omega)⟩
      · rintro ⟨le, b, x, z⟩ m ⟨hb, hx1, hS1⟩
        dsimp only at hb hx1 ⊢
        subst hx1
        refine cw_iload (pc := 39) dX8_waver_39 rfl <|
          cw_bipush (v := 12) (pc := 41) dX8_waver_41 (by decide) <|
          cw_icmp_ge_T (tgt := 75) (pc := 43) dX8_waver_43 (by decide) (nI_le (a := 12) (Nat.le_refl _) (by decide)) <|
          cw_iload (pc := 75) dX8_waver_75 rfl <|
          cw_iret (pc := 77) dX8_waver_77 hR <|
          ⟨by rw [waverA, if_pos hx, if_pos hv, nN_nI (by omega), ← hb], hS1⟩
      · rintro i ⟨le, b, x, z⟩ m hi ⟨hb, hx1, hS1⟩ ih
        dsimp only at hb hx1 ⊢
        subst hx1
        have f : ∀ q, q ≤ 21 → m q = μ q := fun q h => funext fun i => hS1 _ _ (by omega)
        have hcm := hcd.mo (f _ (by omega)) (f _ (by omega)) (f _ (by omega))
        have hLm : RelL m 2 s := hL.mo (fun q a b => f q (by omega))
        refine cw_iload (pc := 39) dX8_waver_39 rfl <|
          cw_bipush (v := 12) (pc := 41) dX8_waver_41 (by decide) <|
          cw_icmp_ge_F (tgt := 75) (pc := 43) dX8_waver_43 (by decide) (nI_ge (b := 12) hi (by decide)) <|
          cw_aload_n (pc := 46) dX8_waver_46 rfl rfl <|
          cw_iload_n (pc := 47) dX8_waver_47 rfl rfl <|
          cw_iload (pc := 48) dX8_waver_48 rfl <|
          cw_iload_n (pc := 50) dX8_waver_50 rfl rfl <|
          cw_invP (q := 0) (pc := 51) dX8_waver_51 (c_X8_scoreIfLaid hLm hIL hcm hIP.2.2.2 hp hi) rfl vX8_212 sh_0 (by decide) rfl rfl rfl (by decide) <|
          ?_
        rintro _ m1 ⟨rfl, s1⟩
        have hS2 := hS1.tr s1
        refine cw_istore (L' := [_, _, _, _, _, _, _]) (pc := 54) dX8_waver_54 (by decide) rfl rfl <|
          cw_iload (pc := 56) dX8_waver_56 rfl <|
          cw_iload_n (pc := 58) dX8_waver_58 rfl rfl <|
          cw_icmp_ge (tgt := 69) (pc := 59) dX8_waver_59 (by decide) (fun c59 => ?_) (fun c59 => ?_)
        · refine cw_iincL (L' := [_, _, _, _, _, _, _]) (c := 1) (pc := 69) dX8_waver_69 rfl (by decide) (by decide) rfl rfl <|
            cw_goto (tgt := 39) (pc := 72) dX8_waver_72 (by decide) <|
            ?_
          exact ih (_, _, _, _) _ ⟨by simp only [wavF]; rw [← hb, if_neg (Int32.not_lt.mpr c59)], nI_1 i, hS2⟩
        · refine cw_iload (pc := 62) dX8_waver_62 rfl <|
            cw_istore_n (L' := [_, _, _, _, _, _, _]) (pc := 64) dX8_waver_64 rfl (by decide) rfl rfl <|
            cw_iload (pc := 65) dX8_waver_65 rfl <|
            cw_istore (L' := [_, _, _, _, _, _, _]) (pc := 67) dX8_waver_67 (by decide) rfl rfl <|
            cw_iincL (L' := [_, _, _, _, _, _, _]) (c := 1) (pc := 69) dX8_waver_69 rfl (by decide) (by decide) rfl rfl <|
            cw_goto (tgt := 39) (pc := 72) dX8_waver_72 (by decide) <|
            ?_
          exact ih (laidP s code p i v, nI i, nI i + 1, _) _ ⟨by simp only [wavF]; rw [← hb, if_pos (Int32.not_le.mp c59)], nI_1 i, hS2⟩
    · refine cw_aload_n (pc := 0) dX8_waver_0 rfl rfl <|
        cw_getR (q := 0) (t := 2) (pc := 1) dX8_waver_1 fX8_25 sh_0 (by decide) rfl <|
        cw_iload_n (pc := 4) dX8_waver_4 rfl rfl <|
        cw_invI (q := 2) (pc := 5) dX8_waver_5 (c_has land_2 h31 hn h6) rfl vX8_112 sh_2 (by decide) rfl rfl rfl (by decide) <|
        cw_if_ne_T (tgt := 13) (pc := 8) dX8_waver_8 (by decide) (bI_n0.mpr hx) <|
        cw_iload_n (pc := 13) dX8_waver_13 rfl rfl <|
        cw_insI (pc := 14) dX8_waver_14 c_X8_isFind vX8_209 rfl rfl rfl (by decide) <|
        cw_if_ne_F (tgt := 23) (pc := 17) dX8_waver_17 (by decide) (bI_0.mpr hv) <|
        cw_bipush (v := -2) (pc := 20) dX8_waver_20 (by decide) <|
        cw_iret (pc := 22) dX8_waver_22 hR <|
        ⟨by rw [waverA, if_pos hx, if_neg hv], Same.rf⟩
  · refine cw_aload_n (pc := 0) dX8_waver_0 rfl rfl <|
      cw_getR (q := 0) (t := 2) (pc := 1) dX8_waver_1 fX8_25 sh_0 (by decide) rfl <|
      cw_iload_n (pc := 4) dX8_waver_4 rfl rfl <|
      cw_invI (q := 2) (pc := 5) dX8_waver_5 (c_has land_2 h31 hn h6) rfl vX8_112 sh_2 (by decide) rfl rfl rfl (by decide) <|
      cw_if_ne_F (tgt := 13) (pc := 8) dX8_waver_8 (by decide) (bI_0.mpr hx) <|
      cw_iconst (v := -1) (pc := 11) dX8_waver_11 (by decide) <|
      cw_iret (pc := 12) dX8_waver_12 hR <|
      ⟨by rw [waverA, if_neg hx], Same.rf⟩
def gcdF : Nat → Nat → Nat → Nat
  | 0, a, _ => a
  | f + 1, a, b => if b = 0 then a else gcdF f b (a % b)
theorem gcdF_s (f a b : Nat) : gcdF (f + 1) a b = if b = 0 then a else gcdF f b (a % b) := rfl
theorem gcdF_0 (a b : Nat) : gcdF 0 a b = a := rfl
set_option maxHeartbeats 4000000 in
set_option maxRecDepth 100000 in
theorem c_X8_commonOf {E : Ev} {μ : Mem} {a b : Nat} (ha : a < 2 ^ 31) (hb : b < 2 ^ 31) : AM E yX8_commonOf cX8_commonOf 6 (some .int) 0 [.int (nI a), .int (nI b)] μ (fun r μ' => r = some (.int (nI (gcdF 64 a b))) ∧ μ' = μ) := by
  refine am_of (own := RX8) (L := [.int (nI a), .int (nI b), .null, .null, .null, .null]) (by decide) rfl (Nat.le_of_ble_eq_true rfl) rfl (fun Γ hR => ?_)
  refine cw_iload_n (pc := 0) dX8_commonOf_0 rfl rfl <|
    cw_istore_n (L' := [_, _, _, _, _, _]) (pc := 1) dX8_commonOf_1 rfl (by decide) rfl rfl <|
    cw_iload_n (pc := 2) dX8_commonOf_2 rfl rfl <|
    cw_istore_n (L' := [_, _, _, _, _, _]) (pc := 3) dX8_commonOf_3 rfl (by decide) rfl rfl <|
    cw_iconst (v := 0) (pc := 4) dX8_commonOf_4 (by decide) <|
    cw_istore (L' := [_, _, _, _, _, _]) (pc := 5) dX8_commonOf_5 (by decide) rfl rfl <|
    ?_
  refine cw_for (σ := Int32 × Int32 × Int32 × Value) 64 (fun i c m => m = μ ∧ c.2.2.1 = nI i ∧ ∃ a' b', a' < 2 ^ 31 ∧ b' < 2 ^ 31 ∧ c.1 = nI a' ∧ c.2.1 = nI b' ∧ gcdF 64 a b = gcdF (64 - i) a' b') (fun _ c => [.int (nI a), .int (nI b), .int c.1, .int c.2.1, .int c.2.2.1, c.2.2.2]) ?_ ?_ 0 (nI a, nI b, 0, .null) μ (Nat.zero_le _) ⟨rfl, rfl, a, b, ha, hb, rfl, rfl, by rw [Nat.sub_zero]⟩
  · rintro ⟨x, y, i, z⟩ m ⟨hm, hi, a', b', h1, h2, hx, hy, hg⟩
    dsimp only at hi hx hy ⊢
    subst hm; subst hi; subst hx; subst hy
    refine cw_iload (pc := 7) dX8_commonOf_7 rfl <|
      cw_bipush (v := 64) (pc := 9) dX8_commonOf_9 (by decide) <|
      cw_icmp_ge_T (tgt := 34) (pc := 11) dX8_commonOf_11 (by decide) (nI_le (a := 64) (Nat.le_refl _) (by decide)) <|
      cw_iload_n (pc := 34) dX8_commonOf_34 rfl rfl <|
      cw_iret (pc := 35) dX8_commonOf_35 hR <|
      ⟨by rw [hg, Nat.sub_self, gcdF_0], rfl⟩
  · rintro i ⟨x, y, i', z⟩ m hi ⟨hm, hi', a', b', h1, h2, hx, hy, hg⟩ ih
    dsimp only at hi' hx hy ⊢
    subst hm; subst hi'; subst hx; subst hy
    obtain ⟨f, hf⟩ : ∃ f, 64 - i = f + 1 := ⟨63 - i, by omega⟩
    rw [hf, gcdF_s f a' b'] at hg
    by_cases hb0 : b' = 0
    · refine cw_iload (pc := 7) dX8_commonOf_7 rfl <|
        cw_bipush (v := 64) (pc := 9) dX8_commonOf_9 (by decide) <|
        cw_icmp_ge_F (tgt := 34) (pc := 11) dX8_commonOf_11 (by decide) (nI_ge (b := 64) hi (by decide)) <|
        cw_iload_n (pc := 14) dX8_commonOf_14 rfl rfl <|
        cw_if_eq_T (tgt := 34) (pc := 15) dX8_commonOf_15 (by decide) (by rw [hb0]; rfl) <|
        cw_iload_n (pc := 34) dX8_commonOf_34 rfl rfl <|
        cw_iret (pc := 35) dX8_commonOf_35 hR <|
        ⟨by rw [hg, if_pos hb0], rfl⟩
    · refine cw_iload (pc := 7) dX8_commonOf_7 rfl <|
        cw_bipush (v := 64) (pc := 9) dX8_commonOf_9 (by decide) <|
        cw_icmp_ge_F (tgt := 34) (pc := 11) dX8_commonOf_11 (by decide) (nI_ge (b := 64) hi (by decide)) <|
        cw_iload_n (pc := 14) dX8_commonOf_14 rfl rfl <|
        cw_if_eq_F (tgt := 34) (pc := 15) dX8_commonOf_15 (by decide) (nI_ne0 (by omega) h2) <|
        cw_iload_n (pc := 18) dX8_commonOf_18 rfl rfl <|
        cw_iload_n (pc := 19) dX8_commonOf_19 rfl rfl <|
        cw_irem (pc := 20) dX8_commonOf_20 (nI_ne0 (by omega) h2) <|
        ?_
      rw [pk_rem h1 (by omega) h2]
      refine cw_istore (L' := [_, _, _, _, _, _]) (pc := 21) dX8_commonOf_21 (by decide) rfl rfl <|
        cw_iload_n (pc := 23) dX8_commonOf_23 rfl rfl <|
        cw_istore_n (L' := [_, _, _, _, _, _]) (pc := 24) dX8_commonOf_24 rfl (by decide) rfl rfl <|
        cw_iload (pc := 25) dX8_commonOf_25 rfl <|
        cw_istore_n (L' := [_, _, _, _, _, _]) (pc := 27) dX8_commonOf_27 rfl (by decide) rfl rfl <|
        cw_iincL (L' := [_, _, _, _, _, _]) (c := 1) (pc := 28) dX8_commonOf_28 rfl (by decide) (by decide) rfl rfl <|
        cw_goto (tgt := 7) (pc := 31) dX8_commonOf_31 (by decide) <|
        ?_
      exact ih (_, _, _, _) _ ⟨rfl, nI_1 i, b', a' % b', h2, Nat.lt_trans (Nat.mod_lt _ (by omega)) h2, rfl, rfl, by rw [hg, if_neg hb0, show 64 - (i + 1) = f by omega]⟩
