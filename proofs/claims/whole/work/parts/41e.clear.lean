/-! ===== the component's clear ===== -/
def FF : Nat → Nat → Prop := fun q _ => q = 51 ∨ q = 55 ∨ (58 ≤ q ∧ q ≤ 60)
/-- the land with no FINDS -/
def bare (s : Row) : Row := fun i => if 19 ≤ i ∧ i < 31 then 0 else s i
theorem bare_o {s : Row} {i : Nat} (h : ¬ (19 ≤ i ∧ i < 31)) : bare s i = s i := if_neg h
theorem bare_f {s : Row} {x : Nat} (h : x < 12) : bare s (19 + x) = 0 := if_pos (by omega)
theorem stS_bare {s : Row} {code : PCo} {p x l : Nat} {f : Int32} (hp : p < 6) : stS (bare s) code p x l f = stS s code p x l f := by
  unfold stS
  rw [bare_o (by omega), bare_o (by omega), bare_o (by omega), show (fun j => bare s (57 + (p * 4 + j))) = fun j => s (57 + (p * 4 + j)) from funext fun j => bare_o (by omega)]
theorem RelL.bare {μ μ' : Mem} {s : Row} (h : RelL μ 43 s) (h4 : ∀ j, j < 12 → μ' 44 j = 0) (e : Same (fun a _ => a = 44) μ μ') : RelL μ' 43 (bare s) := by
  obtain ⟨a1, a2, a3, a4, a5, a6, a7⟩ := h
  refine ⟨(e _ _ (by omega)).trans (a1.trans (bare_o (by omega)).symm), (e _ _ (by omega)).trans (a2.trans (bare_o (by omega)).symm), (e _ _ (by omega)).trans (a3.trans (bitsI_congr (fun p hp => by unfold naS; rw [bare_o (by omega)]))), (e _ _ (by omega)).trans (a4.trans (bitsI_congr (fun p hp => by unfold beS; rw [bare_o (by omega)]))), fun x hx => (h4 x hx).trans (bare_f hx).symm, fun p hp => ?_, fun j hj => (e _ _ (by omega)).trans ((a7 j hj).trans (bare_o (by omega)).symm)⟩
  obtain ⟨b1, b2, b3, b4⟩ := a6 p hp
  exact ⟨(e _ _ (by omega)).trans (b1.trans (bare_o (by omega)).symm), (e _ _ (by omega)).trans (b2.trans (bare_o (by omega)).symm), (e _ _ (by omega)).trans (b3.trans (bare_o (by omega)).symm), (e _ _ (by omega)).trans (b4.trans (bare_o (by omega)).symm)⟩
theorem tab_f {m m1 m2 : Mem} {k : Nat} {v w : Int32} (s1 : Same (fun q _ => q = 50 + 1) m m1) (s2 : Same (fun q _ => q = 54 + 1) (st m1 59 k v) m2) : (st m2 60 k w) 59 k = v ∧ (st m2 60 k w) 60 k = w ∧ (∀ y, y ≠ k → (st m2 60 k w) 59 y = m 59 y ∧ (st m2 60 k w) 60 y = m 60 y) ∧ ∀ y, (st m2 60 k w) 58 y = m 58 y := by
  refine ⟨?_, st_eq _ _ _ _, fun y hy => ⟨?_, ?_⟩, fun y => ?_⟩
  · rw [st_at, if_neg (by omega), s2 59 k (by omega), st_eq]
  · rw [st_at, if_neg (by omega), s2 59 y (by omega), st_at, if_neg (fun h => hy h.2), s1 59 y (by omega)]
  · rw [st_at, if_neg (fun h => hy h.2), s2 60 y (by omega), st_at, if_neg (by omega), s1 60 y (by omega)]
  · rw [st_at, if_neg (by omega), s2 58 y (by omega), st_at, if_neg (by omega), s1 58 y (by omega)]
theorem sub_0 (s : Row) : subB s 0 = true := by
  rw [sub_iff]
  intro x _ h
  rw [Nat.zero_div] at h
  exact absurd h (by decide)
def TB (m : Mem) (s : Row) (code : PCo) (p i k : Nat) : Prop := ∀ x l, x < i ∨ (x = i ∧ l < k) → l ≤ 8 → m 59 (x * 9 + l) = mv l (stS s code p x l (s (19 + x))) ∧ m 60 (x * 9 + l) = mv l (stS s code p x l 0)
theorem TB.mo {m m' : Mem} {s : Row} {code : PCo} {p i k : Nat} (h : TB m s code p i k) (e1 : m' 59 = m 59) (e2 : m' 60 = m 60) : TB m' s code p i k := fun x l a b => by rw [e1, e2]; exact h x l a b
theorem TB.nx {m : Mem} {s : Row} {code : PCo} {p i : Nat} (h : TB m s code p i 9) : TB m s code p (i + 1) 0 := fun x l a b => h x l (by omega) b
theorem TB.st {m m' : Mem} {s : Row} {code : PCo} {p i k : Nat} (hk : k ≤ 8) (h : TB m s code p i k) (e1 : m' 59 (i * 9 + k) = mv k (stS s code p i k (s (19 + i)))) (e2 : m' 60 (i * 9 + k) = mv k (stS s code p i k 0)) (e : ∀ y, y ≠ i * 9 + k → m' 59 y = m 59 y ∧ m' 60 y = m 60 y) : TB m' s code p i (k + 1) := fun x l a b => by
  by_cases hx : x = i ∧ l = k
  · obtain ⟨rfl, rfl⟩ := hx; exact ⟨e1, e2⟩
  · have := e (x * 9 + l) (by omega)
    rw [this.1, this.2]
    exact h x l (by omega) b
set_option maxHeartbeats 4000000 in
set_option maxRecDepth 100000 in
theorem c_X0_fewestTaken {E : Ev} {μ : Mem} {s : Row} {n Y M mk : Nat} {code : PCo} (hIL : InvL s n Y M) (hL : RelL μ 2 s) (hB : RelL μ 43 (bare s)) (hcd : CodeAt μ 9 code) (hw : WFc 0 code) (hmk : μ 9 3 = nI mk) (hmk99 : mk ≤ 99) {p : Nat} (hp : p < n) : AM E yX0_fewestTaken cX0_fewestTaken 6 (some .int) 20 [.ref 58, .ref 50, .ref 54, .int (nI p)] μ (fun r μ' => r = some (.int (clrI (clrF (clrB s code mk p) 4096))) ∧ Same FF μ μ') := by
  refine am_of (own := RX0) (L := [.ref 58, .ref 50, .ref 54, .int (nI p), .null, .null]) (by decide) rfl (Nat.le_of_ble_eq_true rfl) rfl (fun Γ hR => ?_)
  have hn := hIL.1
  have h6 := hIL.2.1
  have hp6 : p < 6 := by omega
  have h31 : μ 2 1 = s 31 := hL.2.1
  obtain ⟨pg, hpg, epg⟩ := (hIL.2.2.2.2.2.2 p hp).1
  have epS : pgS s p = pg := by unfold pgS; rw [epg]; exact nI_clamp (by omega)
  have hpgS : pgS s p ≤ 8 := by rw [epS]; exact hpg
  have ep6 : μ 6 p = nI (pgS s p) := by rw [epS, ← epg]; exact (hL.2.2.2.2.2.1 p hp6).2.2.1
  refine cw_aload_n (pc := 0) dX0_fewestTaken_0 rfl rfl <|
    cw_getNR (q := 50) (t := 2) (pc := 1) dX0_fewestTaken_1 fX0_18 sh_50 (by decide) rfl <|
    cw_iload_n (pc := 4) dX0_fewestTaken_4 rfl rfl <|
    cw_invI (q := 2) (pc := 5) dX0_fewestTaken_5 (c_has land_2 h31 hn h6) rfl vX0_24 sh_2 (by decide) rfl rfl rfl (by decide) <|
    cw_if_ne_T (tgt := 14) (pc := 8) dX0_fewestTaken_8 (by decide) (bI_n0.mpr (by rw [hn]; exact ⟨nI_pos' (by omega), nI_lt hp (by omega)⟩)) <|
    cw_aload_n (pc := 14) dX0_fewestTaken_14 rfl rfl <|
    cw_aload_n (pc := 15) dX0_fewestTaken_15 rfl rfl <|
    cw_getNR (q := 50) (t := 2) (pc := 16) dX0_fewestTaken_16 fX0_18 sh_50 (by decide) rfl <|
    cw_getR (q := 2) (t := 6) (pc := 19) dX0_fewestTaken_19 fX0_30 sh_2 (by decide) rfl <|
    cw_iload_n (pc := 22) dX0_fewestTaken_22 rfl rfl <|
    cw_ial (q := 6) (jn := p) (pc := 23) dX0_fewestTaken_23 sh_6 rfl (by omega) (by decide) <|
    ?_
  rw [ep6]
  refine cw_putI (q := 58) (pc := 24) dX0_fewestTaken_24 pX0_33 sh_58 (by decide) rfl <|
    cw_aload_n (pc := 27) dX0_fewestTaken_27 rfl rfl <|
    cw_bipush (v := 40) (pc := 28) dX0_fewestTaken_28 (by decide) <|
    cw_aload_n (pc := 30) dX0_fewestTaken_30 rfl rfl <|
    cw_getNR (q := 50) (t := 9) (pc := 31) dX0_fewestTaken_31 fX0_37 sh_50 (by decide) rfl <|
    cw_getI (q := 9) (pc := 34) dX0_fewestTaken_34 fX0_41 sh_9 (by decide) rfl <|
    ?_
  rw [show (st μ 58 3 (nI (pgS s p))) 9 3 = nI mk from hmk]
  refine cw_isub (pc := 37) dX0_fewestTaken_37 <|
    cw_putI (q := 58) (pc := 38) dX0_fewestTaken_38 pX0_46 sh_58 (by decide) rfl <|
    cw_aload_n (pc := 41) dX0_fewestTaken_41 rfl rfl <|
    cw_iconst (v := 0) (pc := 42) dX0_fewestTaken_42 (by decide) <|
    cw_putI (q := 58) (pc := 43) dX0_fewestTaken_43 pX0_49 sh_58 (by decide) rfl <|
    cw_iconst (v := 0) (pc := 46) dX0_fewestTaken_46 (by decide) <|
    cw_istore (L' := [_, _, _, _, _, _]) (pc := 47) dX0_fewestTaken_47 (by decide) rfl rfl <|
    ?_
  refine cw_for (σ := Value) 12 (fun i _ m => Same FF μ m ∧ m 58 4 = 40 - nI mk ∧ m 58 3 = nI (pgS s p) ∧ m 58 2 = nI (lyN s i) ∧ TB m s code p i 0) (fun i a => [.ref 58, .ref 50, .ref 54, .int (nI p), .int (nI i), a]) ?_ ?_ 0 .null _ (Nat.zero_le _) ⟨((Same.rf.s1 (F := FF) (Or.inr (Or.inr ⟨by decide, by decide⟩))).s1 (Or.inr (Or.inr ⟨by decide, by decide⟩))).s1 (Or.inr (Or.inr ⟨by decide, by decide⟩)), by simp [st_at], by simp [st_at], by simp [st_at, lyN]; rfl, fun x l a b => absurd a (by omega)⟩
  · rintro a m ⟨hS, h4, h3, h2, hT⟩
    have hq : SQ (st (st m 58 5 (-5)) 58 6 13) s code mk p := ⟨by simpa [st_at] using h4, by simpa [st_at] using h3, by simpa [st_at] using h2, fun x l hx hl => by have := hT x l (Or.inl hx) hl; simpa [st_at] using this⟩
    have hb : BO (st (st m 58 5 (-5)) 58 6 13) none := ⟨by simp [st_at, clrI], by simp [st_at, few]; rfl, fun b h => by cases h⟩
    have key := c_search (E := E) hpgS hmk99 12 0 14 _ 0 none 0 rfl (by omega) (by decide) (sub_0 s) hq hb rfl
    rw [show losN (lnK s code p 0) 0 = 0 from rfl, lnK_0, srch_clr (ok := clrB s code mk p) (ly := lyB s) (fun z _ hz y hy hb => decide_eq_true (sub_iff.mp (Bool.and_eq_true_iff.mp hz).1 y hy hb))] at key
    refine cw_iload (pc := 49) dX0_fewestTaken_49 rfl <|
      cw_bipush (v := 12) (pc := 51) dX0_fewestTaken_51 (by decide) <|
      cw_icmp_ge_T (tgt := 152) (pc := 53) dX0_fewestTaken_53 (by decide) (by decide) <|
      cw_aload_n (pc := 152) dX0_fewestTaken_152 rfl rfl <|
      cw_bipush (v := -5) (pc := 153) dX0_fewestTaken_153 (by decide) <|
      cw_putI (q := 58) (pc := 155) dX0_fewestTaken_155 pX0_59 sh_58 (by decide) rfl <|
      cw_aload_n (pc := 158) dX0_fewestTaken_158 rfl rfl <|
      cw_bipush (v := 13) (pc := 159) dX0_fewestTaken_159 (by decide) <|
      cw_putI (q := 58) (pc := 161) dX0_fewestTaken_161 pX0_62 sh_58 (by decide) rfl <|
      cw_aload_n (pc := 164) dX0_fewestTaken_164 rfl rfl <|
      cw_iconst (v := 0) (pc := 165) dX0_fewestTaken_165 (by decide) <|
      cw_aload_n (pc := 166) dX0_fewestTaken_166 rfl rfl <|
      cw_getI (q := 58) (pc := 167) dX0_fewestTaken_167 fX0_33 sh_58 (by decide) rfl <|
      ?_
    rw [show (st (st m 58 5 (-5)) 58 6 13) 58 3 = nI (pgS s p) from hq.2.1]
    refine cw_iconst (v := 0) (pc := 170) dX0_fewestTaken_170 (by decide) <|
      cw_iconst (v := 0) (pc := 171) dX0_fewestTaken_171 (by decide) <|
      cw_iconst (v := 0) (pc := 172) dX0_fewestTaken_172 (by decide) <|
      cw_invP (q := 58) (pc := 173) dX0_fewestTaken_173 key rfl vX0_65 sh_58 (by decide) rfl rfl rfl (by decide) <|
      ?_
    rintro _ m1 ⟨rfl, kb, ks⟩
    refine cw_aload_n (pc := 176) dX0_fewestTaken_176 rfl rfl <|
      cw_getI (q := 58) (pc := 177) dX0_fewestTaken_177 fX0_59 sh_58 (by decide) rfl <|
      ?_
    rw [kb.1]
    refine cw_iret (pc := 180) dX0_fewestTaken_180 hR <|
      ⟨rfl, ((hS.s1 (Or.inr (Or.inr ⟨by decide, by decide⟩))).s1 (Or.inr (Or.inr ⟨by decide, by decide⟩))).tr (ks.mo (fun q i h => by unfold FS at h; unfold FF; omega))⟩
  · rintro i a m hi ⟨hS, h4, h3, h2, hT⟩ ih
    have inner : ∀ m : Mem, Same FF μ m ∧ m 58 4 = 40 - nI mk ∧ m 58 3 = nI (pgS s p) ∧ m 58 2 = nI (lyN s (i + 1)) ∧ TB m s code p i 0 → CW E Γ cX0_fewestTaken 6 RX0 20 89 ([.ref 58, .ref 50, .ref 54, .int (nI p), .int (nI i), .int (nI 0)]) [] m := by
      intro m hm
      refine cw_for (σ := Unit) 9 (fun j _ m => Same FF μ m ∧ m 58 4 = 40 - nI mk ∧ m 58 3 = nI (pgS s p) ∧ m 58 2 = nI (lyN s (i + 1)) ∧ TB m s code p i j) (fun j _ => [.ref 58, .ref 50, .ref 54, .int (nI p), .int (nI i), .int (nI j)]) ?_ ?_ 0 () m (Nat.zero_le _) hm
      · rintro ⟨⟩ m ⟨hS, h4, h3, h2, hT⟩
        refine cw_iload (pc := 89) dX0_fewestTaken_89 rfl <|
          cw_bipush (v := 9) (pc := 91) dX0_fewestTaken_91 (by decide) <|
          cw_icmp_ge_T (tgt := 146) (pc := 93) dX0_fewestTaken_93 (by decide) (by decide) <|
          cw_iincL (L' := [_, _, _, _, _, _]) (c := 1) (pc := 146) dX0_fewestTaken_146 rfl (by decide) (by decide) rfl rfl <|
          ?_
        rw [nI_1 i]
        refine cw_goto (tgt := 49) (pc := 149) dX0_fewestTaken_149 (by decide) <|
          ?_
        exact ih _ _ ⟨hS, h4, h3, h2, hT.nx⟩
      · rintro j ⟨⟩ m hj ⟨hS, h4, h3, h2, hT⟩ ih2
        have f : ∀ q, q ≤ 50 → m q = μ q := fun q h => funext fun i => hS _ _ (by unfold FF; omega)
        have hLm : RelL m 2 s := hL.mo (fun q a b => f q (by omega))
        have hcm := hcd.mo (f _ (by omega)) (f _ (by omega)) (f _ (by omega))
        have hmm : nI p < m 2 1 := by rw [f 2 (by omega), h31, hn]; exact nI_lt hp (by omega)
        have hv1 : mv j (stC m 2 code p i j (m (2 + 1) i)) = mv j (stS s code p i j (s (19 + i))) := by rw [stC_S hLm code hp6, hLm.2.2.2.2.1 i hi]
        have hj8 : j ≤ 8 := by omega
        refine cw_iload (pc := 89) dX0_fewestTaken_89 rfl <|
          cw_bipush (v := 9) (pc := 91) dX0_fewestTaken_91 (by decide) <|
          cw_icmp_ge_F (tgt := 146) (pc := 93) dX0_fewestTaken_93 (by decide) (nI_ge (b := 9) hj (by decide)) <|
          cw_aload_n (pc := 96) dX0_fewestTaken_96 rfl rfl <|
          cw_getR (q := 58) (t := 59) (pc := 97) dX0_fewestTaken_97 fX0_9 sh_58 (by decide) rfl <|
          cw_iload (pc := 100) dX0_fewestTaken_100 rfl <|
          cw_bipush (v := 9) (pc := 102) dX0_fewestTaken_102 (by decide) <|
          cw_imul (pc := 104) dX0_fewestTaken_104 <|
          cw_iload (pc := 105) dX0_fewestTaken_105 rfl <|
          cw_iadd (pc := 107) dX0_fewestTaken_107 <|
          cw_aload_n (pc := 108) dX0_fewestTaken_108 rfl rfl <|
          cw_iload_n (pc := 109) dX0_fewestTaken_109 rfl rfl <|
          cw_iload (pc := 110) dX0_fewestTaken_110 rfl <|
          cw_iload (pc := 112) dX0_fewestTaken_112 rfl <|
          cw_invP (q := 50) (pc := 114) dX0_fewestTaken_114 (c_X4_moved plo_50 land_2 par_9 hcm hw hp6 hmm hi hj8) rfl vX0_55 sh_50 (by decide) rfl rfl rfl (by decide) <|
          ?_
        rintro _ m1 ⟨rfl, s1⟩
        rw [hv1]
        refine cw_ias (q := 59) (jn := ((i * 9) + j)) (pc := 117) dX0_fewestTaken_117 sh_59 (nx_add (nx_mul rfl rfl) rfl) (by omega) (by decide) <|
          ?_
        have S2 := (hS.tr (s1.mo (G := FF) (fun q i h => Or.inl h))).s1 (F := FF) (q := 59) (i := i * 9 + j) (v := mv j (stS s code p i j (s (19 + i)))) (Or.inr (Or.inr ⟨by decide, by decide⟩))
        generalize hgm : st m1 59 (i * 9 + j) (mv j (stS s code p i j (s (19 + i)))) = mm at S2 ⊢
        have f2 : ∀ q, q ≤ 50 → mm q = μ q := fun q h => funext fun i => S2 _ _ (by unfold FF; omega)
        have hL2 : RelL mm 43 (bare s) := hB.mo (fun q a b => f2 q (by omega))
        have hc2 := hcd.mo (f2 _ (by omega)) (f2 _ (by omega)) (f2 _ (by omega))
        have hm2 : nI p < mm 43 1 := by rw [hL2.2.1, bare_o (by omega), hn]; exact nI_lt hp (by omega)
        have hv2 : mv j (stC mm 43 code p i j (mm (43 + 1) i)) = mv j (stS s code p i j 0) := by rw [stC_S hL2 code hp6, hL2.2.2.2.2.1 i hi, bare_f hi, stS_bare hp6]
        refine cw_aload_n (pc := 118) dX0_fewestTaken_118 rfl rfl <|
          cw_getR (q := 58) (t := 60) (pc := 119) dX0_fewestTaken_119 fX0_15 sh_58 (by decide) rfl <|
          cw_iload (pc := 122) dX0_fewestTaken_122 rfl <|
          cw_bipush (v := 9) (pc := 124) dX0_fewestTaken_124 (by decide) <|
          cw_imul (pc := 126) dX0_fewestTaken_126 <|
          cw_iload (pc := 127) dX0_fewestTaken_127 rfl <|
          cw_iadd (pc := 129) dX0_fewestTaken_129 <|
          cw_aload_n (pc := 130) dX0_fewestTaken_130 rfl rfl <|
          cw_iload_n (pc := 131) dX0_fewestTaken_131 rfl rfl <|
          cw_iload (pc := 132) dX0_fewestTaken_132 rfl <|
          cw_iload (pc := 134) dX0_fewestTaken_134 rfl <|
          cw_invP (q := 54) (pc := 136) dX0_fewestTaken_136 (c_X4_moved plo_54 land_43 par_9 hc2 hw hp6 hm2 hi hj8) rfl vX0_55 sh_54 (by decide) rfl rfl rfl (by decide) <|
          ?_
        rintro _ m2 ⟨rfl, s2⟩
        rw [hv2]
        refine cw_ias (q := 60) (jn := ((i * 9) + j)) (pc := 139) dX0_fewestTaken_139 sh_60 (nx_add (nx_mul rfl rfl) rfl) (by omega) (by decide) <|
          cw_iincL (L' := [_, _, _, _, _, _]) (c := 1) (pc := 140) dX0_fewestTaken_140 rfl (by decide) (by decide) rfl rfl <|
          ?_
        rw [nI_1 j]
        refine cw_goto (tgt := 89) (pc := 143) dX0_fewestTaken_143 (by decide) <|
          ?_
        subst hgm
        obtain ⟨t1, t2, t3, t4⟩ := tab_f (w := mv j (stS s code p i j 0)) s1 s2
        exact ih2 () _ ⟨(S2.tr (s2.mo (fun q i h => Or.inr (Or.inl h)))).s1 (Or.inr (Or.inr ⟨by decide, by decide⟩)), (t4 4).trans h4, (t4 3).trans h3, (t4 2).trans h2, hT.st hj8 t1 t2 t3⟩
    have e3 : m 3 i = s (19 + i) := (hS _ _ (by unfold FF; omega)).trans (hL.2.2.2.2.1 i hi)
    by_cases h0 : 0 < s (19 + i)
    · have hly : nI (lyN s i) ||| nI (2 ^ i) = nI (lyN s (i + 1)) := by rw [nI_or]; simp only [lyN]; rw [if_pos h0]
      refine cw_iload (pc := 49) dX0_fewestTaken_49 rfl <|
        cw_bipush (v := 12) (pc := 51) dX0_fewestTaken_51 (by decide) <|
        cw_icmp_ge_F (tgt := 152) (pc := 53) dX0_fewestTaken_53 (by decide) (nI_ge (b := 12) hi (by decide)) <|
        cw_aload_n (pc := 56) dX0_fewestTaken_56 rfl rfl <|
        cw_dup (pc := 57) dX0_fewestTaken_57 rfl <|
        cw_getI (q := 58) (pc := 58) dX0_fewestTaken_58 fX0_49 sh_58 (by decide) rfl <|
        ?_
      rw [h2]
      refine cw_aload_n (pc := 61) dX0_fewestTaken_61 rfl rfl <|
        cw_getNR (q := 50) (t := 2) (pc := 62) dX0_fewestTaken_62 fX0_18 sh_50 (by decide) rfl <|
        cw_getR (q := 2) (t := 3) (pc := 65) dX0_fewestTaken_65 fX0_52 sh_2 (by decide) rfl <|
        cw_iload (pc := 68) dX0_fewestTaken_68 rfl <|
        cw_ial (q := 3) (jn := i) (pc := 70) dX0_fewestTaken_70 sh_3 rfl (by omega) (by decide) <|
        ?_
      rw [e3]
      refine cw_if_le_F (tgt := 81) (pc := 71) dX0_fewestTaken_71 (by decide) (Int32.not_le.mpr h0) <|
        cw_iconst (v := 1) (pc := 74) dX0_fewestTaken_74 (by decide) <|
        cw_iload (pc := 75) dX0_fewestTaken_75 rfl <|
        cw_ishl (pc := 77) dX0_fewestTaken_77 <|
        ?_
      rw [shl2 i hi]
      refine cw_goto (tgt := 82) (pc := 78) dX0_fewestTaken_78 (by decide) <|
        cw_ior (pc := 82) dX0_fewestTaken_82 <|
        ?_
      rw [hly]
      refine cw_putI (q := 58) (pc := 83) dX0_fewestTaken_83 pX0_49 sh_58 (by decide) rfl <|
        cw_iconst (v := 0) (pc := 86) dX0_fewestTaken_86 (by decide) <|
        cw_istore (L' := [_, _, _, _, _, _]) (pc := 87) dX0_fewestTaken_87 (by decide) rfl rfl <|
        ?_
      exact inner _ ⟨hS.s1 (Or.inr (Or.inr ⟨by decide, by decide⟩)), by rw [st_at, if_neg (by omega)]; exact h4, by rw [st_at, if_neg (by omega)]; exact h3, st_eq _ _ _ _, hT.mo (funext fun y => st_at.trans (if_neg (by omega))) (funext fun y => st_at.trans (if_neg (by omega)))⟩
    · have hly : nI (lyN s i) ||| 0 = nI (lyN s (i + 1)) := by rw [Int32.or_zero]; simp only [lyN]; rw [if_neg h0]
      refine cw_iload (pc := 49) dX0_fewestTaken_49 rfl <|
        cw_bipush (v := 12) (pc := 51) dX0_fewestTaken_51 (by decide) <|
        cw_icmp_ge_F (tgt := 152) (pc := 53) dX0_fewestTaken_53 (by decide) (nI_ge (b := 12) hi (by decide)) <|
        cw_aload_n (pc := 56) dX0_fewestTaken_56 rfl rfl <|
        cw_dup (pc := 57) dX0_fewestTaken_57 rfl <|
        cw_getI (q := 58) (pc := 58) dX0_fewestTaken_58 fX0_49 sh_58 (by decide) rfl <|
        ?_
      rw [h2]
      refine cw_aload_n (pc := 61) dX0_fewestTaken_61 rfl rfl <|
        cw_getNR (q := 50) (t := 2) (pc := 62) dX0_fewestTaken_62 fX0_18 sh_50 (by decide) rfl <|
        cw_getR (q := 2) (t := 3) (pc := 65) dX0_fewestTaken_65 fX0_52 sh_2 (by decide) rfl <|
        cw_iload (pc := 68) dX0_fewestTaken_68 rfl <|
        cw_ial (q := 3) (jn := i) (pc := 70) dX0_fewestTaken_70 sh_3 rfl (by omega) (by decide) <|
        ?_
      rw [e3]
      refine cw_if_le_T (tgt := 81) (pc := 71) dX0_fewestTaken_71 (by decide) (Int32.not_lt.mp h0) <|
        cw_iconst (v := 0) (pc := 81) dX0_fewestTaken_81 (by decide) <|
        cw_ior (pc := 82) dX0_fewestTaken_82 <|
        ?_
      rw [hly]
      refine cw_putI (q := 58) (pc := 83) dX0_fewestTaken_83 pX0_49 sh_58 (by decide) rfl <|
        cw_iconst (v := 0) (pc := 86) dX0_fewestTaken_86 (by decide) <|
        cw_istore (L' := [_, _, _, _, _, _]) (pc := 87) dX0_fewestTaken_87 (by decide) rfl rfl <|
        ?_
      exact inner _ ⟨hS.s1 (Or.inr (Or.inr ⟨by decide, by decide⟩)), by rw [st_at, if_neg (by omega)]; exact h4, by rw [st_at, if_neg (by omega)]; exact h3, st_eq _ _ _ _, hT.mo (funext fun y => st_at.trans (if_neg (by omega))) (funext fun y => st_at.trans (if_neg (by omega)))⟩
set_option maxHeartbeats 4000000 in
set_option maxRecDepth 100000 in
theorem c_X8_clear {E : Ev} {μ : Mem} {s : Row} {n mk : Nat} {code : PCo} (hI : Inv s n code mk) (hR1 : Rel μ 1 s code mk) {x : Int32} : AM E yX8_clear cX8_clear 2 (some .int) 30 [.ref 0, .int x] μ (fun r μ' => r = some (.int (clearA s code mk x)) ∧ Same (fun q _ => 43 ≤ q ∧ q ≤ 64) μ μ') := by
  refine am_of (own := RX8) (L := [.ref 0, .int x]) (by decide) rfl (Nat.le_of_ble_eq_true rfl) rfl (fun Γ hR => ?_)
  have hR0 := hR1
  obtain ⟨hIL, hIP, hIC, hIS, hIW, hIB, hIT⟩ := hI
  obtain ⟨hL, ⟨hcd, hmk⟩, hT, hC, hS, hW, hB, hnp⟩ := hR1
  have hn := hIL.1
  have h6 := hIL.2.1
  have h31 : μ 2 1 = s 31 := hL.2.1
  by_cases hx : 0 ≤ x ∧ x < s 31
  · obtain ⟨p, hp, rfl⟩ := isM_of hn h6 hx
    refine cw_aload_n (pc := 0) dX8_clear_0 rfl rfl <|
      cw_getR (q := 0) (t := 2) (pc := 1) dX8_clear_1 fX8_25 sh_0 (by decide) rfl <|
      cw_iload_n (pc := 4) dX8_clear_4 rfl rfl <|
      cw_invI (q := 2) (pc := 5) dX8_clear_5 (c_has land_2 h31 hn h6) rfl vX8_112 sh_2 (by decide) rfl rfl rfl (by decide) <|
      cw_if_ne_T (tgt := 13) (pc := 8) dX8_clear_8 (by decide) (bI_n0.mpr hx) <|
      cw_aload_n (pc := 13) dX8_clear_13 rfl rfl <|
      cw_getR (q := 0) (t := 43) (pc := 14) dX8_clear_14 fX8_42 sh_0 (by decide) rfl <|
      cw_aload_n (pc := 17) dX8_clear_17 rfl rfl <|
      cw_getR (q := 0) (t := 2) (pc := 18) dX8_clear_18 fX8_25 sh_0 (by decide) rfl <|
      cw_invP (q := 43) (pc := 21) dX8_clear_21 (c_copy hL) rfl vX8_202 sh_43 (by decide) rfl rfl rfl (by decide) <|
      ?_
    rintro _ m1 ⟨rfl, l1, s1⟩
    refine cw_aload_n (pc := 24) dX8_clear_24 rfl rfl <|
      cw_getR (q := 0) (t := 43) (pc := 25) dX8_clear_25 fX8_42 sh_0 (by decide) rfl <|
      cw_getR (q := 43) (t := 44) (pc := 28) dX8_clear_28 fX8_153 sh_43 (by decide) rfl <|
      cw_iconst (v := 0) (pc := 31) dX8_clear_31 (by decide) <|
      cw_insP (pc := 32) dX8_clear_32 (c_J7_fill_53178 (q := 44) (n := 12) sh_44 (by decide)) vX8_215 rfl rfl rfl (by decide) <|
      ?_
    rintro _ m2 ⟨rfl, l2, s2⟩
    have hB2 := l1.bare l2 s2
    have sS : Same (fun q _ => 43 ≤ q ∧ q ≤ 64) μ m2 := (s1.mo (fun q i h => by omega)).tr (s2.mo (fun q i h => by omega))
    have f : ∀ q, q ≤ 21 → m2 q = μ q := fun q h => funext fun i => sS _ _ (by omega)
    have hL2 : RelL m2 2 s := hL.mo (fun q a b => f q (by omega))
    refine cw_aload_n (pc := 35) dX8_clear_35 rfl rfl <|
      cw_getR (q := 0) (t := 58) (pc := 36) dX8_clear_36 fX8_51 sh_0 (by decide) rfl <|
      cw_aload_n (pc := 39) dX8_clear_39 rfl rfl <|
      cw_getR (q := 0) (t := 50) (pc := 40) dX8_clear_40 fX8_35 sh_0 (by decide) rfl <|
      cw_aload_n (pc := 43) dX8_clear_43 rfl rfl <|
      cw_getR (q := 0) (t := 54) (pc := 44) dX8_clear_44 fX8_45 sh_0 (by decide) rfl <|
      cw_iload_n (pc := 47) dX8_clear_47 rfl rfl <|
      cw_invP (q := 58) (pc := 48) dX8_clear_48 (c_X0_fewestTaken hIL hL2 hB2 (hcd.mo (f _ (by omega)) (f _ (by omega)) (f _ (by omega))) hIP.2.2.2 (by rw [f 9 (by omega)]; exact hmk) hIP.2.2.1 hp) rfl vX8_221 sh_58 (by decide) rfl rfl rfl (by decide) <|
      ?_
    rintro _ m3 ⟨rfl, s3⟩
    refine cw_iret (pc := 51) dX8_clear_51 hR <|
      ⟨by rw [clearA, if_pos hx, nN_nI (by omega)], sS.tr (s3.mo (fun q i h => by unfold FF at h; omega))⟩
  · refine cw_aload_n (pc := 0) dX8_clear_0 rfl rfl <|
      cw_getR (q := 0) (t := 2) (pc := 1) dX8_clear_1 fX8_25 sh_0 (by decide) rfl <|
      cw_iload_n (pc := 4) dX8_clear_4 rfl rfl <|
      cw_invI (q := 2) (pc := 5) dX8_clear_5 (c_has land_2 h31 hn h6) rfl vX8_112 sh_2 (by decide) rfl rfl rfl (by decide) <|
      cw_if_ne_F (tgt := 13) (pc := 8) dX8_clear_8 (by decide) (bI_0.mpr hx) <|
      cw_iconst (v := -1) (pc := 11) dX8_clear_11 (by decide) <|
      cw_iret (pc := 12) dX8_clear_12 hR <|
      ⟨by rw [clearA, if_neg hx], Same.rf⟩
