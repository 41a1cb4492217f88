/-! ===== the component's reader: clauses, PARISH ===== -/
def FRx : Nat → Nat → Prop := fun q i => (q = 61 ∧ 2 ≤ i) ∨ (62 ≤ q ∧ q ≤ 64)
theorem F61_x {μ μ' : Mem} (h : Same F61 μ μ') : Same FRx μ μ' := h.mo (fun q i h => Or.inl h)
theorem F62_x {μ μ' : Mem} (h : Same F62 μ μ') : Same FRx μ μ' := h.mo (fun q i h => by unfold F62 at h; unfold FRx; omega)
theorem FRd_x {μ μ' : Mem} (h : Same FRd μ μ') : Same FRx μ μ' := h.mo (fun q i h => by unfold FRd at h; unfold FRx; omega)
theorem RQ.mx {μ μ' : Mem} {s : Row} (h : RQ μ s) (e : Same FRx μ μ') : RQ μ' s := ⟨(e _ _ (by unfold FRx; omega)).trans h.1, fun i hi => (e _ _ (by unfold FRx; omega)).trans (h.2 i hi)⟩
theorem cla_hd (nx : Nat → Int32) (i : Nat) (c : PCo) (mk : Nat) : claT nx i c mk =
  if (hdT nx (wrdT (nx i)) i).1 = true then
    (if nx i = 112 then (true, (hdT nx (wrdT (nx i)) i).2.1, c, (hdT nx (wrdT (nx i)) i).2.2)
     else if nx (hdT nx (wrdT (nx i)) i).2.1 = 32 then
      (if (eitT nx (facT nx 5) ((hdT nx (wrdT (nx i)) i).2.1 + 1) c).1 = true then (true, (eitT nx (facT nx 5) ((hdT nx (wrdT (nx i)) i).2.1 + 1) c).2.1, (eitT nx (facT nx 5) ((hdT nx (wrdT (nx i)) i).2.1 + 1) c).2.2 ++ [(if nx i = 100 then 21 else 22, (hdT nx (wrdT (nx i)) i).2.2)], mk)
       else (false, (eitT nx (facT nx 5) ((hdT nx (wrdT (nx i)) i).2.1 + 1) c).2.1, c, mk))
     else (false, (hdT nx (wrdT (nx i)) i).2.1, c, mk))
  else (false, (hdT nx (wrdT (nx i)) i).2.1, c, mk) := by
  rw [cla_eq]
  by_cases hw : (worT nx (wrdT (nx i)) i).1 = true
  · have e : hdT nx (wrdT (nx i)) i = numT nx (i + 5) := if_pos hw
    rw [if_pos hw, e]
  · have e : hdT nx (wrdT (nx i)) i = (false, (worT nx (wrdT (nx i)) i).2, 0) := if_neg hw
    rw [if_neg hw, e]; rfl
theorem nb1 : (1 : Int32) + 0 = 1 := by decide
theorem hd_ge {nx : Nat → Int32} {k i : Nat} {l : List Int32} (hN : ∀ i, k ≤ i → nx i = -1) (hl : (-1 : Int32) ∉ l ∧ l.length = 5) (hi : i ≤ k) : i ≤ (hdT nx l i).2.1 := by
  obtain ⟨w1, w2, w3⟩ := wor_good hN l i hl.1 hi
  unfold hdT
  by_cases hw : (worT nx l i).1 = true
  · rw [if_pos hw]
    have := w3 hw
    have := (num_good hN (show i + 5 ≤ k by omega)).1
    omega
  · rw [if_neg hw]; exact w1
set_option maxHeartbeats 4000000 in
set_option maxRecDepth 100000 in
theorem c_X5_faultOfTape {E : Ev} {μ : Mem} {s : Row} {k : Nat} (hIT : InvT s) (hk : s 37 = nI k) (h100 : k ≤ 100) (hq : RQ μ s) : AM E yX5_faultOfTape cX5_faultOfTape 5 (some .int) 30 [.ref 61] μ (fun r μ' => r = some (.int (if (rdS s).1 = true then -1 else nI (rdS s).2.1)) ∧ ((rdS s).1 = true → CodeAt μ' 62 (rdS s).2.2.1 ∧ μ' 62 3 = nI (rdS s).2.2.2) ∧ Same FRx μ μ') := by
  refine am_of (own := RX5) (L := [.ref 61, .null, .null, .null, .null]) (by decide) rfl (Nat.le_of_ble_eq_true rfl) rfl (fun Γ hR => ?_)
  have hN := nx_end hk h100
  refine cw_aload_n (pc := 0) dX5_faultOfTape_0 rfl rfl <|
    cw_getR (q := 61) (t := 62) (pc := 1) dX5_faultOfTape_1 fX5_12 sh_61 (by decide) rfl <|
    cw_invP (q := 62) (pc := 4) dX5_faultOfTape_4 (c_X3_empties par_62) rfl vX5_22 sh_62 (by decide) rfl rfl rfl (by decide) <|
    ?_
  rintro _ m0 ⟨rfl, rfl⟩
  have s0 : Same FRx μ (st (st (st μ 62 2 0) 62 3 30) 61 2 (-1)) := ((Same.rf.s1 (F := FRx) (Or.inr ⟨by decide, by decide⟩)).s1 (Or.inr ⟨by decide, by decide⟩)).s1 (Or.inl ⟨rfl, by decide⟩)
  refine cw_aload_n (pc := 7) dX5_faultOfTape_7 rfl rfl <|
    cw_iconst (v := -1) (pc := 8) dX5_faultOfTape_8 (by decide) <|
    cw_putI (q := 61) (pc := 9) dX5_faultOfTape_9 pX5_25 sh_61 (by decide) rfl <|
    cw_aload_n (pc := 12) dX5_faultOfTape_12 rfl rfl <|
    cw_invP (q := 61) (pc := 13) dX5_faultOfTape_13 (c_X5_goesOn hk h100 (hq.mx s0) (i := 0) (by rw [st_eq]; rfl) (by omega)) rfl vX5_29 sh_61 (by decide) rfl rfl rfl (by decide) <|
    ?_
  rintro _ m1 ⟨rfl, rfl⟩
  refine cw_iconst (v := 1) (pc := 16) dX5_faultOfTape_16 (by decide) <|
    cw_istore_n (L' := [_, _, _, _, _]) (pc := 17) dX5_faultOfTape_17 rfl (by decide) rfl rfl <|
    ?_
  refine cw_for (σ := (Nat × PCo × Nat) × Value × Value × Value) 10 (fun j a m => parT (nxT s) 10 0 [] 30 = parT (nxT s) (10 - j) a.1.1 a.1.2.1 a.1.2.2 ∧ a.1.1 ≤ k ∧ a.1.2.1.length ≤ a.1.1 ∧ a.1.2.2 ≤ 99 ∧ RA m s a.1.1 ∧ CodeAt m 62 a.1.2.1 ∧ m 62 3 = nI a.1.2.2 ∧ Same FRx μ m) (fun j a => [.ref 61, .int (nI (j + 1)), a.2.1, a.2.2.1, a.2.2.2]) ?_ ?_ 0 ((0, [], 30), .null, .null, .null) _ (Nat.zero_le _) ⟨rfl, Nat.zero_le _, Nat.zero_le _, by decide, ⟨by rw [st_at, if_neg (by omega), st_eq], st_eq _ _ _ _⟩, ⟨rfl, Nat.zero_le _, fun i c h => by cases h⟩, rfl, (s0.s1 (Or.inl ⟨rfl, by decide⟩)).s1 (Or.inl ⟨rfl, by decide⟩)⟩
  · rintro ⟨⟨i, c, mk⟩, z1, z2, z3⟩ m ⟨hp, hik, hci, hmk, ha, hc, h3, hS⟩
    dsimp only at hp hik hci hmk ha hc h3 ⊢
    have hr : rdS s = (false, i, c, mk) := hp
    refine cw_iload_n (pc := 18) dX5_faultOfTape_18 rfl rfl <|
      cw_bipush (v := 10) (pc := 19) dX5_faultOfTape_19 (by decide) <|
      cw_icmp_gt_T (tgt := 189) (pc := 21) dX5_faultOfTape_21 (by decide) (by decide) <|
      cw_aload_n (pc := 189) dX5_faultOfTape_189 rfl rfl <|
      cw_getI (q := 61) (pc := 190) dX5_faultOfTape_190 fX5_25 sh_61 (by decide) rfl <|
      ?_
    rw [ha.1]
    refine cw_iret (pc := 193) dX5_faultOfTape_193 hR <|
      ⟨by rw [hr]; rfl, (fun q => by rw [hr] at q; cases q), hS⟩
  · rintro j ⟨⟨i, c, mk⟩, z1, z2, z3⟩ m hj ⟨hp, hik, hci, hmk, ha, hc, h3, hS⟩ ih
    dsimp only at hp hik hci hmk ha hc h3 ⊢
    have hrd : rdS s = parT (nxT s) (9 - j + 1) i c mk := by rw [show 9 - j + 1 = 10 - j by omega]; exact hp
    rw [par_s] at hrd
    have hqm := hq.mx hS
    have hgd := cla_good (c := c) hN hik hmk
    have fail : ∀ (m' : Mem) (p : Nat) (c' : PCo) (mk' : Nat), claT (nxT s) i c mk = (false, p, c', mk') → Same FRx μ m' → some (Value.int (nI p)) = some (Value.int (if (rdS s).1 = true then -1 else nI (rdS s).2.1)) ∧ ((rdS s).1 = true → CodeAt m' 62 (rdS s).2.2.1 ∧ m' 62 3 = nI (rdS s).2.2.2) ∧ Same FRx μ m' := by
      intro m' p c' mk' hcl hS'
      rw [hcl, if_neg (show ¬ ((false, p, c', mk').1 = true) from fun q => by cases q)] at hrd
      exact ⟨by rw [hrd]; rfl, (fun q => by rw [hrd] at q; cases q), hS'⟩
    have tail : ∀ (m' : Mem) (p : Nat) (c' : PCo) (mk' : Nat) (z1 z2 z3 : Value), claT (nxT s) i c mk = (true, p, c', mk') → RA m' s p → CodeAt m' 62 c' → m' 62 3 = nI mk' → Same FRx μ m' → CW E Γ cX5_faultOfTape 5 RX5 30 153 [.ref 61, .int (nI (j + 1)), z1, z2, z3] [] m' := by
      intro m' p c' mk' z1 z2 z3 hcl ha' hc' h3' hS'
      rw [hcl, if_pos rfl] at hrd
      rw [hcl] at hgd
      obtain ⟨g1, g2, g3⟩ := hgd
      obtain ⟨g4, e, g5, g6, _⟩ := g3 rfl
      dsimp only at hrd g1 g2 g4 g5 g6
      have hlen : c'.length ≤ p := by rw [g5, List.length_append]; omega
      by_cases h1 : nxT s p = -1
      · rw [if_pos h1] at hrd
        refine cw_aload_n (pc := 153) dX5_faultOfTape_153 rfl rfl <|
          cw_getI (q := 61) (pc := 154) dX5_faultOfTape_154 fX5_32 sh_61 (by decide) rfl <|
          ?_
        rw [ha'.2]
        refine cw_iconst (v := -1) (pc := 157) dX5_faultOfTape_157 (by decide) <|
          cw_icmp_ne_F (tgt := 163) (pc := 158) dX5_faultOfTape_158 (by decide) h1 <|
          cw_iconst (v := -1) (pc := 161) dX5_faultOfTape_161 (by decide) <|
          cw_iret (pc := 162) dX5_faultOfTape_162 hR <|
          ⟨by rw [hrd]; rfl, fun _ => by rw [hrd]; exact ⟨hc', h3'⟩, hS'⟩
      · rw [if_neg h1] at hrd
        by_cases hj9 : j = 9
        · rw [if_neg (fun q => q.1 (by omega))] at hrd
          refine cw_aload_n (pc := 153) dX5_faultOfTape_153 rfl rfl <|
            cw_getI (q := 61) (pc := 154) dX5_faultOfTape_154 fX5_32 sh_61 (by decide) rfl <|
            ?_
          rw [ha'.2]
          refine cw_iconst (v := -1) (pc := 157) dX5_faultOfTape_157 (by decide) <|
            cw_icmp_ne_T (tgt := 163) (pc := 158) dX5_faultOfTape_158 (by decide) h1 <|
            cw_iload_n (pc := 163) dX5_faultOfTape_163 rfl rfl <|
            cw_bipush (v := 10) (pc := 164) dX5_faultOfTape_164 (by decide) <|
            cw_icmp_eq_T (tgt := 178) (pc := 166) dX5_faultOfTape_166 (by decide) (by rw [hj9]; rfl) <|
            cw_aload_n (pc := 178) dX5_faultOfTape_178 rfl rfl <|
            cw_getI (q := 61) (pc := 179) dX5_faultOfTape_179 fX5_25 sh_61 (by decide) rfl <|
            ?_
          rw [ha'.1]
          refine cw_iret (pc := 182) dX5_faultOfTape_182 hR <|
            ⟨by rw [hrd]; rfl, (fun q => by rw [hrd] at q; cases q), hS'⟩
        · by_cases h2 : nxT s p = 59
          · rw [if_pos ⟨by omega, h2⟩] at hrd
            have hpk : p < k := lt_k hk h100 (by decide) h2
            refine cw_aload_n (pc := 153) dX5_faultOfTape_153 rfl rfl <|
              cw_getI (q := 61) (pc := 154) dX5_faultOfTape_154 fX5_32 sh_61 (by decide) rfl <|
              ?_
            rw [ha'.2]
            refine cw_iconst (v := -1) (pc := 157) dX5_faultOfTape_157 (by decide) <|
              cw_icmp_ne_T (tgt := 163) (pc := 158) dX5_faultOfTape_158 (by decide) h1 <|
              cw_iload_n (pc := 163) dX5_faultOfTape_163 rfl rfl <|
              cw_bipush (v := 10) (pc := 164) dX5_faultOfTape_164 (by decide) <|
              cw_icmp_eq_F (tgt := 178) (pc := 166) dX5_faultOfTape_166 (by decide) (fun q => hj9 (by have := (nI_eq (b := 10) (by omega) (by decide)).mp q; omega)) <|
              cw_aload_n (pc := 169) dX5_faultOfTape_169 rfl rfl <|
              cw_bipush (v := 59) (pc := 170) dX5_faultOfTape_170 (by decide) <|
              cw_invP (q := 61) (pc := 172) dX5_faultOfTape_172 (c_X5_eats hk h100 (hq.mx hS') ha' (x := 59) (by decide)) rfl vX5_51 sh_61 (by decide) rfl rfl rfl (by decide) <|
              ?_
            rintro _ m2 ⟨rfl, a2, s2⟩
            rw [if_pos h2] at a2
            refine cw_if_ne_T (tgt := 183) (pc := 175) dX5_faultOfTape_175 (by decide) (bI_n0.mpr h2) <|
              cw_iincL (L' := [_, _, _, _, _]) (c := 1) (pc := 183) dX5_faultOfTape_183 rfl (by decide) (by decide) rfl rfl <|
              ?_
            rw [nI_1 (j + 1)]
            refine cw_goto (tgt := 18) (pc := 186) dX5_faultOfTape_186 (by decide) <|
              ?_
            exact ih ((p + 1, c', mk'), z1, z2, z3) _ ⟨by rw [show 10 - (j + 1) = 9 - j by omega]; exact hrd, hpk, Nat.le_succ_of_le hlen, g4, a2, hc'.m1 s2, (s2 _ _ (by unfold F61; omega)).trans h3', hS'.tr (F61_x s2)⟩
          · rw [if_neg (fun q => h2 q.2)] at hrd
            refine cw_aload_n (pc := 153) dX5_faultOfTape_153 rfl rfl <|
              cw_getI (q := 61) (pc := 154) dX5_faultOfTape_154 fX5_32 sh_61 (by decide) rfl <|
              ?_
            rw [ha'.2]
            refine cw_iconst (v := -1) (pc := 157) dX5_faultOfTape_157 (by decide) <|
              cw_icmp_ne_T (tgt := 163) (pc := 158) dX5_faultOfTape_158 (by decide) h1 <|
              cw_iload_n (pc := 163) dX5_faultOfTape_163 rfl rfl <|
              cw_bipush (v := 10) (pc := 164) dX5_faultOfTape_164 (by decide) <|
              cw_icmp_eq_F (tgt := 178) (pc := 166) dX5_faultOfTape_166 (by decide) (fun q => hj9 (by have := (nI_eq (b := 10) (by omega) (by decide)).mp q; omega)) <|
              cw_aload_n (pc := 169) dX5_faultOfTape_169 rfl rfl <|
              cw_bipush (v := 59) (pc := 170) dX5_faultOfTape_170 (by decide) <|
              cw_invP (q := 61) (pc := 172) dX5_faultOfTape_172 (c_X5_eats hk h100 (hq.mx hS') ha' (x := 59) (by decide)) rfl vX5_51 sh_61 (by decide) rfl rfl rfl (by decide) <|
              ?_
            rintro _ m2 ⟨rfl, a2, s2⟩
            rw [if_neg h2] at a2
            refine cw_if_ne_F (tgt := 183) (pc := 175) dX5_faultOfTape_175 (by decide) (bI_0.mpr h2) <|
              cw_aload_n (pc := 178) dX5_faultOfTape_178 rfl rfl <|
              cw_getI (q := 61) (pc := 179) dX5_faultOfTape_179 fX5_25 sh_61 (by decide) rfl <|
              ?_
            rw [a2.1]
            refine cw_iret (pc := 182) dX5_faultOfTape_182 hR <|
              ⟨by rw [hrd]; rfl, (fun q => by rw [hrd] at q; cases q), hS'.tr (F61_x s2)⟩
    by_cases hk1 : nxT s i = 112
    · have hcl := cla_hd (nxT s) i c mk
      rw [show wrdT (nxT s i) = bytS.getD 0 [] ++ [32] by unfold wrdT; rw [if_pos hk1]; rfl, if_pos hk1] at hcl
      by_cases hs : (hdT (nxT s) (bytS.getD 0 [] ++ [32]) i).1 = true
      · rw [if_pos hs] at hcl
        refine cw_iload_n (pc := 18) dX5_faultOfTape_18 rfl rfl <|
          cw_bipush (v := 10) (pc := 19) dX5_faultOfTape_19 (by decide) <|
          cw_icmp_gt_F (tgt := 189) (pc := 21) dX5_faultOfTape_21 (by decide) (Int32.not_lt.mpr (nI_le (b := 10) (by omega) (by decide))) <|
          cw_aload_n (pc := 24) dX5_faultOfTape_24 rfl rfl <|
          cw_getI (q := 61) (pc := 25) dX5_faultOfTape_25 fX5_32 sh_61 (by decide) rfl <|
          ?_
        rw [ha.2]
        refine cw_bipush (v := 112) (pc := 28) dX5_faultOfTape_28 (by decide) <|
          cw_icmp_ne_F (tgt := 37) (pc := 30) dX5_faultOfTape_30 (by decide) hk1 <|
          cw_iconst (v := 1) (pc := 33) dX5_faultOfTape_33 (by decide) <|
          cw_goto (tgt := 38) (pc := 34) dX5_faultOfTape_34 (by decide) <|
          cw_istore_n (L' := [_, _, _, _, _]) (pc := 38) dX5_faultOfTape_38 rfl (by decide) rfl rfl <|
          cw_aload_n (pc := 39) dX5_faultOfTape_39 rfl rfl <|
          cw_getI (q := 61) (pc := 40) dX5_faultOfTape_40 fX5_32 sh_61 (by decide) rfl <|
          ?_
        rw [ha.2]
        refine cw_bipush (v := 100) (pc := 43) dX5_faultOfTape_43 (by decide) <|
          cw_icmp_ne_T (tgt := 52) (pc := 45) dX5_faultOfTape_45 (by decide) (by rw [hk1]; decide) <|
          cw_iconst (v := 0) (pc := 52) dX5_faultOfTape_52 (by decide) <|
          cw_istore_n (L' := [_, _, _, _, _]) (pc := 53) dX5_faultOfTape_53 rfl (by decide) rfl rfl <|
          cw_aload_n (pc := 54) dX5_faultOfTape_54 rfl rfl <|
          cw_iload_n (pc := 55) dX5_faultOfTape_55 rfl rfl <|
          cw_if_eq_F (tgt := 64) (pc := 56) dX5_faultOfTape_56 (by decide) (by decide) <|
          cw_ldcS (i := 0) (tx := "pass") (pc := 59) dX5_faultOfTape_59 (by decide) <|
          cw_goto (tgt := 75) (pc := 61) dX5_faultOfTape_61 (by decide) <|
          cw_invP (q := 61) (pc := 75) dX5_faultOfTape_75 (c_X5_heads hIT hk h100 hqm ha (m := 0) (by decide)) rfl vX5_41 sh_61 (by decide) rfl rfl rfl (by decide) <|
          ?_
        rintro _ m1 ⟨rfl, a1, v1, s1⟩
        have S1 := hS.tr (F61_x s1)
        refine cw_if_ne_T (tgt := 86) (pc := 78) dX5_faultOfTape_78 (by decide) (bI_n0.mpr hs) <|
          cw_aload_n (pc := 86) dX5_faultOfTape_86 rfl rfl <|
          cw_getI (q := 61) (pc := 87) dX5_faultOfTape_87 fX5_45 sh_61 (by decide) rfl <|
          ?_
        rw [v1 hs]
        refine cw_istore (L' := [_, _, _, _, _]) (pc := 90) dX5_faultOfTape_90 (by decide) rfl rfl <|
          cw_iload_n (pc := 92) dX5_faultOfTape_92 rfl rfl <|
          cw_if_eq_F (tgt := 108) (pc := 93) dX5_faultOfTape_93 (by decide) (by decide) <|
          cw_aload_n (pc := 96) dX5_faultOfTape_96 rfl rfl <|
          cw_getR (q := 61) (t := 62) (pc := 97) dX5_faultOfTape_97 fX5_12 sh_61 (by decide) rfl <|
          cw_iload (pc := 100) dX5_faultOfTape_100 rfl <|
          cw_putI (q := 62) (pc := 102) dX5_faultOfTape_102 pX5_48 sh_62 (by decide) rfl <|
          cw_goto (tgt := 153) (pc := 105) dX5_faultOfTape_105 (by decide) <|
          ?_
        have hc1 : CodeAt m1 62 c := hc.m1 s1
        exact tail (st m1 62 3 (nI (hdT (nxT s) (bytS.getD 0 [] ++ [32]) i).2.2)) _ _ _ _ _ _ hcl a1 (show CodeAt (st m1 62 3 (nI (hdT (nxT s) (bytS.getD 0 [] ++ [32]) i).2.2)) 62 c from hc1) (st_eq _ _ _ _) (S1.s1 (Or.inr ⟨by decide, by decide⟩))
      · rw [if_neg hs] at hcl
        refine cw_iload_n (pc := 18) dX5_faultOfTape_18 rfl rfl <|
          cw_bipush (v := 10) (pc := 19) dX5_faultOfTape_19 (by decide) <|
          cw_icmp_gt_F (tgt := 189) (pc := 21) dX5_faultOfTape_21 (by decide) (Int32.not_lt.mpr (nI_le (b := 10) (by omega) (by decide))) <|
          cw_aload_n (pc := 24) dX5_faultOfTape_24 rfl rfl <|
          cw_getI (q := 61) (pc := 25) dX5_faultOfTape_25 fX5_32 sh_61 (by decide) rfl <|
          ?_
        rw [ha.2]
        refine cw_bipush (v := 112) (pc := 28) dX5_faultOfTape_28 (by decide) <|
          cw_icmp_ne_F (tgt := 37) (pc := 30) dX5_faultOfTape_30 (by decide) hk1 <|
          cw_iconst (v := 1) (pc := 33) dX5_faultOfTape_33 (by decide) <|
          cw_goto (tgt := 38) (pc := 34) dX5_faultOfTape_34 (by decide) <|
          cw_istore_n (L' := [_, _, _, _, _]) (pc := 38) dX5_faultOfTape_38 rfl (by decide) rfl rfl <|
          cw_aload_n (pc := 39) dX5_faultOfTape_39 rfl rfl <|
          cw_getI (q := 61) (pc := 40) dX5_faultOfTape_40 fX5_32 sh_61 (by decide) rfl <|
          ?_
        rw [ha.2]
        refine cw_bipush (v := 100) (pc := 43) dX5_faultOfTape_43 (by decide) <|
          cw_icmp_ne_T (tgt := 52) (pc := 45) dX5_faultOfTape_45 (by decide) (by rw [hk1]; decide) <|
          cw_iconst (v := 0) (pc := 52) dX5_faultOfTape_52 (by decide) <|
          cw_istore_n (L' := [_, _, _, _, _]) (pc := 53) dX5_faultOfTape_53 rfl (by decide) rfl rfl <|
          cw_aload_n (pc := 54) dX5_faultOfTape_54 rfl rfl <|
          cw_iload_n (pc := 55) dX5_faultOfTape_55 rfl rfl <|
          cw_if_eq_F (tgt := 64) (pc := 56) dX5_faultOfTape_56 (by decide) (by decide) <|
          cw_ldcS (i := 0) (tx := "pass") (pc := 59) dX5_faultOfTape_59 (by decide) <|
          cw_goto (tgt := 75) (pc := 61) dX5_faultOfTape_61 (by decide) <|
          cw_invP (q := 61) (pc := 75) dX5_faultOfTape_75 (c_X5_heads hIT hk h100 hqm ha (m := 0) (by decide)) rfl vX5_41 sh_61 (by decide) rfl rfl rfl (by decide) <|
          ?_
        rintro _ m1 ⟨rfl, a1, v1, s1⟩
        have S1 := hS.tr (F61_x s1)
        refine cw_if_ne_F (tgt := 86) (pc := 78) dX5_faultOfTape_78 (by decide) (bI_0.mpr hs) <|
          cw_aload_n (pc := 81) dX5_faultOfTape_81 rfl rfl <|
          cw_getI (q := 61) (pc := 82) dX5_faultOfTape_82 fX5_25 sh_61 (by decide) rfl <|
          ?_
        rw [a1.1]
        refine cw_iret (pc := 85) dX5_faultOfTape_85 hR <|
          (fail _ _ _ _ hcl S1)
    · by_cases hk2 : nxT s i = 100
      · have hcl := cla_hd (nxT s) i c mk
        rw [show wrdT (nxT s i) = bytS.getD 1 [] ++ [32] by unfold wrdT; rw [if_neg hk1, if_pos hk2]; rfl, if_neg hk1, if_pos hk2] at hcl
        by_cases hs : (hdT (nxT s) (bytS.getD 1 [] ++ [32]) i).1 = true
        · rw [if_pos hs] at hcl
          have hge : i ≤ (hdT (nxT s) (bytS.getD 1 [] ++ [32]) i).2.1 := by have := cla_good (c := c) hN hik hmk; have h0 := (hd_ge (nx := nxT s) (l := bytS.getD 1 [] ++ [32]) hN (by decide) hik); exact h0
          by_cases hb : nxT s (hdT (nxT s) (bytS.getD 1 [] ++ [32]) i).2.1 = 32
          · rw [if_pos hb] at hcl
            have hpk : (hdT (nxT s) (bytS.getD 1 [] ++ [32]) i).2.1 < k := lt_k hk h100 (by decide) hb
            have hE := eit_good hN (fac_good hN 5) ((hdT (nxT s) (bytS.getD 1 [] ++ [32]) i).2.1 + 1) c hpk
            by_cases he : (eitT (nxT s) (facT (nxT s) 5) ((hdT (nxT s) (bytS.getD 1 [] ++ [32]) i).2.1 + 1) c).1 = true
            · rw [if_pos he] at hcl
              obtain ⟨e, ee, el, _⟩ := hE.2.2 he
              have hep := hE.2.1
              refine cw_iload_n (pc := 18) dX5_faultOfTape_18 rfl rfl <|
                cw_bipush (v := 10) (pc := 19) dX5_faultOfTape_19 (by decide) <|
                cw_icmp_gt_F (tgt := 189) (pc := 21) dX5_faultOfTape_21 (by decide) (Int32.not_lt.mpr (nI_le (b := 10) (by omega) (by decide))) <|
                cw_aload_n (pc := 24) dX5_faultOfTape_24 rfl rfl <|
                cw_getI (q := 61) (pc := 25) dX5_faultOfTape_25 fX5_32 sh_61 (by decide) rfl <|
                ?_
              rw [ha.2]
              refine cw_bipush (v := 112) (pc := 28) dX5_faultOfTape_28 (by decide) <|
                cw_icmp_ne_T (tgt := 37) (pc := 30) dX5_faultOfTape_30 (by decide) hk1 <|
                cw_iconst (v := 0) (pc := 37) dX5_faultOfTape_37 (by decide) <|
                cw_istore_n (L' := [_, _, _, _, _]) (pc := 38) dX5_faultOfTape_38 rfl (by decide) rfl rfl <|
                cw_aload_n (pc := 39) dX5_faultOfTape_39 rfl rfl <|
                cw_getI (q := 61) (pc := 40) dX5_faultOfTape_40 fX5_32 sh_61 (by decide) rfl <|
                ?_
              rw [ha.2]
              refine cw_bipush (v := 100) (pc := 43) dX5_faultOfTape_43 (by decide) <|
                cw_icmp_ne_F (tgt := 52) (pc := 45) dX5_faultOfTape_45 (by decide) hk2 <|
                cw_iconst (v := 1) (pc := 48) dX5_faultOfTape_48 (by decide) <|
                cw_goto (tgt := 53) (pc := 49) dX5_faultOfTape_49 (by decide) <|
                cw_istore_n (L' := [_, _, _, _, _]) (pc := 53) dX5_faultOfTape_53 rfl (by decide) rfl rfl <|
                cw_aload_n (pc := 54) dX5_faultOfTape_54 rfl rfl <|
                cw_iload_n (pc := 55) dX5_faultOfTape_55 rfl rfl <|
                cw_if_eq_T (tgt := 64) (pc := 56) dX5_faultOfTape_56 (by decide) rfl <|
                cw_iload_n (pc := 64) dX5_faultOfTape_64 rfl rfl <|
                cw_if_eq_F (tgt := 73) (pc := 65) dX5_faultOfTape_65 (by decide) (by decide) <|
                cw_ldcS (i := 1) (tx := "draw") (pc := 68) dX5_faultOfTape_68 (by decide) <|
                cw_goto (tgt := 75) (pc := 70) dX5_faultOfTape_70 (by decide) <|
                cw_invP (q := 61) (pc := 75) dX5_faultOfTape_75 (c_X5_heads hIT hk h100 hqm ha (m := 1) (by decide)) rfl vX5_41 sh_61 (by decide) rfl rfl rfl (by decide) <|
                ?_
              rintro _ m1 ⟨rfl, a1, v1, s1⟩
              have S1 := hS.tr (F61_x s1)
              refine cw_if_ne_T (tgt := 86) (pc := 78) dX5_faultOfTape_78 (by decide) (bI_n0.mpr hs) <|
                cw_aload_n (pc := 86) dX5_faultOfTape_86 rfl rfl <|
                cw_getI (q := 61) (pc := 87) dX5_faultOfTape_87 fX5_45 sh_61 (by decide) rfl <|
                ?_
              rw [v1 hs]
              refine cw_istore (L' := [_, _, _, _, _]) (pc := 90) dX5_faultOfTape_90 (by decide) rfl rfl <|
                cw_iload_n (pc := 92) dX5_faultOfTape_92 rfl rfl <|
                cw_if_eq_T (tgt := 108) (pc := 93) dX5_faultOfTape_93 (by decide) rfl <|
                cw_aload_n (pc := 108) dX5_faultOfTape_108 rfl rfl <|
                cw_bipush (v := 32) (pc := 109) dX5_faultOfTape_109 (by decide) <|
                cw_invP (q := 61) (pc := 111) dX5_faultOfTape_111 (c_X5_eats hk h100 (hqm.mx (F61_x s1)) a1 (x := 32) (by decide)) rfl vX5_51 sh_61 (by decide) rfl rfl rfl (by decide) <|
                ?_
              rintro _ m2 ⟨rfl, a2, s2⟩
              rw [if_pos hb] at a2
              have S2 := S1.tr (F61_x s2)
              refine cw_if_eq_F (tgt := 148) (pc := 114) dX5_faultOfTape_114 (by decide) (bI_n0.mpr hb) <|
                cw_aload_n (pc := 117) dX5_faultOfTape_117 rfl rfl <|
                cw_iconst (v := 0) (pc := 118) dX5_faultOfTape_118 (by decide) <|
                cw_invP (q := 61) (pc := 119) dX5_faultOfTape_119 (c_eit hIT hk h100 (fac_good hN 5) (c_fac hIT hk h100 5 0 rfl) m2 ((hdT (nxT s) (bytS.getD 1 [] ++ [32]) i).2.1 + 1) c ((hqm.mx (F61_x s1)).mx (F61_x s2)) a2 ((hc.m1 s1).m1 s2) (by omega) hpk) rfl vX5_55 sh_61 (by decide) rfl rfl rfl (by decide) <|
                ?_
              rintro _ m3 ⟨rfl, a3, ⟨c3, cc3, ce3⟩, s3⟩
              have S3 := S2.tr (FRd_x s3)
              refine cw_if_eq_F (tgt := 148) (pc := 122) dX5_faultOfTape_122 (by decide) (bI_n0.mpr he) <|
                cw_aload_n (pc := 125) dX5_faultOfTape_125 rfl rfl <|
                cw_getR (q := 61) (t := 62) (pc := 126) dX5_faultOfTape_126 fX5_12 sh_61 (by decide) rfl <|
                cw_iload_n (pc := 129) dX5_faultOfTape_129 rfl rfl <|
                cw_if_eq_F (tgt := 138) (pc := 130) dX5_faultOfTape_130 (by decide) (by decide) <|
                cw_bipush (v := 21) (pc := 133) dX5_faultOfTape_133 (by decide) <|
                cw_goto (tgt := 140) (pc := 135) dX5_faultOfTape_135 (by decide) <|
                cw_iload (pc := 140) dX5_faultOfTape_140 rfl <|
                cw_invP (q := 62) (pc := 142) dX5_faultOfTape_142 (c_adds62 cc3 21 (hdT (nxT s) (bytS.getD 1 [] ++ [32]) i).2.2) rfl vX5_58 sh_62 (by decide) rfl rfl rfl (by decide) <|
                ?_
              rintro _ m4 ⟨rfl, ⟨c4, cc4, ce4⟩, s4⟩
              refine cw_goto (tgt := 153) (pc := 145) dX5_faultOfTape_145 (by decide) <|
                ?_
              have ec := ce3 he
              have e4 := ce4 (by rw [ec, ee, List.length_append]; omega)
              rw [e4, ec] at cc4
              have e63 : m4 62 3 = nI mk := (s4 _ _ (by unfold F62; omega)).trans ((s3 _ _ (by unfold FRd; omega)).trans ((s2 _ _ (by unfold F61; omega)).trans ((s1 _ _ (by unfold F61; omega)).trans h3)))
              exact tail m4 _ _ _ _ _ _ hcl (a3.m2 s4) cc4 e63 (S3.tr (F62_x s4))
            · rw [if_neg he] at hcl
              refine cw_iload_n (pc := 18) dX5_faultOfTape_18 rfl rfl <|
                cw_bipush (v := 10) (pc := 19) dX5_faultOfTape_19 (by decide) <|
                cw_icmp_gt_F (tgt := 189) (pc := 21) dX5_faultOfTape_21 (by decide) (Int32.not_lt.mpr (nI_le (b := 10) (by omega) (by decide))) <|
                cw_aload_n (pc := 24) dX5_faultOfTape_24 rfl rfl <|
                cw_getI (q := 61) (pc := 25) dX5_faultOfTape_25 fX5_32 sh_61 (by decide) rfl <|
                ?_
              rw [ha.2]
              refine cw_bipush (v := 112) (pc := 28) dX5_faultOfTape_28 (by decide) <|
                cw_icmp_ne_T (tgt := 37) (pc := 30) dX5_faultOfTape_30 (by decide) hk1 <|
                cw_iconst (v := 0) (pc := 37) dX5_faultOfTape_37 (by decide) <|
                cw_istore_n (L' := [_, _, _, _, _]) (pc := 38) dX5_faultOfTape_38 rfl (by decide) rfl rfl <|
                cw_aload_n (pc := 39) dX5_faultOfTape_39 rfl rfl <|
                cw_getI (q := 61) (pc := 40) dX5_faultOfTape_40 fX5_32 sh_61 (by decide) rfl <|
                ?_
              rw [ha.2]
              refine cw_bipush (v := 100) (pc := 43) dX5_faultOfTape_43 (by decide) <|
                cw_icmp_ne_F (tgt := 52) (pc := 45) dX5_faultOfTape_45 (by decide) hk2 <|
                cw_iconst (v := 1) (pc := 48) dX5_faultOfTape_48 (by decide) <|
                cw_goto (tgt := 53) (pc := 49) dX5_faultOfTape_49 (by decide) <|
                cw_istore_n (L' := [_, _, _, _, _]) (pc := 53) dX5_faultOfTape_53 rfl (by decide) rfl rfl <|
                cw_aload_n (pc := 54) dX5_faultOfTape_54 rfl rfl <|
                cw_iload_n (pc := 55) dX5_faultOfTape_55 rfl rfl <|
                cw_if_eq_T (tgt := 64) (pc := 56) dX5_faultOfTape_56 (by decide) rfl <|
                cw_iload_n (pc := 64) dX5_faultOfTape_64 rfl rfl <|
                cw_if_eq_F (tgt := 73) (pc := 65) dX5_faultOfTape_65 (by decide) (by decide) <|
                cw_ldcS (i := 1) (tx := "draw") (pc := 68) dX5_faultOfTape_68 (by decide) <|
                cw_goto (tgt := 75) (pc := 70) dX5_faultOfTape_70 (by decide) <|
                cw_invP (q := 61) (pc := 75) dX5_faultOfTape_75 (c_X5_heads hIT hk h100 hqm ha (m := 1) (by decide)) rfl vX5_41 sh_61 (by decide) rfl rfl rfl (by decide) <|
                ?_
              rintro _ m1 ⟨rfl, a1, v1, s1⟩
              have S1 := hS.tr (F61_x s1)
              refine cw_if_ne_T (tgt := 86) (pc := 78) dX5_faultOfTape_78 (by decide) (bI_n0.mpr hs) <|
                cw_aload_n (pc := 86) dX5_faultOfTape_86 rfl rfl <|
                cw_getI (q := 61) (pc := 87) dX5_faultOfTape_87 fX5_45 sh_61 (by decide) rfl <|
                ?_
              rw [v1 hs]
              refine cw_istore (L' := [_, _, _, _, _]) (pc := 90) dX5_faultOfTape_90 (by decide) rfl rfl <|
                cw_iload_n (pc := 92) dX5_faultOfTape_92 rfl rfl <|
                cw_if_eq_T (tgt := 108) (pc := 93) dX5_faultOfTape_93 (by decide) rfl <|
                cw_aload_n (pc := 108) dX5_faultOfTape_108 rfl rfl <|
                cw_bipush (v := 32) (pc := 109) dX5_faultOfTape_109 (by decide) <|
                cw_invP (q := 61) (pc := 111) dX5_faultOfTape_111 (c_X5_eats hk h100 (hqm.mx (F61_x s1)) a1 (x := 32) (by decide)) rfl vX5_51 sh_61 (by decide) rfl rfl rfl (by decide) <|
                ?_
              rintro _ m2 ⟨rfl, a2, s2⟩
              rw [if_pos hb] at a2
              have S2 := S1.tr (F61_x s2)
              refine cw_if_eq_F (tgt := 148) (pc := 114) dX5_faultOfTape_114 (by decide) (bI_n0.mpr hb) <|
                cw_aload_n (pc := 117) dX5_faultOfTape_117 rfl rfl <|
                cw_iconst (v := 0) (pc := 118) dX5_faultOfTape_118 (by decide) <|
                cw_invP (q := 61) (pc := 119) dX5_faultOfTape_119 (c_eit hIT hk h100 (fac_good hN 5) (c_fac hIT hk h100 5 0 rfl) m2 ((hdT (nxT s) (bytS.getD 1 [] ++ [32]) i).2.1 + 1) c ((hqm.mx (F61_x s1)).mx (F61_x s2)) a2 ((hc.m1 s1).m1 s2) (by omega) hpk) rfl vX5_55 sh_61 (by decide) rfl rfl rfl (by decide) <|
                ?_
              rintro _ m3 ⟨rfl, a3, ⟨c3, cc3, ce3⟩, s3⟩
              have S3 := S2.tr (FRd_x s3)
              refine cw_if_eq_T (tgt := 148) (pc := 122) dX5_faultOfTape_122 (by decide) (bI_0.mpr he) <|
                cw_aload_n (pc := 148) dX5_faultOfTape_148 rfl rfl <|
                cw_getI (q := 61) (pc := 149) dX5_faultOfTape_149 fX5_25 sh_61 (by decide) rfl <|
                ?_
              rw [a3.1]
              refine cw_iret (pc := 152) dX5_faultOfTape_152 hR <|
                (fail _ _ _ _ hcl S3)
          · rw [if_neg hb] at hcl
            refine cw_iload_n (pc := 18) dX5_faultOfTape_18 rfl rfl <|
              cw_bipush (v := 10) (pc := 19) dX5_faultOfTape_19 (by decide) <|
              cw_icmp_gt_F (tgt := 189) (pc := 21) dX5_faultOfTape_21 (by decide) (Int32.not_lt.mpr (nI_le (b := 10) (by omega) (by decide))) <|
              cw_aload_n (pc := 24) dX5_faultOfTape_24 rfl rfl <|
              cw_getI (q := 61) (pc := 25) dX5_faultOfTape_25 fX5_32 sh_61 (by decide) rfl <|
              ?_
            rw [ha.2]
            refine cw_bipush (v := 112) (pc := 28) dX5_faultOfTape_28 (by decide) <|
              cw_icmp_ne_T (tgt := 37) (pc := 30) dX5_faultOfTape_30 (by decide) hk1 <|
              cw_iconst (v := 0) (pc := 37) dX5_faultOfTape_37 (by decide) <|
              cw_istore_n (L' := [_, _, _, _, _]) (pc := 38) dX5_faultOfTape_38 rfl (by decide) rfl rfl <|
              cw_aload_n (pc := 39) dX5_faultOfTape_39 rfl rfl <|
              cw_getI (q := 61) (pc := 40) dX5_faultOfTape_40 fX5_32 sh_61 (by decide) rfl <|
              ?_
            rw [ha.2]
            refine cw_bipush (v := 100) (pc := 43) dX5_faultOfTape_43 (by decide) <|
              cw_icmp_ne_F (tgt := 52) (pc := 45) dX5_faultOfTape_45 (by decide) hk2 <|
              cw_iconst (v := 1) (pc := 48) dX5_faultOfTape_48 (by decide) <|
              cw_goto (tgt := 53) (pc := 49) dX5_faultOfTape_49 (by decide) <|
              cw_istore_n (L' := [_, _, _, _, _]) (pc := 53) dX5_faultOfTape_53 rfl (by decide) rfl rfl <|
              cw_aload_n (pc := 54) dX5_faultOfTape_54 rfl rfl <|
              cw_iload_n (pc := 55) dX5_faultOfTape_55 rfl rfl <|
              cw_if_eq_T (tgt := 64) (pc := 56) dX5_faultOfTape_56 (by decide) rfl <|
              cw_iload_n (pc := 64) dX5_faultOfTape_64 rfl rfl <|
              cw_if_eq_F (tgt := 73) (pc := 65) dX5_faultOfTape_65 (by decide) (by decide) <|
              cw_ldcS (i := 1) (tx := "draw") (pc := 68) dX5_faultOfTape_68 (by decide) <|
              cw_goto (tgt := 75) (pc := 70) dX5_faultOfTape_70 (by decide) <|
              cw_invP (q := 61) (pc := 75) dX5_faultOfTape_75 (c_X5_heads hIT hk h100 hqm ha (m := 1) (by decide)) rfl vX5_41 sh_61 (by decide) rfl rfl rfl (by decide) <|
              ?_
            rintro _ m1 ⟨rfl, a1, v1, s1⟩
            have S1 := hS.tr (F61_x s1)
            refine cw_if_ne_T (tgt := 86) (pc := 78) dX5_faultOfTape_78 (by decide) (bI_n0.mpr hs) <|
              cw_aload_n (pc := 86) dX5_faultOfTape_86 rfl rfl <|
              cw_getI (q := 61) (pc := 87) dX5_faultOfTape_87 fX5_45 sh_61 (by decide) rfl <|
              ?_
            rw [v1 hs]
            refine cw_istore (L' := [_, _, _, _, _]) (pc := 90) dX5_faultOfTape_90 (by decide) rfl rfl <|
              cw_iload_n (pc := 92) dX5_faultOfTape_92 rfl rfl <|
              cw_if_eq_T (tgt := 108) (pc := 93) dX5_faultOfTape_93 (by decide) rfl <|
              cw_aload_n (pc := 108) dX5_faultOfTape_108 rfl rfl <|
              cw_bipush (v := 32) (pc := 109) dX5_faultOfTape_109 (by decide) <|
              cw_invP (q := 61) (pc := 111) dX5_faultOfTape_111 (c_X5_eats hk h100 (hqm.mx (F61_x s1)) a1 (x := 32) (by decide)) rfl vX5_51 sh_61 (by decide) rfl rfl rfl (by decide) <|
              ?_
            rintro _ m2 ⟨rfl, a2, s2⟩
            rw [if_neg hb] at a2
            have S2 := S1.tr (F61_x s2)
            refine cw_if_eq_T (tgt := 148) (pc := 114) dX5_faultOfTape_114 (by decide) (bI_0.mpr hb) <|
              cw_aload_n (pc := 148) dX5_faultOfTape_148 rfl rfl <|
              cw_getI (q := 61) (pc := 149) dX5_faultOfTape_149 fX5_25 sh_61 (by decide) rfl <|
              ?_
            rw [a2.1]
            refine cw_iret (pc := 152) dX5_faultOfTape_152 hR <|
              (fail _ _ _ _ hcl S2)
        · rw [if_neg hs] at hcl
          refine cw_iload_n (pc := 18) dX5_faultOfTape_18 rfl rfl <|
            cw_bipush (v := 10) (pc := 19) dX5_faultOfTape_19 (by decide) <|
            cw_icmp_gt_F (tgt := 189) (pc := 21) dX5_faultOfTape_21 (by decide) (Int32.not_lt.mpr (nI_le (b := 10) (by omega) (by decide))) <|
            cw_aload_n (pc := 24) dX5_faultOfTape_24 rfl rfl <|
            cw_getI (q := 61) (pc := 25) dX5_faultOfTape_25 fX5_32 sh_61 (by decide) rfl <|
            ?_
          rw [ha.2]
          refine cw_bipush (v := 112) (pc := 28) dX5_faultOfTape_28 (by decide) <|
            cw_icmp_ne_T (tgt := 37) (pc := 30) dX5_faultOfTape_30 (by decide) hk1 <|
            cw_iconst (v := 0) (pc := 37) dX5_faultOfTape_37 (by decide) <|
            cw_istore_n (L' := [_, _, _, _, _]) (pc := 38) dX5_faultOfTape_38 rfl (by decide) rfl rfl <|
            cw_aload_n (pc := 39) dX5_faultOfTape_39 rfl rfl <|
            cw_getI (q := 61) (pc := 40) dX5_faultOfTape_40 fX5_32 sh_61 (by decide) rfl <|
            ?_
          rw [ha.2]
          refine cw_bipush (v := 100) (pc := 43) dX5_faultOfTape_43 (by decide) <|
            cw_icmp_ne_F (tgt := 52) (pc := 45) dX5_faultOfTape_45 (by decide) hk2 <|
            cw_iconst (v := 1) (pc := 48) dX5_faultOfTape_48 (by decide) <|
            cw_goto (tgt := 53) (pc := 49) dX5_faultOfTape_49 (by decide) <|
            cw_istore_n (L' := [_, _, _, _, _]) (pc := 53) dX5_faultOfTape_53 rfl (by decide) rfl rfl <|
            cw_aload_n (pc := 54) dX5_faultOfTape_54 rfl rfl <|
            cw_iload_n (pc := 55) dX5_faultOfTape_55 rfl rfl <|
            cw_if_eq_T (tgt := 64) (pc := 56) dX5_faultOfTape_56 (by decide) rfl <|
            cw_iload_n (pc := 64) dX5_faultOfTape_64 rfl rfl <|
            cw_if_eq_F (tgt := 73) (pc := 65) dX5_faultOfTape_65 (by decide) (by decide) <|
            cw_ldcS (i := 1) (tx := "draw") (pc := 68) dX5_faultOfTape_68 (by decide) <|
            cw_goto (tgt := 75) (pc := 70) dX5_faultOfTape_70 (by decide) <|
            cw_invP (q := 61) (pc := 75) dX5_faultOfTape_75 (c_X5_heads hIT hk h100 hqm ha (m := 1) (by decide)) rfl vX5_41 sh_61 (by decide) rfl rfl rfl (by decide) <|
            ?_
          rintro _ m1 ⟨rfl, a1, v1, s1⟩
          have S1 := hS.tr (F61_x s1)
          refine cw_if_ne_F (tgt := 86) (pc := 78) dX5_faultOfTape_78 (by decide) (bI_0.mpr hs) <|
            cw_aload_n (pc := 81) dX5_faultOfTape_81 rfl rfl <|
            cw_getI (q := 61) (pc := 82) dX5_faultOfTape_82 fX5_25 sh_61 (by decide) rfl <|
            ?_
          rw [a1.1]
          refine cw_iret (pc := 85) dX5_faultOfTape_85 hR <|
            (fail _ _ _ _ hcl S1)
      · have hcl := cla_hd (nxT s) i c mk
        rw [show wrdT (nxT s i) = bytS.getD 2 [] ++ [32] by unfold wrdT; rw [if_neg hk1, if_neg hk2]; rfl, if_neg hk1, if_neg hk2] at hcl
        by_cases hs : (hdT (nxT s) (bytS.getD 2 [] ++ [32]) i).1 = true
        · rw [if_pos hs] at hcl
          have hge : i ≤ (hdT (nxT s) (bytS.getD 2 [] ++ [32]) i).2.1 := by have := cla_good (c := c) hN hik hmk; have h0 := (hd_ge (nx := nxT s) (l := bytS.getD 2 [] ++ [32]) hN (by decide) hik); exact h0
          by_cases hb : nxT s (hdT (nxT s) (bytS.getD 2 [] ++ [32]) i).2.1 = 32
          · rw [if_pos hb] at hcl
            have hpk : (hdT (nxT s) (bytS.getD 2 [] ++ [32]) i).2.1 < k := lt_k hk h100 (by decide) hb
            have hE := eit_good hN (fac_good hN 5) ((hdT (nxT s) (bytS.getD 2 [] ++ [32]) i).2.1 + 1) c hpk
            by_cases he : (eitT (nxT s) (facT (nxT s) 5) ((hdT (nxT s) (bytS.getD 2 [] ++ [32]) i).2.1 + 1) c).1 = true
            · rw [if_pos he] at hcl
              obtain ⟨e, ee, el, _⟩ := hE.2.2 he
              have hep := hE.2.1
              refine cw_iload_n (pc := 18) dX5_faultOfTape_18 rfl rfl <|
                cw_bipush (v := 10) (pc := 19) dX5_faultOfTape_19 (by decide) <|
                cw_icmp_gt_F (tgt := 189) (pc := 21) dX5_faultOfTape_21 (by decide) (Int32.not_lt.mpr (nI_le (b := 10) (by omega) (by decide))) <|
                cw_aload_n (pc := 24) dX5_faultOfTape_24 rfl rfl <|
                cw_getI (q := 61) (pc := 25) dX5_faultOfTape_25 fX5_32 sh_61 (by decide) rfl <|
                ?_
              rw [ha.2]
              refine cw_bipush (v := 112) (pc := 28) dX5_faultOfTape_28 (by decide) <|
                cw_icmp_ne_T (tgt := 37) (pc := 30) dX5_faultOfTape_30 (by decide) hk1 <|
                cw_iconst (v := 0) (pc := 37) dX5_faultOfTape_37 (by decide) <|
                cw_istore_n (L' := [_, _, _, _, _]) (pc := 38) dX5_faultOfTape_38 rfl (by decide) rfl rfl <|
                cw_aload_n (pc := 39) dX5_faultOfTape_39 rfl rfl <|
                cw_getI (q := 61) (pc := 40) dX5_faultOfTape_40 fX5_32 sh_61 (by decide) rfl <|
                ?_
              rw [ha.2]
              refine cw_bipush (v := 100) (pc := 43) dX5_faultOfTape_43 (by decide) <|
                cw_icmp_ne_T (tgt := 52) (pc := 45) dX5_faultOfTape_45 (by decide) hk2 <|
                cw_iconst (v := 0) (pc := 52) dX5_faultOfTape_52 (by decide) <|
                cw_istore_n (L' := [_, _, _, _, _]) (pc := 53) dX5_faultOfTape_53 rfl (by decide) rfl rfl <|
                cw_aload_n (pc := 54) dX5_faultOfTape_54 rfl rfl <|
                cw_iload_n (pc := 55) dX5_faultOfTape_55 rfl rfl <|
                cw_if_eq_T (tgt := 64) (pc := 56) dX5_faultOfTape_56 (by decide) rfl <|
                cw_iload_n (pc := 64) dX5_faultOfTape_64 rfl rfl <|
                cw_if_eq_T (tgt := 73) (pc := 65) dX5_faultOfTape_65 (by decide) rfl <|
                cw_ldcS (i := 2) (tx := "hold") (pc := 73) dX5_faultOfTape_73 (by decide) <|
                cw_invP (q := 61) (pc := 75) dX5_faultOfTape_75 (c_X5_heads hIT hk h100 hqm ha (m := 2) (by decide)) rfl vX5_41 sh_61 (by decide) rfl rfl rfl (by decide) <|
                ?_
              rintro _ m1 ⟨rfl, a1, v1, s1⟩
              have S1 := hS.tr (F61_x s1)
              refine cw_if_ne_T (tgt := 86) (pc := 78) dX5_faultOfTape_78 (by decide) (bI_n0.mpr hs) <|
                cw_aload_n (pc := 86) dX5_faultOfTape_86 rfl rfl <|
                cw_getI (q := 61) (pc := 87) dX5_faultOfTape_87 fX5_45 sh_61 (by decide) rfl <|
                ?_
              rw [v1 hs]
              refine cw_istore (L' := [_, _, _, _, _]) (pc := 90) dX5_faultOfTape_90 (by decide) rfl rfl <|
                cw_iload_n (pc := 92) dX5_faultOfTape_92 rfl rfl <|
                cw_if_eq_T (tgt := 108) (pc := 93) dX5_faultOfTape_93 (by decide) rfl <|
                cw_aload_n (pc := 108) dX5_faultOfTape_108 rfl rfl <|
                cw_bipush (v := 32) (pc := 109) dX5_faultOfTape_109 (by decide) <|
                cw_invP (q := 61) (pc := 111) dX5_faultOfTape_111 (c_X5_eats hk h100 (hqm.mx (F61_x s1)) a1 (x := 32) (by decide)) rfl vX5_51 sh_61 (by decide) rfl rfl rfl (by decide) <|
                ?_
              rintro _ m2 ⟨rfl, a2, s2⟩
              rw [if_pos hb] at a2
              have S2 := S1.tr (F61_x s2)
              refine cw_if_eq_F (tgt := 148) (pc := 114) dX5_faultOfTape_114 (by decide) (bI_n0.mpr hb) <|
                cw_aload_n (pc := 117) dX5_faultOfTape_117 rfl rfl <|
                cw_iconst (v := 0) (pc := 118) dX5_faultOfTape_118 (by decide) <|
                cw_invP (q := 61) (pc := 119) dX5_faultOfTape_119 (c_eit hIT hk h100 (fac_good hN 5) (c_fac hIT hk h100 5 0 rfl) m2 ((hdT (nxT s) (bytS.getD 2 [] ++ [32]) i).2.1 + 1) c ((hqm.mx (F61_x s1)).mx (F61_x s2)) a2 ((hc.m1 s1).m1 s2) (by omega) hpk) rfl vX5_55 sh_61 (by decide) rfl rfl rfl (by decide) <|
                ?_
              rintro _ m3 ⟨rfl, a3, ⟨c3, cc3, ce3⟩, s3⟩
              have S3 := S2.tr (FRd_x s3)
              refine cw_if_eq_F (tgt := 148) (pc := 122) dX5_faultOfTape_122 (by decide) (bI_n0.mpr he) <|
                cw_aload_n (pc := 125) dX5_faultOfTape_125 rfl rfl <|
                cw_getR (q := 61) (t := 62) (pc := 126) dX5_faultOfTape_126 fX5_12 sh_61 (by decide) rfl <|
                cw_iload_n (pc := 129) dX5_faultOfTape_129 rfl rfl <|
                cw_if_eq_T (tgt := 138) (pc := 130) dX5_faultOfTape_130 (by decide) rfl <|
                cw_bipush (v := 22) (pc := 138) dX5_faultOfTape_138 (by decide) <|
                cw_iload (pc := 140) dX5_faultOfTape_140 rfl <|
                cw_invP (q := 62) (pc := 142) dX5_faultOfTape_142 (c_adds62 cc3 22 (hdT (nxT s) (bytS.getD 2 [] ++ [32]) i).2.2) rfl vX5_58 sh_62 (by decide) rfl rfl rfl (by decide) <|
                ?_
              rintro _ m4 ⟨rfl, ⟨c4, cc4, ce4⟩, s4⟩
              refine cw_goto (tgt := 153) (pc := 145) dX5_faultOfTape_145 (by decide) <|
                ?_
              have ec := ce3 he
              have e4 := ce4 (by rw [ec, ee, List.length_append]; omega)
              rw [e4, ec] at cc4
              have e63 : m4 62 3 = nI mk := (s4 _ _ (by unfold F62; omega)).trans ((s3 _ _ (by unfold FRd; omega)).trans ((s2 _ _ (by unfold F61; omega)).trans ((s1 _ _ (by unfold F61; omega)).trans h3)))
              exact tail m4 _ _ _ _ _ _ hcl (a3.m2 s4) cc4 e63 (S3.tr (F62_x s4))
            · rw [if_neg he] at hcl
              refine cw_iload_n (pc := 18) dX5_faultOfTape_18 rfl rfl <|
                cw_bipush (v := 10) (pc := 19) dX5_faultOfTape_19 (by decide) <|
                cw_icmp_gt_F (tgt := 189) (pc := 21) dX5_faultOfTape_21 (by decide) (Int32.not_lt.mpr (nI_le (b := 10) (by omega) (by decide))) <|
                cw_aload_n (pc := 24) dX5_faultOfTape_24 rfl rfl <|
                cw_getI (q := 61) (pc := 25) dX5_faultOfTape_25 fX5_32 sh_61 (by decide) rfl <|
                ?_
              rw [ha.2]
              refine cw_bipush (v := 112) (pc := 28) dX5_faultOfTape_28 (by decide) <|
                cw_icmp_ne_T (tgt := 37) (pc := 30) dX5_faultOfTape_30 (by decide) hk1 <|
                cw_iconst (v := 0) (pc := 37) dX5_faultOfTape_37 (by decide) <|
                cw_istore_n (L' := [_, _, _, _, _]) (pc := 38) dX5_faultOfTape_38 rfl (by decide) rfl rfl <|
                cw_aload_n (pc := 39) dX5_faultOfTape_39 rfl rfl <|
                cw_getI (q := 61) (pc := 40) dX5_faultOfTape_40 fX5_32 sh_61 (by decide) rfl <|
                ?_
              rw [ha.2]
              refine cw_bipush (v := 100) (pc := 43) dX5_faultOfTape_43 (by decide) <|
                cw_icmp_ne_T (tgt := 52) (pc := 45) dX5_faultOfTape_45 (by decide) hk2 <|
                cw_iconst (v := 0) (pc := 52) dX5_faultOfTape_52 (by decide) <|
                cw_istore_n (L' := [_, _, _, _, _]) (pc := 53) dX5_faultOfTape_53 rfl (by decide) rfl rfl <|
                cw_aload_n (pc := 54) dX5_faultOfTape_54 rfl rfl <|
                cw_iload_n (pc := 55) dX5_faultOfTape_55 rfl rfl <|
                cw_if_eq_T (tgt := 64) (pc := 56) dX5_faultOfTape_56 (by decide) rfl <|
                cw_iload_n (pc := 64) dX5_faultOfTape_64 rfl rfl <|
                cw_if_eq_T (tgt := 73) (pc := 65) dX5_faultOfTape_65 (by decide) rfl <|
                cw_ldcS (i := 2) (tx := "hold") (pc := 73) dX5_faultOfTape_73 (by decide) <|
                cw_invP (q := 61) (pc := 75) dX5_faultOfTape_75 (c_X5_heads hIT hk h100 hqm ha (m := 2) (by decide)) rfl vX5_41 sh_61 (by decide) rfl rfl rfl (by decide) <|
                ?_
              rintro _ m1 ⟨rfl, a1, v1, s1⟩
              have S1 := hS.tr (F61_x s1)
              refine cw_if_ne_T (tgt := 86) (pc := 78) dX5_faultOfTape_78 (by decide) (bI_n0.mpr hs) <|
                cw_aload_n (pc := 86) dX5_faultOfTape_86 rfl rfl <|
                cw_getI (q := 61) (pc := 87) dX5_faultOfTape_87 fX5_45 sh_61 (by decide) rfl <|
                ?_
              rw [v1 hs]
              refine cw_istore (L' := [_, _, _, _, _]) (pc := 90) dX5_faultOfTape_90 (by decide) rfl rfl <|
                cw_iload_n (pc := 92) dX5_faultOfTape_92 rfl rfl <|
                cw_if_eq_T (tgt := 108) (pc := 93) dX5_faultOfTape_93 (by decide) rfl <|
                cw_aload_n (pc := 108) dX5_faultOfTape_108 rfl rfl <|
                cw_bipush (v := 32) (pc := 109) dX5_faultOfTape_109 (by decide) <|
                cw_invP (q := 61) (pc := 111) dX5_faultOfTape_111 (c_X5_eats hk h100 (hqm.mx (F61_x s1)) a1 (x := 32) (by decide)) rfl vX5_51 sh_61 (by decide) rfl rfl rfl (by decide) <|
                ?_
              rintro _ m2 ⟨rfl, a2, s2⟩
              rw [if_pos hb] at a2
              have S2 := S1.tr (F61_x s2)
              refine cw_if_eq_F (tgt := 148) (pc := 114) dX5_faultOfTape_114 (by decide) (bI_n0.mpr hb) <|
                cw_aload_n (pc := 117) dX5_faultOfTape_117 rfl rfl <|
                cw_iconst (v := 0) (pc := 118) dX5_faultOfTape_118 (by decide) <|
                cw_invP (q := 61) (pc := 119) dX5_faultOfTape_119 (c_eit hIT hk h100 (fac_good hN 5) (c_fac hIT hk h100 5 0 rfl) m2 ((hdT (nxT s) (bytS.getD 2 [] ++ [32]) i).2.1 + 1) c ((hqm.mx (F61_x s1)).mx (F61_x s2)) a2 ((hc.m1 s1).m1 s2) (by omega) hpk) rfl vX5_55 sh_61 (by decide) rfl rfl rfl (by decide) <|
                ?_
              rintro _ m3 ⟨rfl, a3, ⟨c3, cc3, ce3⟩, s3⟩
              have S3 := S2.tr (FRd_x s3)
              refine cw_if_eq_T (tgt := 148) (pc := 122) dX5_faultOfTape_122 (by decide) (bI_0.mpr he) <|
                cw_aload_n (pc := 148) dX5_faultOfTape_148 rfl rfl <|
                cw_getI (q := 61) (pc := 149) dX5_faultOfTape_149 fX5_25 sh_61 (by decide) rfl <|
                ?_
              rw [a3.1]
              refine cw_iret (pc := 152) dX5_faultOfTape_152 hR <|
                (fail _ _ _ _ hcl S3)
          · rw [if_neg hb] at hcl
            refine cw_iload_n (pc := 18) dX5_faultOfTape_18 rfl rfl <|
              cw_bipush (v := 10) (pc := 19) dX5_faultOfTape_19 (by decide) <|
              cw_icmp_gt_F (tgt := 189) (pc := 21) dX5_faultOfTape_21 (by decide) (Int32.not_lt.mpr (nI_le (b := 10) (by omega) (by decide))) <|
              cw_aload_n (pc := 24) dX5_faultOfTape_24 rfl rfl <|
              cw_getI (q := 61) (pc := 25) dX5_faultOfTape_25 fX5_32 sh_61 (by decide) rfl <|
              ?_
            rw [ha.2]
            refine cw_bipush (v := 112) (pc := 28) dX5_faultOfTape_28 (by decide) <|
              cw_icmp_ne_T (tgt := 37) (pc := 30) dX5_faultOfTape_30 (by decide) hk1 <|
              cw_iconst (v := 0) (pc := 37) dX5_faultOfTape_37 (by decide) <|
              cw_istore_n (L' := [_, _, _, _, _]) (pc := 38) dX5_faultOfTape_38 rfl (by decide) rfl rfl <|
              cw_aload_n (pc := 39) dX5_faultOfTape_39 rfl rfl <|
              cw_getI (q := 61) (pc := 40) dX5_faultOfTape_40 fX5_32 sh_61 (by decide) rfl <|
              ?_
            rw [ha.2]
            refine cw_bipush (v := 100) (pc := 43) dX5_faultOfTape_43 (by decide) <|
              cw_icmp_ne_T (tgt := 52) (pc := 45) dX5_faultOfTape_45 (by decide) hk2 <|
              cw_iconst (v := 0) (pc := 52) dX5_faultOfTape_52 (by decide) <|
              cw_istore_n (L' := [_, _, _, _, _]) (pc := 53) dX5_faultOfTape_53 rfl (by decide) rfl rfl <|
              cw_aload_n (pc := 54) dX5_faultOfTape_54 rfl rfl <|
              cw_iload_n (pc := 55) dX5_faultOfTape_55 rfl rfl <|
              cw_if_eq_T (tgt := 64) (pc := 56) dX5_faultOfTape_56 (by decide) rfl <|
              cw_iload_n (pc := 64) dX5_faultOfTape_64 rfl rfl <|
              cw_if_eq_T (tgt := 73) (pc := 65) dX5_faultOfTape_65 (by decide) rfl <|
              cw_ldcS (i := 2) (tx := "hold") (pc := 73) dX5_faultOfTape_73 (by decide) <|
              cw_invP (q := 61) (pc := 75) dX5_faultOfTape_75 (c_X5_heads hIT hk h100 hqm ha (m := 2) (by decide)) rfl vX5_41 sh_61 (by decide) rfl rfl rfl (by decide) <|
              ?_
            rintro _ m1 ⟨rfl, a1, v1, s1⟩
            have S1 := hS.tr (F61_x s1)
            refine cw_if_ne_T (tgt := 86) (pc := 78) dX5_faultOfTape_78 (by decide) (bI_n0.mpr hs) <|
              cw_aload_n (pc := 86) dX5_faultOfTape_86 rfl rfl <|
              cw_getI (q := 61) (pc := 87) dX5_faultOfTape_87 fX5_45 sh_61 (by decide) rfl <|
              ?_
            rw [v1 hs]
            refine cw_istore (L' := [_, _, _, _, _]) (pc := 90) dX5_faultOfTape_90 (by decide) rfl rfl <|
              cw_iload_n (pc := 92) dX5_faultOfTape_92 rfl rfl <|
              cw_if_eq_T (tgt := 108) (pc := 93) dX5_faultOfTape_93 (by decide) rfl <|
              cw_aload_n (pc := 108) dX5_faultOfTape_108 rfl rfl <|
              cw_bipush (v := 32) (pc := 109) dX5_faultOfTape_109 (by decide) <|
              cw_invP (q := 61) (pc := 111) dX5_faultOfTape_111 (c_X5_eats hk h100 (hqm.mx (F61_x s1)) a1 (x := 32) (by decide)) rfl vX5_51 sh_61 (by decide) rfl rfl rfl (by decide) <|
              ?_
            rintro _ m2 ⟨rfl, a2, s2⟩
            rw [if_neg hb] at a2
            have S2 := S1.tr (F61_x s2)
            refine cw_if_eq_T (tgt := 148) (pc := 114) dX5_faultOfTape_114 (by decide) (bI_0.mpr hb) <|
              cw_aload_n (pc := 148) dX5_faultOfTape_148 rfl rfl <|
              cw_getI (q := 61) (pc := 149) dX5_faultOfTape_149 fX5_25 sh_61 (by decide) rfl <|
              ?_
            rw [a2.1]
            refine cw_iret (pc := 152) dX5_faultOfTape_152 hR <|
              (fail _ _ _ _ hcl S2)
        · rw [if_neg hs] at hcl
          refine cw_iload_n (pc := 18) dX5_faultOfTape_18 rfl rfl <|
            cw_bipush (v := 10) (pc := 19) dX5_faultOfTape_19 (by decide) <|
            cw_icmp_gt_F (tgt := 189) (pc := 21) dX5_faultOfTape_21 (by decide) (Int32.not_lt.mpr (nI_le (b := 10) (by omega) (by decide))) <|
            cw_aload_n (pc := 24) dX5_faultOfTape_24 rfl rfl <|
            cw_getI (q := 61) (pc := 25) dX5_faultOfTape_25 fX5_32 sh_61 (by decide) rfl <|
            ?_
          rw [ha.2]
          refine cw_bipush (v := 112) (pc := 28) dX5_faultOfTape_28 (by decide) <|
            cw_icmp_ne_T (tgt := 37) (pc := 30) dX5_faultOfTape_30 (by decide) hk1 <|
            cw_iconst (v := 0) (pc := 37) dX5_faultOfTape_37 (by decide) <|
            cw_istore_n (L' := [_, _, _, _, _]) (pc := 38) dX5_faultOfTape_38 rfl (by decide) rfl rfl <|
            cw_aload_n (pc := 39) dX5_faultOfTape_39 rfl rfl <|
            cw_getI (q := 61) (pc := 40) dX5_faultOfTape_40 fX5_32 sh_61 (by decide) rfl <|
            ?_
          rw [ha.2]
          refine cw_bipush (v := 100) (pc := 43) dX5_faultOfTape_43 (by decide) <|
            cw_icmp_ne_T (tgt := 52) (pc := 45) dX5_faultOfTape_45 (by decide) hk2 <|
            cw_iconst (v := 0) (pc := 52) dX5_faultOfTape_52 (by decide) <|
            cw_istore_n (L' := [_, _, _, _, _]) (pc := 53) dX5_faultOfTape_53 rfl (by decide) rfl rfl <|
            cw_aload_n (pc := 54) dX5_faultOfTape_54 rfl rfl <|
            cw_iload_n (pc := 55) dX5_faultOfTape_55 rfl rfl <|
            cw_if_eq_T (tgt := 64) (pc := 56) dX5_faultOfTape_56 (by decide) rfl <|
            cw_iload_n (pc := 64) dX5_faultOfTape_64 rfl rfl <|
            cw_if_eq_T (tgt := 73) (pc := 65) dX5_faultOfTape_65 (by decide) rfl <|
            cw_ldcS (i := 2) (tx := "hold") (pc := 73) dX5_faultOfTape_73 (by decide) <|
            cw_invP (q := 61) (pc := 75) dX5_faultOfTape_75 (c_X5_heads hIT hk h100 hqm ha (m := 2) (by decide)) rfl vX5_41 sh_61 (by decide) rfl rfl rfl (by decide) <|
            ?_
          rintro _ m1 ⟨rfl, a1, v1, s1⟩
          have S1 := hS.tr (F61_x s1)
          refine cw_if_ne_F (tgt := 86) (pc := 78) dX5_faultOfTape_78 (by decide) (bI_0.mpr hs) <|
            cw_aload_n (pc := 81) dX5_faultOfTape_81 rfl rfl <|
            cw_getI (q := 61) (pc := 82) dX5_faultOfTape_82 fX5_25 sh_61 (by decide) rfl <|
            ?_
          rw [a1.1]
          refine cw_iret (pc := 85) dX5_faultOfTape_85 hR <|
            (fail _ _ _ _ hcl S1)
