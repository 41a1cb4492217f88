/-! ===== the model's reader: clauses, PARISH ===== -/
theorem c_someM {E : Ev} {s : Row} {k np : Nat} (hk : s 37 = nI k) (h100 : k ≤ 100) (hnp : np < 5) {f : Nat → PCo → Rs} {mm d o : Nat} (hfg : GoodF k mm f) (hf : RdM E s k np yX9_factor cX9_factor 5 o d f) : RdM E s k np yX9_some cX9_some 1 o (d + 2) (eitT (nxT s) f) := fun μ i c hm ha hc hci hik =>
  c_X9_some hk h100 hnp hm ha hc hci hik (nx_end hk h100) (f := bthT (nxT s) f) (bth_good (nx_end hk h100) hfg) (dd := d + 1) (by omega) (fun μ i c hm ha hc hci hik => c_X9_every hk h100 hnp hm ha hc hci hik (nx_end hk h100) hfg (dd := d) (by omega) hf (by omega)) (by omega)
theorem c_facM {E : Ev} {s : Row} {k np : Nat} (hk : s 37 = nI k) (h100 : k ≤ 100) (hnp : np < 5) : ∀ D o, o + D = 5 → RdM E s k np yX9_factor cX9_factor 5 o (5 + 3 * D) (facT (nxT s) D) := by
  intro D
  induction D with
  | zero =>
    intro o ho μ i c hm ha hc hci hik
    show AM E yX9_factor cX9_factor 5 none _ _ μ (fun r μ' => PoM np o (if nxT s i = 33 ∨ nxT s i = 40 then (false, i, c) else tesT (nxT s) i c) μ r μ')
    by_cases h : nxT s i = 33 ∨ nxT s i = 40
    · rw [if_pos h]; exact c_X9_factor_0 hk h100 hnp hm ha hc hci hik (by omega) h
    · rw [if_neg h]; exact c_X9_factor_t hk h100 hnp hm ha hc hci hik (by omega) (fun q => h (Or.inl q)) (fun q => h (Or.inr q))
  | succ D ih =>
    intro o ho μ i c hm ha hc hci hik
    have hg := fac_good (nx_end hk h100) D
    have hf := ih (o + 1) (by omega)
    show AM E yX9_factor cX9_factor 5 none _ _ μ (fun r μ' => PoM np o (if nxT s i = 33 then (if (facT (nxT s) D (i + 1) c).1 = true then (true, (facT (nxT s) D (i + 1) c).2.1, (facT (nxT s) D (i + 1) c).2.2 ++ [(18, 0)]) else facT (nxT s) D (i + 1) c)
      else if nxT s i = 40 then (if (eitT (nxT s) (facT (nxT s) D) (i + 1) c).1 = true then (if nxT s (eitT (nxT s) (facT (nxT s) D) (i + 1) c).2.1 = 41 then (true, (eitT (nxT s) (facT (nxT s) D) (i + 1) c).2.1 + 1, (eitT (nxT s) (facT (nxT s) D) (i + 1) c).2.2) else (false, (eitT (nxT s) (facT (nxT s) D) (i + 1) c).2.1, c)) else eitT (nxT s) (facT (nxT s) D) (i + 1) c)
      else tesT (nxT s) i c) μ r μ')
    by_cases h1 : nxT s i = 33
    · rw [if_pos h1]; exact c_X9_factor_n hk h100 hnp hm ha hc hci hik (by omega) h1 hg (dd := 5 + 3 * D) (by omega) hf
    · rw [if_neg h1]
      by_cases h2 : nxT s i = 40
      · rw [if_pos h2]; exact c_X9_factor_p hk h100 hnp hm ha hc hci hik (by omega) h2 (eit_good (nx_end hk h100) hg) (dd := 5 + 3 * D + 2) (by omega) (by omega) (c_someM hk h100 hnp hg hf)
      · rw [if_neg h2]; exact c_X9_factor_t hk h100 hnp hm ha hc hci hik (by omega) h1 h2
def FMq (np : Nat) : Nat → Nat → Prop := fun q i => (q = 67 ∧ (i = 6 ∨ i = 8 ∨ i = 9)) ∨ (q = 68 ∧ (i = 238 + np ∨ i = 243 + np ∨ (248 + 140 * np ≤ i ∧ i < 248 + 140 * np + 140)))
theorem FMp_q {μ μ' : Mem} {np : Nat} (h : Same (FMp np) μ μ') : Same (FMq np) μ μ' := h.mo (fun q i h => by unfold FMp at h; unfold FMq; omega)
theorem F67_q {μ μ' : Mem} {np : Nat} (h : Same F67 μ μ') : Same (FMq np) μ μ' := h.mo (fun q i h => Or.inl h)
theorem MK.mq {μ μ' : Mem} {s : Row} {np k : Nat} (h : MK μ s np k) (h100 : k ≤ 100) (e : Same (FMq np) μ μ') : MK μ' s np k := ⟨(e _ _ (by unfold FMq; omega)).trans h.1, (e _ _ (by unfold FMq; omega)).trans h.2.1, fun j hj => (e _ _ (by unfold FMq; omega)).trans (h.2.2 j hj)⟩
theorem CR.mk {μ : Mem} {np : Nat} {c : PCo} {v : Int32} (h : CR μ np c) (hnp : np < 5) : CR (st μ 68 (238 + np) v) np c := ⟨by rw [st_at, if_neg (by omega)]; exact h.1, fun j q hq => by rw [st_at, if_neg (by omega)]; exact h.2 j q hq⟩
theorem mk_p {μ μ' : Mem} {np : Nat} (e : Same (FMp np) μ μ') (hnp : np < 5) : μ' 68 (238 + np) = μ 68 (238 + np) := e _ _ (by unfold FMp; omega)
/-- what a clause leaves -/
def PoC (np : Nat) (R : Bool × Nat × PCo × Nat) (μ : Mem) (r : Option Value) (μ' : Mem) : Prop := r = none ∧ SA μ' R.2.1 (if R.1 = true then 0 else 1) 0 ∧ (R.1 = true → CR μ' np R.2.2.1 ∧ μ' 68 (238 + np) = nI R.2.2.2) ∧ Same (FMq np) μ μ'
set_option maxHeartbeats 4000000 in
set_option maxRecDepth 100000 in
theorem c_X9_much {E : Ev} {μ : Mem} {s : Row} {k np : Nat} (hk : s 37 = nI k) (h100 : k ≤ 100) (hnp : np < 5) (hm : MK μ s np k) {i mk : Nat} (ha : SA μ i 0 0) {c : PCo} (hc : CR μ np c) (hmk : μ 68 (238 + np) = nI mk) (hci : c.length ≤ i) (hik : i ≤ k) {m op : Nat} {b : Int32} (hm8 : m < 8) (hl5 : (bytS.getD m []).length = 5 ∧ (-1 : Int32) ∉ bytS.getD m []) (hbs : ∀ v, b - nI v = mst (op, v)) : AM E yX9_much cX9_much 4 none 30 [.ref 67, .int b, .ref (80 + m)] μ (fun r μ' => PoC np (if (worT (nxT s) (bytS.getD m []) i).1 = true then (if (numT (nxT s) (i + 5)).1 = true then (if nxT s (numT (nxT s) (i + 5)).2.1 = 32 then (if (eitT (nxT s) (facT (nxT s) 5) ((numT (nxT s) (i + 5)).2.1 + 1) c).1 = true then (true, (eitT (nxT s) (facT (nxT s) 5) ((numT (nxT s) (i + 5)).2.1 + 1) c).2.1, (eitT (nxT s) (facT (nxT s) 5) ((numT (nxT s) (i + 5)).2.1 + 1) c).2.2 ++ [(op, (numT (nxT s) (i + 5)).2.2)], mk) else (false, (eitT (nxT s) (facT (nxT s) 5) ((numT (nxT s) (i + 5)).2.1 + 1) c).2.1, c, mk)) else (false, (numT (nxT s) (i + 5)).2.1, c, mk)) else (false, (numT (nxT s) (i + 5)).2.1, c, mk)) else (false, (worT (nxT s) (bytS.getD m []) i).2, c, mk)) μ r μ') := by
  refine am_of (own := RX9) (L := [.ref 67, .int b, .ref (80 + m), .null]) (by decide) rfl (Nat.le_of_ble_eq_true rfl) rfl (fun Γ hR => ?_)
  have hN := nx_end hk h100
  obtain ⟨l5, lm⟩ := hl5
  obtain ⟨w1, w2, w3⟩ := wor_good hN (bytS.getD m []) i lm hik
  by_cases hw : (worT (nxT s) (bytS.getD m []) i).1 = true
  · rw [if_pos hw] at hR
    have e5 := w3 hw
    rw [l5] at e5
    obtain ⟨n1, n2, n3⟩ := num_good hN (show i + 5 ≤ k by omega)
    by_cases hn : (numT (nxT s) (i + 5)).1 = true
    · rw [if_pos hn] at hR
      by_cases hb : nxT s (numT (nxT s) (i + 5)).2.1 = 32
      · rw [if_pos hb] at hR
        have hk3 : (numT (nxT s) (i + 5)).2.1 < k := lt_k hk h100 (by decide) hb
        have hgd := eit_good hN (fac_good hN 5) ((numT (nxT s) (i + 5)).2.1 + 1) c hk3
        by_cases he : (eitT (nxT s) (facT (nxT s) 5) ((numT (nxT s) (i + 5)).2.1 + 1) c).1 = true
        · rw [if_pos he] at hR
          obtain ⟨e, ee, el, _⟩ := hgd.2.2 he
          have hp := hgd.2.1
          refine cw_aload_n (pc := 0) dX9_much_0 rfl rfl <|
            cw_aload_n (pc := 1) dX9_much_1 rfl rfl <|
            cw_invP (q := 67) (pc := 2) dX9_much_2 (c_X9_spells hk h100 hm ha hik hm8) rfl vX9_104 sh_67 (by decide) rfl rfl rfl (by decide) <|
            ?_
          rintro _ m1 ⟨rfl, a1, s1⟩
          rw [if_pos hw, e5] at a1
          refine cw_aload_n (pc := 5) dX9_much_5 rfl rfl <|
            cw_invP (q := 67) (pc := 6) dX9_much_6 (c_X9_figures_0 hk h100 (hm.mo h100 (F67_M (np := np) s1)) a1 (by omega)) rfl vX9_98 sh_67 (by decide) rfl rfl rfl (by decide) <|
            ?_
          rintro _ m2 ⟨rfl, a2, s2⟩
          rw [if_pos hn] at a2 ⊢
          have S2 := s1.tr s2
          refine cw_istore_n (L' := [_, _, _, _]) (pc := 9) dX9_much_9 rfl (by decide) rfl rfl <|
            cw_aload_n (pc := 10) dX9_much_10 rfl rfl <|
            cw_bipush (v := 32) (pc := 11) dX9_much_11 (by decide) <|
            cw_invP (q := 67) (pc := 13) dX9_much_13 (c_X9_must_0 hk h100 (hm.mo h100 (F67_M (np := np) S2)) a2 (by omega) (x := 32)) rfl vX9_71 sh_67 (by decide) rfl rfl rfl (by decide) <|
            ?_
          rintro _ m3 ⟨rfl, a3, s3⟩
          rw [if_pos hb, if_pos hb] at a3
          have S3 := S2.tr s3
          refine cw_aload_n (pc := 16) dX9_much_16 rfl rfl <|
            cw_invP (q := 67) (pc := 17) dX9_much_17 (c_someM hk h100 hnp (fac_good hN 5) (c_facM hk h100 hnp 5 0 rfl) m3 ((numT (nxT s) (i + 5)).2.1 + 1) c (hm.mo h100 (F67_M (np := np) S3)) a3 (hc.m7 S3) (by omega) hk3) rfl vX9_87 sh_67 (by decide) rfl rfl rfl (by decide) <|
            ?_
          rintro _ m4 ⟨rfl, a4, c4, s4⟩
          rw [if_pos he] at a4
          have S4 := (F67_M (np := np) S3).tr s4
          refine cw_aload_n (pc := 20) dX9_much_20 rfl rfl <|
            cw_iload_n (pc := 21) dX9_much_21 rfl rfl <|
            cw_iload_n (pc := 22) dX9_much_22 rfl rfl <|
            cw_isub (pc := 23) dX9_much_23 <|
            cw_invP (q := 67) (pc := 24) dX9_much_24 (c_X9_emits_0 hnp (hm.mo h100 S4) a4.2.1 (c4 he) (by rw [ee, List.length_append]; omega) (q := (op, (numT (nxT s) (i + 5)).2.2)) (hbs _)) rfl vX9_84 sh_67 (by decide) rfl rfl rfl (by decide) <|
            ?_
          rintro _ m5 ⟨rfl, c5, s5⟩
          refine cw_vret (pc := 27) dX9_much_27 hR <|
            ⟨rfl, a4.m8 s5, fun _ => ⟨c5, (mk_p (S4.tr (F68_M s5)) hnp).trans hmk⟩, FMp_q (S4.tr (F68_M s5))⟩
        · rw [if_neg he] at hR
          refine cw_aload_n (pc := 0) dX9_much_0 rfl rfl <|
            cw_aload_n (pc := 1) dX9_much_1 rfl rfl <|
            cw_invP (q := 67) (pc := 2) dX9_much_2 (c_X9_spells hk h100 hm ha hik hm8) rfl vX9_104 sh_67 (by decide) rfl rfl rfl (by decide) <|
            ?_
          rintro _ m1 ⟨rfl, a1, s1⟩
          rw [if_pos hw, e5] at a1
          refine cw_aload_n (pc := 5) dX9_much_5 rfl rfl <|
            cw_invP (q := 67) (pc := 6) dX9_much_6 (c_X9_figures_0 hk h100 (hm.mo h100 (F67_M (np := np) s1)) a1 (by omega)) rfl vX9_98 sh_67 (by decide) rfl rfl rfl (by decide) <|
            ?_
          rintro _ m2 ⟨rfl, a2, s2⟩
          rw [if_pos hn] at a2 ⊢
          have S2 := s1.tr s2
          refine cw_istore_n (L' := [_, _, _, _]) (pc := 9) dX9_much_9 rfl (by decide) rfl rfl <|
            cw_aload_n (pc := 10) dX9_much_10 rfl rfl <|
            cw_bipush (v := 32) (pc := 11) dX9_much_11 (by decide) <|
            cw_invP (q := 67) (pc := 13) dX9_much_13 (c_X9_must_0 hk h100 (hm.mo h100 (F67_M (np := np) S2)) a2 (by omega) (x := 32)) rfl vX9_71 sh_67 (by decide) rfl rfl rfl (by decide) <|
            ?_
          rintro _ m3 ⟨rfl, a3, s3⟩
          rw [if_pos hb, if_pos hb] at a3
          have S3 := S2.tr s3
          refine cw_aload_n (pc := 16) dX9_much_16 rfl rfl <|
            cw_invP (q := 67) (pc := 17) dX9_much_17 (c_someM hk h100 hnp (fac_good hN 5) (c_facM hk h100 hnp 5 0 rfl) m3 ((numT (nxT s) (i + 5)).2.1 + 1) c (hm.mo h100 (F67_M (np := np) S3)) a3 (hc.m7 S3) (by omega) hk3) rfl vX9_87 sh_67 (by decide) rfl rfl rfl (by decide) <|
            ?_
          rintro _ m4 ⟨rfl, a4, c4, s4⟩
          rw [if_neg he] at a4
          have S4 := (F67_M (np := np) S3).tr s4
          refine cw_aload_n (pc := 20) dX9_much_20 rfl rfl <|
            cw_iload_n (pc := 21) dX9_much_21 rfl rfl <|
            cw_iload_n (pc := 22) dX9_much_22 rfl rfl <|
            cw_isub (pc := 23) dX9_much_23 <|
            cw_invV (q := 67) (pc := 24) dX9_much_24 (c_X9_emits_1 a4.2.1) rfl vX9_84 sh_67 (by decide) rfl rfl rfl (by decide) <|
            cw_vret (pc := 27) dX9_much_27 hR <|
            ⟨rfl, a4, (fun q => by cases q), FMp_q S4⟩
      · rw [if_neg hb] at hR
        refine cw_aload_n (pc := 0) dX9_much_0 rfl rfl <|
          cw_aload_n (pc := 1) dX9_much_1 rfl rfl <|
          cw_invP (q := 67) (pc := 2) dX9_much_2 (c_X9_spells hk h100 hm ha hik hm8) rfl vX9_104 sh_67 (by decide) rfl rfl rfl (by decide) <|
          ?_
        rintro _ m1 ⟨rfl, a1, s1⟩
        rw [if_pos hw, e5] at a1
        refine cw_aload_n (pc := 5) dX9_much_5 rfl rfl <|
          cw_invP (q := 67) (pc := 6) dX9_much_6 (c_X9_figures_0 hk h100 (hm.mo h100 (F67_M (np := np) s1)) a1 (by omega)) rfl vX9_98 sh_67 (by decide) rfl rfl rfl (by decide) <|
          ?_
        rintro _ m2 ⟨rfl, a2, s2⟩
        rw [if_pos hn] at a2 ⊢
        have S2 := s1.tr s2
        refine cw_istore_n (L' := [_, _, _, _]) (pc := 9) dX9_much_9 rfl (by decide) rfl rfl <|
          cw_aload_n (pc := 10) dX9_much_10 rfl rfl <|
          cw_bipush (v := 32) (pc := 11) dX9_much_11 (by decide) <|
          cw_invP (q := 67) (pc := 13) dX9_much_13 (c_X9_must_0 hk h100 (hm.mo h100 (F67_M (np := np) S2)) a2 (by omega) (x := 32)) rfl vX9_71 sh_67 (by decide) rfl rfl rfl (by decide) <|
          ?_
        rintro _ m3 ⟨rfl, a3, s3⟩
        rw [if_neg hb, if_neg hb] at a3
        have S3 := S2.tr s3
        refine cw_aload_n (pc := 16) dX9_much_16 rfl rfl <|
          cw_invV (q := 67) (pc := 17) dX9_much_17 (c_X9_some_1 a3.2.1) rfl vX9_87 sh_67 (by decide) rfl rfl rfl (by decide) <|
          cw_aload_n (pc := 20) dX9_much_20 rfl rfl <|
          cw_iload_n (pc := 21) dX9_much_21 rfl rfl <|
          cw_iload_n (pc := 22) dX9_much_22 rfl rfl <|
          cw_isub (pc := 23) dX9_much_23 <|
          cw_invV (q := 67) (pc := 24) dX9_much_24 (c_X9_emits_1 a3.2.1) rfl vX9_84 sh_67 (by decide) rfl rfl rfl (by decide) <|
          cw_vret (pc := 27) dX9_much_27 hR <|
          ⟨rfl, a3, (fun q => by cases q), F67_q S3⟩
    · rw [if_neg hn] at hR
      refine cw_aload_n (pc := 0) dX9_much_0 rfl rfl <|
        cw_aload_n (pc := 1) dX9_much_1 rfl rfl <|
        cw_invP (q := 67) (pc := 2) dX9_much_2 (c_X9_spells hk h100 hm ha hik hm8) rfl vX9_104 sh_67 (by decide) rfl rfl rfl (by decide) <|
        ?_
      rintro _ m1 ⟨rfl, a1, s1⟩
      rw [if_pos hw, e5] at a1
      refine cw_aload_n (pc := 5) dX9_much_5 rfl rfl <|
        cw_invP (q := 67) (pc := 6) dX9_much_6 (c_X9_figures_0 hk h100 (hm.mo h100 (F67_M (np := np) s1)) a1 (by omega)) rfl vX9_98 sh_67 (by decide) rfl rfl rfl (by decide) <|
        ?_
      rintro _ m2 ⟨rfl, a2, s2⟩
      rw [if_neg hn] at a2 ⊢
      have S2 := s1.tr s2
      refine cw_istore_n (L' := [_, _, _, _]) (pc := 9) dX9_much_9 rfl (by decide) rfl rfl <|
        cw_aload_n (pc := 10) dX9_much_10 rfl rfl <|
        cw_bipush (v := 32) (pc := 11) dX9_much_11 (by decide) <|
        cw_invP (q := 67) (pc := 13) dX9_much_13 (c_X9_must_1 a2) rfl vX9_71 sh_67 (by decide) rfl rfl rfl (by decide) <|
        ?_
      rintro _ m3 ⟨rfl, a3, s3⟩
      refine cw_aload_n (pc := 16) dX9_much_16 rfl rfl <|
        cw_invV (q := 67) (pc := 17) dX9_much_17 (c_X9_some_1 a3.2.1) rfl vX9_87 sh_67 (by decide) rfl rfl rfl (by decide) <|
        cw_aload_n (pc := 20) dX9_much_20 rfl rfl <|
        cw_iload_n (pc := 21) dX9_much_21 rfl rfl <|
        cw_iload_n (pc := 22) dX9_much_22 rfl rfl <|
        cw_isub (pc := 23) dX9_much_23 <|
        cw_invV (q := 67) (pc := 24) dX9_much_24 (c_X9_emits_1 a3.2.1) rfl vX9_84 sh_67 (by decide) rfl rfl rfl (by decide) <|
        cw_vret (pc := 27) dX9_much_27 hR <|
        ⟨rfl, a3, (fun q => by cases q), F67_q (S2.tr s3)⟩
  · rw [if_neg hw] at hR
    refine cw_aload_n (pc := 0) dX9_much_0 rfl rfl <|
      cw_aload_n (pc := 1) dX9_much_1 rfl rfl <|
      cw_invP (q := 67) (pc := 2) dX9_much_2 (c_X9_spells hk h100 hm ha hik hm8) rfl vX9_104 sh_67 (by decide) rfl rfl rfl (by decide) <|
      ?_
    rintro _ m1 ⟨rfl, a1, s1⟩
    rw [if_neg hw] at a1
    refine cw_aload_n (pc := 5) dX9_much_5 rfl rfl <|
      cw_invP (q := 67) (pc := 6) dX9_much_6 (c_X9_figures_1 a1) rfl vX9_98 sh_67 (by decide) rfl rfl rfl (by decide) <|
      ?_
    rintro _ m2 ⟨rfl, a2, s2⟩
    refine cw_istore_n (L' := [_, _, _, _]) (pc := 9) dX9_much_9 rfl (by decide) rfl rfl <|
      cw_aload_n (pc := 10) dX9_much_10 rfl rfl <|
      cw_bipush (v := 32) (pc := 11) dX9_much_11 (by decide) <|
      cw_invP (q := 67) (pc := 13) dX9_much_13 (c_X9_must_1 a2) rfl vX9_71 sh_67 (by decide) rfl rfl rfl (by decide) <|
      ?_
    rintro _ m3 ⟨rfl, a3, s3⟩
    refine cw_aload_n (pc := 16) dX9_much_16 rfl rfl <|
      cw_invV (q := 67) (pc := 17) dX9_much_17 (c_X9_some_1 a3.2.1) rfl vX9_87 sh_67 (by decide) rfl rfl rfl (by decide) <|
      cw_aload_n (pc := 20) dX9_much_20 rfl rfl <|
      cw_iload_n (pc := 21) dX9_much_21 rfl rfl <|
      cw_iload_n (pc := 22) dX9_much_22 rfl rfl <|
      cw_isub (pc := 23) dX9_much_23 <|
      cw_invV (q := 67) (pc := 24) dX9_much_24 (c_X9_emits_1 a3.2.1) rfl vX9_84 sh_67 (by decide) rfl rfl rfl (by decide) <|
      cw_vret (pc := 27) dX9_much_27 hR <|
      ⟨rfl, a3, (fun q => by cases q), F67_q ((s1.tr s2).tr s3)⟩
set_option maxHeartbeats 4000000 in
set_option maxRecDepth 100000 in
theorem c_X9_tellsHere {E : Ev} {μ : Mem} {s : Row} {k np : Nat} (hk : s 37 = nI k) (h100 : k ≤ 100) (hnp : np < 5) (hm : MK μ s np k) {i mk : Nat} (ha : SA μ i 0 0) {c : PCo} (hc : CR μ np c) (hmk : μ 68 (238 + np) = nI mk) (hci : c.length ≤ i) (hik : i ≤ k) {m : Nat} (hm8 : m < 8) (hl5 : (bytS.getD m []).length = 5 ∧ (-1 : Int32) ∉ bytS.getD m []) : AM E yX9_tellsHere cX9_tellsHere 4 none 30 [.ref 67, .int 238, .ref (80 + m)] μ (fun r μ' => PoC np (if (worT (nxT s) (bytS.getD m []) i).1 = true then (if (numT (nxT s) (i + 5)).1 = true then (true, (numT (nxT s) (i + 5)).2.1, c, (numT (nxT s) (i + 5)).2.2) else (false, (numT (nxT s) (i + 5)).2.1, c, mk)) else (false, (worT (nxT s) (bytS.getD m []) i).2, c, mk)) μ r μ') := by
  refine am_of (own := RX9) (L := [.ref 67, .int 238, .ref (80 + m), .null]) (by decide) rfl (Nat.le_of_ble_eq_true rfl) rfl (fun Γ hR => ?_)
  have hN := nx_end hk h100
  obtain ⟨l5, lm⟩ := hl5
  obtain ⟨w1, w2, w3⟩ := wor_good hN (bytS.getD m []) i lm hik
  by_cases hw : (worT (nxT s) (bytS.getD m []) i).1 = true
  · rw [if_pos hw] at hR
    have e5 := w3 hw
    rw [l5] at e5
    by_cases hn : (numT (nxT s) (i + 5)).1 = true
    · rw [if_pos hn] at hR
      refine cw_aload_n (pc := 0) dX9_tellsHere_0 rfl rfl <|
        cw_aload_n (pc := 1) dX9_tellsHere_1 rfl rfl <|
        cw_invP (q := 67) (pc := 2) dX9_tellsHere_2 (c_X9_spells hk h100 hm ha hik hm8) rfl vX9_104 sh_67 (by decide) rfl rfl rfl (by decide) <|
        ?_
      rintro _ m1 ⟨rfl, a1, s1⟩
      rw [if_pos hw, e5] at a1
      refine cw_aload_n (pc := 5) dX9_tellsHere_5 rfl rfl <|
        cw_invP (q := 67) (pc := 6) dX9_tellsHere_6 (c_X9_figures_0 hk h100 (hm.mo h100 (F67_M (np := np) s1)) a1 (by omega)) rfl vX9_98 sh_67 (by decide) rfl rfl rfl (by decide) <|
        ?_
      rintro _ m2 ⟨rfl, a2, s2⟩
      rw [if_pos hn] at a2 ⊢
      have S2 := s1.tr s2
      refine cw_istore_n (L' := [_, _, _, _]) (pc := 9) dX9_tellsHere_9 rfl (by decide) rfl rfl <|
        cw_aload_n (pc := 10) dX9_tellsHere_10 rfl rfl <|
        cw_getI (q := 67) (pc := 11) dX9_tellsHere_11 fX9_54 sh_67 (by decide) rfl <|
        ?_
      rw [a2.2.1]
      refine cw_if_ne_F (tgt := 29) (pc := 14) dX9_tellsHere_14 (by decide) rfl <|
        cw_aload_n (pc := 17) dX9_tellsHere_17 rfl rfl <|
        cw_getR (q := 67) (t := 68) (pc := 18) dX9_tellsHere_18 fX9_9 sh_67 (by decide) rfl <|
        cw_iload_n (pc := 21) dX9_tellsHere_21 rfl rfl <|
        cw_aload_n (pc := 22) dX9_tellsHere_22 rfl rfl <|
        cw_getI (q := 67) (pc := 23) dX9_tellsHere_23 fX9_75 sh_67 (by decide) rfl <|
        ?_
      rw [(hm.mo h100 (F67_M (np := np) S2)).1]
      refine cw_iadd (pc := 26) dX9_tellsHere_26 <|
        cw_iload_n (pc := 27) dX9_tellsHere_27 rfl rfl <|
        cw_ias (q := 68) (jn := (238 + np)) (pc := 28) dX9_tellsHere_28 sh_68 (nx_add rfl rfl) (by omega) (by decide) <|
        cw_vret (pc := 29) dX9_tellsHere_29 hR <|
        ⟨rfl, ⟨by rw [st_at, if_neg (by omega)]; exact a2.1, by rw [st_at, if_neg (by omega)]; exact a2.2.1, by rw [st_at, if_neg (by omega)]; exact a2.2.2⟩, fun _ => ⟨(hc.m7 S2).mk hnp, st_eq _ _ _ _⟩, (F67_q S2).s1 (Or.inr ⟨rfl, Or.inl rfl⟩)⟩
    · rw [if_neg hn] at hR
      refine cw_aload_n (pc := 0) dX9_tellsHere_0 rfl rfl <|
        cw_aload_n (pc := 1) dX9_tellsHere_1 rfl rfl <|
        cw_invP (q := 67) (pc := 2) dX9_tellsHere_2 (c_X9_spells hk h100 hm ha hik hm8) rfl vX9_104 sh_67 (by decide) rfl rfl rfl (by decide) <|
        ?_
      rintro _ m1 ⟨rfl, a1, s1⟩
      rw [if_pos hw, e5] at a1
      refine cw_aload_n (pc := 5) dX9_tellsHere_5 rfl rfl <|
        cw_invP (q := 67) (pc := 6) dX9_tellsHere_6 (c_X9_figures_0 hk h100 (hm.mo h100 (F67_M (np := np) s1)) a1 (by omega)) rfl vX9_98 sh_67 (by decide) rfl rfl rfl (by decide) <|
        ?_
      rintro _ m2 ⟨rfl, a2, s2⟩
      rw [if_neg hn] at a2 ⊢
      have S2 := s1.tr s2
      refine cw_istore_n (L' := [_, _, _, _]) (pc := 9) dX9_tellsHere_9 rfl (by decide) rfl rfl <|
        cw_aload_n (pc := 10) dX9_tellsHere_10 rfl rfl <|
        cw_getI (q := 67) (pc := 11) dX9_tellsHere_11 fX9_54 sh_67 (by decide) rfl <|
        ?_
      rw [a2.2.1]
      refine cw_if_ne_T (tgt := 29) (pc := 14) dX9_tellsHere_14 (by decide) (by decide) <|
        cw_vret (pc := 29) dX9_tellsHere_29 hR <|
        ⟨rfl, a2, (fun q => by cases q), F67_q S2⟩
  · rw [if_neg hw] at hR
    refine cw_aload_n (pc := 0) dX9_tellsHere_0 rfl rfl <|
      cw_aload_n (pc := 1) dX9_tellsHere_1 rfl rfl <|
      cw_invP (q := 67) (pc := 2) dX9_tellsHere_2 (c_X9_spells hk h100 hm ha hik hm8) rfl vX9_104 sh_67 (by decide) rfl rfl rfl (by decide) <|
      ?_
    rintro _ m1 ⟨rfl, a1, s1⟩
    rw [if_neg hw] at a1
    refine cw_aload_n (pc := 5) dX9_tellsHere_5 rfl rfl <|
      cw_invP (q := 67) (pc := 6) dX9_tellsHere_6 (c_X9_figures_1 a1) rfl vX9_98 sh_67 (by decide) rfl rfl rfl (by decide) <|
      ?_
    rintro _ m2 ⟨rfl, a2, s2⟩
    refine cw_istore_n (L' := [_, _, _, _]) (pc := 9) dX9_tellsHere_9 rfl (by decide) rfl rfl <|
      cw_aload_n (pc := 10) dX9_tellsHere_10 rfl rfl <|
      cw_getI (q := 67) (pc := 11) dX9_tellsHere_11 fX9_54 sh_67 (by decide) rfl <|
      ?_
    rw [a2.2.1]
    refine cw_if_ne_T (tgt := 29) (pc := 14) dX9_tellsHere_14 (by decide) (by decide) <|
      cw_vret (pc := 29) dX9_tellsHere_29 hR <|
      ⟨rfl, a2, (fun q => by cases q), F67_q (s1.tr s2)⟩
theorem base_21 (v : Nat) : (-10 : Int32) - nI v = mst (21, v) := rfl
theorem base_22 (v : Nat) : (-200 : Int32) - nI v = mst (22, v) := rfl
set_option maxHeartbeats 4000000 in
set_option maxRecDepth 100000 in
theorem c_X9_clauseHere {E : Ev} {μ : Mem} {s : Row} {k np : Nat} (hk : s 37 = nI k) (h100 : k ≤ 100) (hnp : np < 5) (hm : MK μ s np k) {i mk : Nat} (ha : SA μ i 0 0) {c : PCo} (hc : CR μ np c) (hmk : μ 68 (238 + np) = nI mk) (hci : c.length ≤ i) (hik : i ≤ k) : AM E yX9_clauseHere cX9_clauseHere 1 none 31 [.ref 67] μ (fun r μ' => PoC np (claT (nxT s) i c mk) μ r μ') := by
  refine am_of (own := RX9) (L := [.ref 67]) (by decide) rfl (Nat.le_of_ble_eq_true rfl) rfl (fun Γ hR => ?_)
  have hcl := cla_eq (nxT s) i c mk
  by_cases h1 : nxT s i = 112
  · have hcl2 : claT (nxT s) i c mk = if (worT (nxT s) (bytS.getD 5 []) i).1 = true then (if (numT (nxT s) (i + 5)).1 = true then (true, (numT (nxT s) (i + 5)).2.1, c, (numT (nxT s) (i + 5)).2.2) else (false, (numT (nxT s) (i + 5)).2.1, c, mk)) else (false, (worT (nxT s) (bytS.getD 5 []) i).2, c, mk) := by rw [hcl, show wrdT (nxT s i) = bytS.getD 5 [] by unfold wrdT; rw [if_pos h1]; rfl, if_pos h1]
    rw [hcl2] at hR
    refine cw_aload_n (pc := 0) dX9_clauseHere_0 rfl rfl <|
      cw_invI (q := 67) (pc := 1) dX9_clauseHere_1 (c_X9_here hk h100 hm ha (by omega)) rfl vX9_58 sh_67 (by decide) rfl rfl rfl (by decide) <|
      ?_
    rw [h1]
    refine cw_lookup (off := 36) (tgt := 40) (pc := 4) dX9_clauseHere_4 (by decide) rfl (by decide) <|
      cw_aload_n (pc := 40) dX9_clauseHere_40 rfl rfl <|
      cw_sipush (v := 238) (pc := 41) dX9_clauseHere_41 (by decide) <|
      cw_ldcS (i := 5) (tx := "pass ") (pc := 44) dX9_clauseHere_44 (by decide) <|
      cw_invP (q := 67) (pc := 46) dX9_clauseHere_46 (c_X9_tellsHere hk h100 hnp hm ha hc hmk hci hik (m := 5) (by decide) (by decide)) rfl vX9_110 sh_67 (by decide) rfl rfl rfl (by decide) <|
      ?_
    rintro _ m1 ⟨rfl, q1, q2, q3⟩
    refine cw_goto (tgt := 80) (pc := 49) dX9_clauseHere_49 (by decide) <|
      cw_vret (pc := 80) dX9_clauseHere_80 hR <|
      ⟨rfl, q1, q2, q3⟩
  · by_cases h2 : nxT s i = 100
    · have hcl2 : claT (nxT s) i c mk = if (worT (nxT s) (bytS.getD 6 []) i).1 = true then (if (numT (nxT s) (i + 5)).1 = true then (if nxT s (numT (nxT s) (i + 5)).2.1 = 32 then (if (eitT (nxT s) (facT (nxT s) 5) ((numT (nxT s) (i + 5)).2.1 + 1) c).1 = true then (true, (eitT (nxT s) (facT (nxT s) 5) ((numT (nxT s) (i + 5)).2.1 + 1) c).2.1, (eitT (nxT s) (facT (nxT s) 5) ((numT (nxT s) (i + 5)).2.1 + 1) c).2.2 ++ [(21, (numT (nxT s) (i + 5)).2.2)], mk) else (false, (eitT (nxT s) (facT (nxT s) 5) ((numT (nxT s) (i + 5)).2.1 + 1) c).2.1, c, mk)) else (false, (numT (nxT s) (i + 5)).2.1, c, mk)) else (false, (numT (nxT s) (i + 5)).2.1, c, mk)) else (false, (worT (nxT s) (bytS.getD 6 []) i).2, c, mk) := by rw [hcl, show wrdT (nxT s i) = bytS.getD 6 [] by unfold wrdT; rw [if_neg h1, if_pos h2]; rfl, if_neg h1, if_pos h2]
      rw [hcl2] at hR
      refine cw_aload_n (pc := 0) dX9_clauseHere_0 rfl rfl <|
        cw_invI (q := 67) (pc := 1) dX9_clauseHere_1 (c_X9_here hk h100 hm ha (by omega)) rfl vX9_58 sh_67 (by decide) rfl rfl rfl (by decide) <|
        ?_
      rw [h2]
      refine cw_lookup (off := 48) (tgt := 52) (pc := 4) dX9_clauseHere_4 (by decide) rfl (by decide) <|
        cw_aload_n (pc := 52) dX9_clauseHere_52 rfl rfl <|
        cw_bipush (v := -10) (pc := 53) dX9_clauseHere_53 (by decide) <|
        cw_ldcS (i := 6) (tx := "draw ") (pc := 55) dX9_clauseHere_55 (by decide) <|
        cw_invP (q := 67) (pc := 57) dX9_clauseHere_57 (c_X9_much hk h100 hnp hm ha hc hmk hci hik (m := 6) (by decide) (by decide) base_21) rfl vX9_116 sh_67 (by decide) rfl rfl rfl (by decide) <|
        ?_
      rintro _ m1 ⟨rfl, q1, q2, q3⟩
      refine cw_goto (tgt := 80) (pc := 60) dX9_clauseHere_60 (by decide) <|
        cw_vret (pc := 80) dX9_clauseHere_80 hR <|
        ⟨rfl, q1, q2, q3⟩
    · by_cases h3 : nxT s i = 104
      · have hcl2 : claT (nxT s) i c mk = if (worT (nxT s) (bytS.getD 7 []) i).1 = true then (if (numT (nxT s) (i + 5)).1 = true then (if nxT s (numT (nxT s) (i + 5)).2.1 = 32 then (if (eitT (nxT s) (facT (nxT s) 5) ((numT (nxT s) (i + 5)).2.1 + 1) c).1 = true then (true, (eitT (nxT s) (facT (nxT s) 5) ((numT (nxT s) (i + 5)).2.1 + 1) c).2.1, (eitT (nxT s) (facT (nxT s) 5) ((numT (nxT s) (i + 5)).2.1 + 1) c).2.2 ++ [(22, (numT (nxT s) (i + 5)).2.2)], mk) else (false, (eitT (nxT s) (facT (nxT s) 5) ((numT (nxT s) (i + 5)).2.1 + 1) c).2.1, c, mk)) else (false, (numT (nxT s) (i + 5)).2.1, c, mk)) else (false, (numT (nxT s) (i + 5)).2.1, c, mk)) else (false, (worT (nxT s) (bytS.getD 7 []) i).2, c, mk) := by rw [hcl, show wrdT (nxT s i) = bytS.getD 7 [] by unfold wrdT; rw [if_neg h1, if_neg h2]; rfl, if_neg h1, if_neg h2]
        rw [hcl2] at hR
        refine cw_aload_n (pc := 0) dX9_clauseHere_0 rfl rfl <|
          cw_invI (q := 67) (pc := 1) dX9_clauseHere_1 (c_X9_here hk h100 hm ha (by omega)) rfl vX9_58 sh_67 (by decide) rfl rfl rfl (by decide) <|
          ?_
        rw [h3]
        refine cw_lookup (off := 59) (tgt := 63) (pc := 4) dX9_clauseHere_4 (by decide) rfl (by decide) <|
          cw_aload_n (pc := 63) dX9_clauseHere_63 rfl rfl <|
          cw_sipush (v := -200) (pc := 64) dX9_clauseHere_64 (by decide) <|
          cw_ldcS (i := 7) (tx := "hold ") (pc := 67) dX9_clauseHere_67 (by decide) <|
          cw_invP (q := 67) (pc := 69) dX9_clauseHere_69 (c_X9_much hk h100 hnp hm ha hc hmk hci hik (m := 7) (by decide) (by decide) base_22) rfl vX9_116 sh_67 (by decide) rfl rfl rfl (by decide) <|
          ?_
        rintro _ m1 ⟨rfl, q1, q2, q3⟩
        refine cw_goto (tgt := 80) (pc := 72) dX9_clauseHere_72 (by decide) <|
          cw_vret (pc := 80) dX9_clauseHere_80 hR <|
          ⟨rfl, q1, q2, q3⟩
      · have hwo : worT (nxT s) (wrdT (nxT s i)) i = (false, i) := by unfold wrdT; rw [if_neg h1, if_neg h2]; simp only [worT]; rw [if_neg h3]
        have hcl2 : claT (nxT s) i c mk = (false, i, c, mk) := by rw [hcl, hwo]; rfl
        rw [hcl2] at hR
        have hoff : Op.lookupswitch.offset [(100, 48), (104, 59), (112, 36)] 71 (nxT s i).toInt = 71 := by
          show (if (100 : Int) = (nxT s i).toInt then (48 : Int) else if (104 : Int) = (nxT s i).toInt then 59 else if (112 : Int) = (nxT s i).toInt then 36 else 71) = 71
          rw [if_neg (fun q => h2 (Int32.toInt_inj.mp (show (nxT s i).toInt = (100 : Int32).toInt from q.symm))), if_neg (fun q => h3 (Int32.toInt_inj.mp (show (nxT s i).toInt = (104 : Int32).toInt from q.symm))), if_neg (fun q => h1 (Int32.toInt_inj.mp (show (nxT s i).toInt = (112 : Int32).toInt from q.symm)))]
        refine cw_aload_n (pc := 0) dX9_clauseHere_0 rfl rfl <|
          cw_invI (q := 67) (pc := 1) dX9_clauseHere_1 (c_X9_here hk h100 hm ha (by omega)) rfl vX9_58 sh_67 (by decide) rfl rfl rfl (by decide) <|
          cw_lookup (off := 71) (tgt := 75) (pc := 4) dX9_clauseHere_4 (by decide) hoff (by decide) <|
          cw_aload_n (pc := 75) dX9_clauseHere_75 rfl rfl <|
          cw_iconst (v := 1) (pc := 76) dX9_clauseHere_76 (by decide) <|
          cw_putZ (q := 67) (pc := 77) dX9_clauseHere_77 pX9_54 sh_67 (by decide) rfl (by decide) <|
          cw_vret (pc := 80) dX9_clauseHere_80 hR <|
          ⟨rfl, sa_w ha, (fun q => by cases q), F67_q (Same.rf.s1 (f7 (by decide)))⟩
