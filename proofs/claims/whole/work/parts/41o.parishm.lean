/-! ===== PARISH, the model's ===== -/
theorem nx_m1 {s : Row} (hT : InvT s) {k p : Nat} (hk : s 37 = nI k) (h100 : k ≤ 100) (hp : p ≤ k) : nxT s p = -1 ↔ p = k := by
  constructor
  · intro h
    rcases Nat.lt_or_ge p k with q | q
    · obtain ⟨k', hk', e, hc⟩ := hT
      have : k' = k := (nI_eq (by omega) (by omega)).mp (e.symm.trans hk)
      subst this
      obtain ⟨c, hc1, hc2⟩ := hc p q
      rw [nx_in hk h100 q, hc2] at h
      exact absurd h (nI_ne1 (by omega))
    · omega
  · intro h; subst h; exact nx_end hk h100 p (Nat.le_refl _)
theorem parR_ok {s : Row} (h5 : ¬ s 32 = 5) (h : (rdS s).1 = true) : parR s = upd (upd s 37 0) 32 (s 32 + 1) := by rw [parR, if_neg h5, if_pos h]
theorem parR_no {s : Row} (h5 : ¬ s 32 = 5) (h : ¬ (rdS s).1 = true) : parR s = upd s 37 0 := by rw [parR, if_neg h5, if_neg h]
theorem FMq_M {μ μ' : Mem} {np : Nat} (h : Same (FMq np) μ μ') : Same MM μ μ' := h.mo (fun q i h => by unfold FMq at h; unfold MM; omega)
set_option maxHeartbeats 4000000 in
set_option maxRecDepth 100000 in
theorem c_X9_parish {E : Ev} {μ : Mem} {s : Row} (hs : μ 68 = s) {n mk : Nat} {code : PCo} (hI : Inv s n code mk) : AM E yX9_parish cX9_parish 2 (some .int) 40 [.ref 67] μ (fun r μ' => r = some (.int (parA s)) ∧ PRow s (μ' 68) ∧ Same MM μ μ') := by
  refine am_of (own := RX9) (L := [.ref 67, .null]) (by decide) rfl (Nat.le_of_ble_eq_true rfl) rfl (fun Γ hR => ?_)
  subst hs
  obtain ⟨hIL, hIP, hIC, hIS, hIW, hIB, hIT⟩ := hI
  obtain ⟨k, h100, e37, -⟩ := id hIT
  obtain ⟨np, hnp5, e32, -⟩ := id hIP.1
  by_cases h5 : μ 68 32 = 5
  · refine cw_aload_n (pc := 0) dX9_parish_0 rfl rfl <|
      cw_getR (q := 67) (t := 68) (pc := 1) dX9_parish_1 fX9_9 sh_67 (by decide) rfl <|
      cw_bipush (v := 32) (pc := 4) dX9_parish_4 (by decide) <|
      cw_ial (q := 68) (jn := 32) (pc := 6) dX9_parish_6 sh_68 rfl (by decide) (by decide) <|
      cw_iconst (v := 5) (pc := 7) dX9_parish_7 (by decide) <|
      cw_icmp_ne_F (tgt := 14) (pc := 8) dX9_parish_8 (by decide) h5 <|
      cw_bipush (v := -4) (pc := 11) dX9_parish_11 (by decide) <|
      cw_iret (pc := 13) dX9_parish_13 hR <|
      ⟨by rw [parA, if_pos h5], ⟨fun _ => rfl, fun np' e lt => absurd (h5.symm.trans e) (fun q => absurd ((nI_eq (a := 5) (by decide) (by omega)).mp q) (by omega))⟩, Same.rf⟩
  · have hnp : np < 5 := by rcases Nat.lt_or_ge np 5 with h | h; exact h; exact absurd (by rw [e32, show np = 5 by omega]; rfl) h5
    have hN := nx_end e37 h100
    obtain ⟨M0, hM0⟩ : ∃ m, m = (st (st (st (st (st (st (st (st μ 67 5 (nI np)) 67 7 (nI k)) 68 37 0) 68 (238 + np) 30) 68 (243 + np) 0) 67 6 0) 67 8 0) 67 9 0) := ⟨_, rfl⟩
    have hrow : ∀ i, i ≠ 238 + np → i ≠ 243 + np → M0 68 i = upd (μ 68) 37 0 i := by
      intro i h1 h2
      subst hM0
      rw [st_at, if_neg (by omega), st_at, if_neg (by omega), st_at, if_neg (by omega), st_at, if_neg (fun q => h2 q.2), st_at, if_neg (fun q => h1 q.2)]
      by_cases e : i = 37
      · subst e; rw [st_eq, us]
      · rw [st_at, if_neg (fun q => e q.2), st_at, if_neg (by omega), st_at, if_neg (by omega), un e]
    have hmk0 : M0 68 (238 + np) = nI 30 := by subst hM0; rw [st_at, if_neg (by omega), st_at, if_neg (by omega), st_at, if_neg (by omega), st_at, if_neg (by omega), st_eq]; rfl
    have hc0 : CR M0 np [] := ⟨by subst hM0; rw [st_at, if_neg (by omega), st_at, if_neg (by omega), st_at, if_neg (by omega), st_eq]; rfl, fun j q h => by cases h⟩
    have ha0 : SA M0 0 0 0 := by subst hM0; exact ⟨rfl, rfl, rfl⟩
    have hm0 : MK M0 (μ 68) np k := ⟨by subst hM0; rfl, by subst hM0; rfl, fun j hj => by rw [hrow _ (by omega) (by omega), un (by omega)]⟩
    have hS0 : Same MM μ M0 := by
      subst hM0
      have a : ∀ i, MM 68 i := fun i => Or.inr (Or.inl rfl)
      have b : ∀ i, 5 ≤ i → i ≤ 14 → MM 67 i := fun i h1 h2 => Or.inr (Or.inr ⟨rfl, h1, h2⟩)
      exact (((((((Same.rf.s1 (b 5 (by decide) (by decide))).s1 (b 7 (by decide) (by decide))).s1 (a _)).s1 (a _)).s1 (a _)).s1 (b 6 (by decide) (by decide))).s1 (b 8 (by decide) (by decide))).s1 (b 9 (by decide) (by decide))
    have hfr : ∀ m : Mem, Same (FMq np) M0 m → ∀ i, ¬ (i = 238 + np ∨ i = 243 + np ∨ (248 + 140 * np ≤ i ∧ i < 248 + 140 * np + 140)) → m 68 i = upd (μ 68) 37 0 i := fun m hS i hi => (hS _ _ (by unfold FMq; omega)).trans (hrow i (by omega) (by omega))
    have hnpe : ∀ np', μ 68 32 = nI np' → np' < 5 → np' = np := fun np' e lt => (nI_eq (by omega) (by omega)).mp (e.symm.trans e32)
    have bad : ∀ (m : Mem) (p : Nat) (c' : PCo) (mk' : Nat) (z : Value), rdS (μ 68) = (false, p, c', mk') → m 67 6 = nI p → Same (FMq np) M0 m → CW E Γ cX9_parish 2 RX9 40 154 [.ref 67, z] [] m := by
      intro m p c' mk' z hr h6 hS
      have hno : ¬ (rdS (μ 68)).1 = true := by rw [hr]; exact fun q => by cases q
      have hpr : PRow (μ 68) (m 68) := ⟨fun q => absurd q h5, fun np' e lt => by
        have := hnpe np' e lt
        subst this
        refine ⟨fun i a1 a2 a3 a4 => ?_, fun q => absurd q hno, fun _ => ?_⟩
        · rw [parR_no h5 hno]; exact hfr m hS i (by omega)
        · rw [hfr m hS 38 (by omega), un (by decide)]⟩
      refine cw_bipush (v := -10) (pc := 154) dX9_parish_154 (by decide) <|
        cw_aload_n (pc := 156) dX9_parish_156 rfl rfl <|
        cw_getI (q := 67) (pc := 157) dX9_parish_157 fX9_48 sh_67 (by decide) rfl <|
        ?_
      rw [h6]
      refine cw_isub (pc := 160) dX9_parish_160 <|
        cw_iret (pc := 161) dX9_parish_161 hR <|
        ⟨by rw [parA, if_neg h5, if_neg hno, hr], hpr, hS0.tr (FMq_M hS)⟩
    have good : ∀ (m : Mem) (p : Nat) (c' : PCo) (mk' : Nat) (z : Value), rdS (μ 68) = (true, p, c', mk') → c'.length ≤ 100 → CR m np c' → m 68 (238 + np) = nI mk' → m 67 5 = nI np → Same (FMq np) M0 m → CW E Γ cX9_parish 2 RX9 40 162 [.ref 67, z] [] m := by
      intro m p c' mk' z hr hl hcr hmk' h7 hS
      have hyes : (rdS (μ 68)).1 = true := by rw [hr]
      have e32m : m 68 32 = μ 68 32 := by rw [hfr m hS 32 (by omega), un (by decide)]
      have e7 : (st m 68 32 (μ 68 32 + 1)) 67 5 = nI np := (st_at.trans (if_neg (by omega))).trans h7
      have e7b : (st (st m 68 32 (μ 68 32 + 1)) 68 38 (nI np)) 67 5 = nI np := (st_at.trans (if_neg (by omega))).trans e7
      have hpr : PRow (μ 68) ((st (st m 68 32 (μ 68 32 + 1)) 68 38 (nI np)) 68) := ⟨fun q => absurd q h5, fun np' e lt => by
        have := hnpe np' e lt
        subst this
        refine ⟨fun i a1 a2 a3 a4 => ?_, fun _ => ⟨st_eq _ _ _ _, ?_, ?_, fun i q hq => ?_⟩, fun q => absurd hyes q⟩
        · rw [parR_ok h5 hyes, st_at, if_neg (fun q => a1 q.2)]
          by_cases e' : i = 32
          · subst e'; rw [st_eq, us]
          · rw [st_at, if_neg (fun q => e' q.2), un e']; exact hfr m hS i (by omega)
        · rw [st_at, if_neg (by omega), st_at, if_neg (by omega), hr]; exact hcr.1
        · rw [st_at, if_neg (by omega), st_at, if_neg (by omega), hr]; exact hmk'
        · rw [hr] at hq; rw [st_at, if_neg (by omega), st_at, if_neg (by omega)]; exact hcr.2 i q hq⟩
      refine cw_aload_n (pc := 162) dX9_parish_162 rfl rfl <|
        cw_getR (q := 67) (t := 68) (pc := 163) dX9_parish_163 fX9_9 sh_67 (by decide) rfl <|
        cw_bipush (v := 32) (pc := 166) dX9_parish_166 (by decide) <|
        cw_dup2 (pc := 168) dX9_parish_168 rfl rfl <|
        cw_ial (q := 68) (jn := 32) (pc := 169) dX9_parish_169 sh_68 rfl (by decide) (by decide) <|
        ?_
      rw [e32m]
      refine cw_iconst (v := 1) (pc := 170) dX9_parish_170 (by decide) <|
        cw_iadd (pc := 171) dX9_parish_171 <|
        cw_ias (q := 68) (jn := 32) (pc := 172) dX9_parish_172 sh_68 rfl (by decide) (by decide) <|
        cw_aload_n (pc := 173) dX9_parish_173 rfl rfl <|
        cw_getR (q := 67) (t := 68) (pc := 174) dX9_parish_174 fX9_9 sh_67 (by decide) rfl <|
        cw_bipush (v := 38) (pc := 177) dX9_parish_177 (by decide) <|
        cw_aload_n (pc := 179) dX9_parish_179 rfl rfl <|
        cw_getI (q := 67) (pc := 180) dX9_parish_180 fX9_75 sh_67 (by decide) rfl <|
        ?_
      rw [e7]
      refine cw_ias (q := 68) (jn := 38) (pc := 183) dX9_parish_183 sh_68 rfl (by decide) (by decide) <|
        cw_aload_n (pc := 184) dX9_parish_184 rfl rfl <|
        cw_getI (q := 67) (pc := 185) dX9_parish_185 fX9_75 sh_67 (by decide) rfl <|
        ?_
      rw [e7b]
      refine cw_iret (pc := 188) dX9_parish_188 hR <|
        ⟨by rw [parA, if_neg h5, if_pos hyes, e32], hpr, ((hS0.tr (FMq_M hS)).s1 (Or.inr (Or.inl rfl))).s1 (Or.inr (Or.inl rfl))⟩
    have fin : ∀ (m : Mem) (n i : Nat) (c : PCo) (mk : Nat) (z : Value), parT (nxT (μ 68)) 10 0 [] 30 = parT (nxT (μ 68)) (n + 1) i c mk → ∀ (p : Nat) (c' : PCo) (mk' : Nat), claT (nxT (μ 68)) i c mk = (true, p, c', mk') → (n = 0 ∨ ¬ nxT (μ 68) p = 59) → p ≤ k → c'.length ≤ 100 → CR m np c' → m 68 (238 + np) = nI mk' → SA m p 0 0 → MK m (μ 68) np k → Same (FMq np) M0 m → CW E Γ cX9_parish 2 RX9 40 136 [.ref 67, z] [] m := by
      intro m n i c mk z hp p c' mk' hcl hx hpk hl hcr hmk' hsa hmm hS
      have hr : rdS (μ 68) = parT (nxT (μ 68)) (n + 1) i c mk := hp
      rw [par_s, hcl, if_pos rfl] at hr
      by_cases he : nxT (μ 68) p = -1
      · rw [if_pos he] at hr
        have hpe : p = k := (nx_m1 hIT e37 h100 hpk).mp he
        refine cw_aload_n (pc := 136) dX9_parish_136 rfl rfl <|
          cw_getI (q := 67) (pc := 137) dX9_parish_137 fX9_54 sh_67 (by decide) rfl <|
          ?_
        rw [hsa.2.1]
        refine cw_if_ne_F (tgt := 154) (pc := 140) dX9_parish_140 (by decide) rfl <|
          cw_aload_n (pc := 143) dX9_parish_143 rfl rfl <|
          cw_getI (q := 67) (pc := 144) dX9_parish_144 fX9_48 sh_67 (by decide) rfl <|
          ?_
        rw [hsa.1]
        refine cw_aload_n (pc := 147) dX9_parish_147 rfl rfl <|
          cw_getI (q := 67) (pc := 148) dX9_parish_148 fX9_51 sh_67 (by decide) rfl <|
          ?_
        rw [hmm.2.1]
        refine cw_icmp_eq_T (tgt := 162) (pc := 151) dX9_parish_151 (by decide) (by rw [hpe]) <|
          ?_
        exact good m p c' mk' z hr hl hcr hmk' hmm.1 hS
      · rw [if_neg he, if_neg (fun q => by rcases hx with h | h; exact q.1 h; exact h q.2)] at hr
        refine cw_aload_n (pc := 136) dX9_parish_136 rfl rfl <|
          cw_getI (q := 67) (pc := 137) dX9_parish_137 fX9_54 sh_67 (by decide) rfl <|
          ?_
        rw [hsa.2.1]
        refine cw_if_ne_F (tgt := 154) (pc := 140) dX9_parish_140 (by decide) rfl <|
          cw_aload_n (pc := 143) dX9_parish_143 rfl rfl <|
          cw_getI (q := 67) (pc := 144) dX9_parish_144 fX9_48 sh_67 (by decide) rfl <|
          ?_
        rw [hsa.1]
        refine cw_aload_n (pc := 147) dX9_parish_147 rfl rfl <|
          cw_getI (q := 67) (pc := 148) dX9_parish_148 fX9_51 sh_67 (by decide) rfl <|
          ?_
        rw [hmm.2.1]
        refine cw_icmp_eq_F (tgt := 162) (pc := 151) dX9_parish_151 (by decide) (fun q => he ((nx_m1 hIT e37 h100 hpk).mpr ((nI_eq (by omega) (by omega)).mp q))) <|
          ?_
        exact bad m p c' mk' z hr hsa.1 hS
    have loop : ∀ m1 : Mem, PoC np (claT (nxT (μ 68)) 0 [] 30) M0 none m1 → CW E Γ cX9_parish 2 RX9 40 94 [.ref 67, .int (nI (0 + 1))] [] m1 := by
      rintro m1 ⟨-, q1, q2, q3⟩
      refine cw_for (σ := Nat × PCo × Nat) 9 (fun j a m => parT (nxT (μ 68)) 10 0 [] 30 = parT (nxT (μ 68)) (10 - j) a.1 a.2.1 a.2.2 ∧ StC k a.1 a.2.1 (claT (nxT (μ 68)) a.1 a.2.1 a.2.2) ∧ a.2.1.length ≤ a.1 ∧ SA m (claT (nxT (μ 68)) a.1 a.2.1 a.2.2).2.1 (if (claT (nxT (μ 68)) a.1 a.2.1 a.2.2).1 = true then 0 else 1) 0 ∧ ((claT (nxT (μ 68)) a.1 a.2.1 a.2.2).1 = true → CR m np (claT (nxT (μ 68)) a.1 a.2.1 a.2.2).2.2.1 ∧ m 68 (238 + np) = nI (claT (nxT (μ 68)) a.1 a.2.1 a.2.2).2.2.2) ∧ MK m (μ 68) np k ∧ Same (FMq np) M0 m) (fun j a => [.ref 67, .int (nI (j + 1))]) ?_ ?_ 0 (0, [], 30) m1 (Nat.zero_le _) ⟨rfl, cla_good hN (Nat.zero_le _) (by decide), Nat.le_refl _, q1, q2, hm0.mq h100 q3, q3⟩
      · rintro ⟨i, c, mk⟩ m ⟨hp, hst, hci, hsa, hcr, hmm, hS⟩
        dsimp only at hp hst hci hsa hcr
        obtain ⟨⟨b, p, c', mk'⟩, hcl⟩ : ∃ R, R = claT (nxT (μ 68)) i c mk := ⟨_, rfl⟩
        rw [← hcl] at hst hsa hcr
        obtain ⟨g1, g2, g3⟩ := hst
        dsimp only at g1 g2 g3 hsa hcr
        cases b with
        | false =>
          have hr : rdS (μ 68) = (false, p, c', mk') := by
            have h1 : rdS (μ 68) = parT (nxT (μ 68)) (0 + 1) i c mk := hp
            rw [par_s, ← hcl, if_neg (show ¬ ((false, p, c', mk').1 = true) from fun q => by cases q)] at h1; exact h1
          rw [if_neg (by decide)] at hsa
          refine cw_aload_n (pc := 94) dX9_parish_94 rfl rfl <|
            cw_getI (q := 67) (pc := 95) dX9_parish_95 fX9_54 sh_67 (by decide) rfl <|
            ?_
          rw [hsa.2.1]
          refine cw_if_ne_T (tgt := 136) (pc := 98) dX9_parish_98 (by decide) (by decide) <|
            cw_aload_n (pc := 136) dX9_parish_136 rfl rfl <|
            cw_getI (q := 67) (pc := 137) dX9_parish_137 fX9_54 sh_67 (by decide) rfl <|
            ?_
          rw [hsa.2.1]
          refine cw_if_ne_T (tgt := 154) (pc := 140) dX9_parish_140 (by decide) (by decide) <|
            ?_
          exact bad m p c' mk' _ hr hsa.1 hS
        | true =>
          rw [if_pos rfl] at hsa
          obtain ⟨g4, e, g5, g6, _⟩ := g3 rfl
          have hl : c'.length ≤ 100 := by rw [g5, List.length_append]; omega
          refine cw_aload_n (pc := 94) dX9_parish_94 rfl rfl <|
            cw_getI (q := 67) (pc := 95) dX9_parish_95 fX9_54 sh_67 (by decide) rfl <|
            ?_
          rw [hsa.2.1]
          refine cw_if_ne_F (tgt := 136) (pc := 98) dX9_parish_98 (by decide) rfl <|
            cw_iload_n (pc := 101) dX9_parish_101 rfl rfl <|
            cw_bipush (v := 10) (pc := 102) dX9_parish_102 (by decide) <|
            cw_icmp_ge_T (tgt := 136) (pc := 104) dX9_parish_104 (by decide) (by decide) <|
            ?_
          exact fin m 0 i c mk _ hp p c' mk' hcl.symm (Or.inl rfl) g2 hl (hcr rfl).1 (hcr rfl).2 hsa hmm hS
      · rintro j ⟨i, c, mk⟩ m hj ⟨hp, hst, hci, hsa, hcr, hmm, hS⟩ ih
        dsimp only at hp hst hci hsa hcr
        obtain ⟨⟨b, p, c', mk'⟩, hcl⟩ : ∃ R, R = claT (nxT (μ 68)) i c mk := ⟨_, rfl⟩
        rw [← hcl] at hst hsa hcr
        obtain ⟨g1, g2, g3⟩ := hst
        dsimp only at g1 g2 g3 hsa hcr
        have hp2 : parT (nxT (μ 68)) 10 0 [] 30 = parT (nxT (μ 68)) (9 - j + 1) i c mk := by rw [show 9 - j + 1 = 10 - j by omega]; exact hp
        cases b with
        | false =>
          have hr : rdS (μ 68) = (false, p, c', mk') := by
            have h1 : rdS (μ 68) = parT (nxT (μ 68)) (9 - j + 1) i c mk := hp2
            rw [par_s, ← hcl, if_neg (show ¬ ((false, p, c', mk').1 = true) from fun q => by cases q)] at h1; exact h1
          rw [if_neg (by decide)] at hsa
          refine cw_aload_n (pc := 94) dX9_parish_94 rfl rfl <|
            cw_getI (q := 67) (pc := 95) dX9_parish_95 fX9_54 sh_67 (by decide) rfl <|
            ?_
          rw [hsa.2.1]
          refine cw_if_ne_T (tgt := 136) (pc := 98) dX9_parish_98 (by decide) (by decide) <|
            cw_aload_n (pc := 136) dX9_parish_136 rfl rfl <|
            cw_getI (q := 67) (pc := 137) dX9_parish_137 fX9_54 sh_67 (by decide) rfl <|
            ?_
          rw [hsa.2.1]
          refine cw_if_ne_T (tgt := 154) (pc := 140) dX9_parish_140 (by decide) (by decide) <|
            ?_
          exact bad m p c' mk' _ hr hsa.1 hS
        | true =>
          rw [if_pos rfl] at hsa
          obtain ⟨g4, e, g5, g6, _⟩ := g3 rfl
          have hl0 : c'.length ≤ p := by rw [g5, List.length_append]; omega
          have hl : c'.length ≤ 100 := by omega
          by_cases h59 : nxT (μ 68) p = 59
          · have hpk : p < k := lt_k e37 h100 (by decide) h59
            have hne : ¬ nxT (μ 68) p = -1 := by rw [h59]; decide
            have hp3 : parT (nxT (μ 68)) 10 0 [] 30 = parT (nxT (μ 68)) (9 - j) (p + 1) c' mk' := by
              rw [hp2, par_s, ← hcl, if_pos rfl, if_neg hne, if_pos ⟨by omega, h59⟩]
            refine cw_aload_n (pc := 94) dX9_parish_94 rfl rfl <|
              cw_getI (q := 67) (pc := 95) dX9_parish_95 fX9_54 sh_67 (by decide) rfl <|
              ?_
            rw [hsa.2.1]
            refine cw_if_ne_F (tgt := 136) (pc := 98) dX9_parish_98 (by decide) rfl <|
              cw_iload_n (pc := 101) dX9_parish_101 rfl rfl <|
              cw_bipush (v := 10) (pc := 102) dX9_parish_102 (by decide) <|
              cw_icmp_ge_F (tgt := 136) (pc := 104) dX9_parish_104 (by decide) (nI_ge (a := j + 1) (b := 10) (by omega) (by decide)) <|
              cw_aload_n (pc := 107) dX9_parish_107 rfl rfl <|
              cw_invI (q := 67) (pc := 108) dX9_parish_108 (c_X9_here e37 h100 hmm hsa (by omega)) rfl vX9_58 sh_67 (by decide) rfl rfl rfl (by decide) <|
              cw_bipush (v := 59) (pc := 111) dX9_parish_111 (by decide) <|
              cw_icmp_ne_F (tgt := 136) (pc := 113) dX9_parish_113 (by decide) h59 <|
              cw_aload_n (pc := 116) dX9_parish_116 rfl rfl <|
              cw_dup (pc := 117) dX9_parish_117 rfl <|
              cw_getI (q := 67) (pc := 118) dX9_parish_118 fX9_48 sh_67 (by decide) rfl <|
              ?_
            rw [hsa.1]
            refine cw_iconst (v := 1) (pc := 121) dX9_parish_121 (by decide) <|
              cw_iadd (pc := 122) dX9_parish_122 <|
              ?_
            rw [nI_1 p]
            refine cw_putI (q := 67) (pc := 123) dX9_parish_123 pX9_48 sh_67 (by decide) rfl <|
              cw_aload_n (pc := 126) dX9_parish_126 rfl rfl <|
              cw_invP (q := 67) (pc := 127) dX9_parish_127 (c_X9_clauseHere e37 h100 hnp (hmm.mq h100 (F67_q (Same.rf.s1 (f7 (by decide))))) (sa_s (j := p + 1) hsa) (hcr rfl).1.m9 (show (st m 67 6 (nI (p + 1))) 68 (238 + np) = nI mk' from (st_at.trans (if_neg (by omega))).trans (hcr rfl).2) (by omega) hpk) rfl vX9_121 sh_67 (by decide) rfl rfl rfl (by decide) <|
              ?_
            rintro _ m2 ⟨rfl, b1, b2, b3⟩
            have S2 := (hS.s1 (F := FMq np) (q := 67) (i := 6) (v := nI (p + 1)) (Or.inl (f7 (by decide)))).tr b3
            refine cw_iincL (L' := [_, _]) (c := 1) (pc := 130) dX9_parish_130 rfl (by decide) (by decide) rfl rfl <|
              ?_
            rw [nI_1 (j + 1)]
            refine cw_goto (tgt := 94) (pc := 133) dX9_parish_133 (by decide) <|
              ?_
            exact ih (p + 1, c', mk') _ ⟨by rw [show 10 - (j + 1) = 9 - j by omega]; exact hp3, cla_good hN hpk g4, Nat.le_succ_of_le hl0, b1, b2, hm0.mq h100 S2, S2⟩
          · refine cw_aload_n (pc := 94) dX9_parish_94 rfl rfl <|
              cw_getI (q := 67) (pc := 95) dX9_parish_95 fX9_54 sh_67 (by decide) rfl <|
              ?_
            rw [hsa.2.1]
            refine cw_if_ne_F (tgt := 136) (pc := 98) dX9_parish_98 (by decide) rfl <|
              cw_iload_n (pc := 101) dX9_parish_101 rfl rfl <|
              cw_bipush (v := 10) (pc := 102) dX9_parish_102 (by decide) <|
              cw_icmp_ge_F (tgt := 136) (pc := 104) dX9_parish_104 (by decide) (nI_ge (a := j + 1) (b := 10) (by omega) (by decide)) <|
              cw_aload_n (pc := 107) dX9_parish_107 rfl rfl <|
              cw_invI (q := 67) (pc := 108) dX9_parish_108 (c_X9_here e37 h100 hmm hsa (by omega)) rfl vX9_58 sh_67 (by decide) rfl rfl rfl (by decide) <|
              cw_bipush (v := 59) (pc := 111) dX9_parish_111 (by decide) <|
              cw_icmp_ne_T (tgt := 136) (pc := 113) dX9_parish_113 (by decide) h59 <|
              ?_
            exact fin m (9 - j) i c mk _ hp2 p c' mk' hcl.symm (Or.inr h59) g2 hl (hcr rfl).1 (hcr rfl).2 hsa hmm hS
    refine cw_aload_n (pc := 0) dX9_parish_0 rfl rfl <|
      cw_getR (q := 67) (t := 68) (pc := 1) dX9_parish_1 fX9_9 sh_67 (by decide) rfl <|
      cw_bipush (v := 32) (pc := 4) dX9_parish_4 (by decide) <|
      cw_ial (q := 68) (jn := 32) (pc := 6) dX9_parish_6 sh_68 rfl (by decide) (by decide) <|
      cw_iconst (v := 5) (pc := 7) dX9_parish_7 (by decide) <|
      cw_icmp_ne_T (tgt := 14) (pc := 8) dX9_parish_8 (by decide) h5 <|
      cw_aload_n (pc := 14) dX9_parish_14 rfl rfl <|
      cw_aload_n (pc := 15) dX9_parish_15 rfl rfl <|
      cw_getR (q := 67) (t := 68) (pc := 16) dX9_parish_16 fX9_9 sh_67 (by decide) rfl <|
      cw_bipush (v := 32) (pc := 19) dX9_parish_19 (by decide) <|
      cw_ial (q := 68) (jn := 32) (pc := 21) dX9_parish_21 sh_68 rfl (by decide) (by decide) <|
      ?_
    rw [e32]
    refine cw_putI (q := 67) (pc := 22) dX9_parish_22 pX9_75 sh_67 (by decide) rfl <|
      cw_aload_n (pc := 25) dX9_parish_25 rfl rfl <|
      cw_aload_n (pc := 26) dX9_parish_26 rfl rfl <|
      cw_getR (q := 67) (t := 68) (pc := 27) dX9_parish_27 fX9_9 sh_67 (by decide) rfl <|
      cw_bipush (v := 37) (pc := 30) dX9_parish_30 (by decide) <|
      cw_ial (q := 68) (jn := 37) (pc := 32) dX9_parish_32 sh_68 rfl (by decide) (by decide) <|
      ?_
    rw [show (st μ 67 5 (nI np)) 68 37 = nI k from e37]
    refine cw_putI (q := 67) (pc := 33) dX9_parish_33 pX9_51 sh_67 (by decide) rfl <|
      cw_aload_n (pc := 36) dX9_parish_36 rfl rfl <|
      cw_getR (q := 67) (t := 68) (pc := 37) dX9_parish_37 fX9_9 sh_67 (by decide) rfl <|
      cw_bipush (v := 37) (pc := 40) dX9_parish_40 (by decide) <|
      cw_iconst (v := 0) (pc := 42) dX9_parish_42 (by decide) <|
      cw_ias (q := 68) (jn := 37) (pc := 43) dX9_parish_43 sh_68 rfl (by decide) (by decide) <|
      cw_aload_n (pc := 44) dX9_parish_44 rfl rfl <|
      cw_getR (q := 67) (t := 68) (pc := 45) dX9_parish_45 fX9_9 sh_67 (by decide) rfl <|
      cw_sipush (v := 238) (pc := 48) dX9_parish_48 (by decide) <|
      cw_aload_n (pc := 51) dX9_parish_51 rfl rfl <|
      cw_getI (q := 67) (pc := 52) dX9_parish_52 fX9_75 sh_67 (by decide) rfl <|
      ?_
    rw [show (st (st (st μ 67 5 (nI np)) 67 7 (nI k)) 68 37 0) 67 5 = nI np from rfl]
    refine cw_iadd (pc := 55) dX9_parish_55 <|
      cw_bipush (v := 30) (pc := 56) dX9_parish_56 (by decide) <|
      cw_ias (q := 68) (jn := (238 + np)) (pc := 58) dX9_parish_58 sh_68 (nx_add rfl rfl) (by omega) (by decide) <|
      cw_aload_n (pc := 59) dX9_parish_59 rfl rfl <|
      cw_getR (q := 67) (t := 68) (pc := 60) dX9_parish_60 fX9_9 sh_67 (by decide) rfl <|
      cw_sipush (v := 243) (pc := 63) dX9_parish_63 (by decide) <|
      cw_aload_n (pc := 66) dX9_parish_66 rfl rfl <|
      cw_getI (q := 67) (pc := 67) dX9_parish_67 fX9_75 sh_67 (by decide) rfl <|
      ?_
    rw [show (st (st (st (st μ 67 5 (nI np)) 67 7 (nI k)) 68 37 0) 68 (238 + np) 30) 67 5 = nI np from rfl]
    refine cw_iadd (pc := 70) dX9_parish_70 <|
      cw_iconst (v := 0) (pc := 71) dX9_parish_71 (by decide) <|
      cw_ias (q := 68) (jn := (243 + np)) (pc := 72) dX9_parish_72 sh_68 (nx_add rfl rfl) (by omega) (by decide) <|
      cw_aload_n (pc := 73) dX9_parish_73 rfl rfl <|
      cw_iconst (v := 0) (pc := 74) dX9_parish_74 (by decide) <|
      cw_putI (q := 67) (pc := 75) dX9_parish_75 pX9_48 sh_67 (by decide) rfl <|
      cw_aload_n (pc := 78) dX9_parish_78 rfl rfl <|
      cw_iconst (v := 0) (pc := 79) dX9_parish_79 (by decide) <|
      cw_putZ (q := 67) (pc := 80) dX9_parish_80 pX9_54 sh_67 (by decide) rfl (by decide) <|
      cw_aload_n (pc := 83) dX9_parish_83 rfl rfl <|
      cw_iconst (v := 0) (pc := 84) dX9_parish_84 (by decide) <|
      cw_putI (q := 67) (pc := 85) dX9_parish_85 pX9_78 sh_67 (by decide) rfl <|
      ?_
    rw [← hM0]
    refine cw_iconst (v := 1) (pc := 88) dX9_parish_88 (by decide) <|
      cw_istore_n (L' := [_, _]) (pc := 89) dX9_parish_89 rfl (by decide) rfl rfl <|
      cw_aload_n (pc := 90) dX9_parish_90 rfl rfl <|
      cw_invP (q := 67) (pc := 91) dX9_parish_91 (c_X9_clauseHere e37 h100 hnp hm0 ha0 hc0 hmk0 (Nat.le_refl _) (Nat.zero_le _)) rfl vX9_121 sh_67 (by decide) rfl rfl rfl (by decide) <|
      ?_
    rintro _ m1 q
    obtain ⟨rfl, q1, q2, q3⟩ := q
    exact loop m1 ⟨rfl, q1, q2, q3⟩
