/-! ===== what holds between the calls of a script ===== -/
theorem InvC.cg {s t : Row} {n n' : Nat} (h : InvC s n) (hn : n ≤ n') (e : ∀ i, i = 33 ∨ (81 ≤ i ∧ i ≤ 90) → t i = s i) : InvC t n' := by
  obtain ⟨k, h1, h2, h3⟩ := h
  refine ⟨k, h1, by rw [e _ (by omega)]; exact h2, fun c hc => ?_⟩
  obtain ⟨⟨a, a1, a2⟩, b, b1, b2⟩ := h3 c hc
  exact ⟨⟨a, by omega, by rw [e _ (by omega)]; exact a2⟩, b, by omega, by rw [e _ (by omega)]; exact b2⟩
theorem InvS.cg {s t : Row} {n n' : Nat} (h : InvS s n) (hn : n ≤ n') (e : ∀ i, i = 34 ∨ (91 ≤ i ∧ i ≤ 105) → t i = s i) : InvS t n' := by
  obtain ⟨k, h1, h2, h3⟩ := h
  refine ⟨k, h1, by rw [e _ (by omega)]; exact h2, fun c hc => ?_⟩
  obtain ⟨⟨a, a1, a2⟩, ⟨b, b1, b2⟩, d, d1, d2⟩ := h3 c hc
  exact ⟨⟨a, by omega, by rw [e _ (by omega)]; exact a2⟩, ⟨b, b1, by rw [e _ (by omega)]; exact b2⟩, d, d1, by rw [e _ (by omega)]; exact d2⟩
theorem InvW.cg {s t : Row} {n n' : Nat} (h : InvW s n) (hn : n ≤ n') (e : ∀ i, i = 35 ∨ (106 ≤ i ∧ i ≤ 121) → t i = s i) : InvW t n' := by
  obtain ⟨k, h1, h2, h3⟩ := h
  refine ⟨k, h1, by rw [e _ (by omega)]; exact h2, fun c hc => ?_⟩
  obtain ⟨w, w1, w2, w3, w4⟩ := h3 c hc
  refine ⟨w, w1, by rw [e _ (by omega)]; exact w2, fun h => ?_, fun h => ?_⟩
  · obtain ⟨a, a1, a2⟩ := w3 h
    exact ⟨a, by omega, by rw [e _ (by omega)]; exact a2⟩
  · obtain ⟨a, a1, a2⟩ := w4 h
    exact ⟨a, a1, by rw [e _ (by omega)]; exact a2⟩
theorem InvB.cg {s t : Row} {n n' : Nat} (h : InvB s n) (hn : n ≤ n') (e : ∀ i, i = 36 ∨ (122 ≤ i ∧ i ≤ 137) → t i = s i) : InvB t n' := by
  obtain ⟨k, h1, h2, h3⟩ := h
  refine ⟨k, h1, by rw [e _ (by omega)]; exact h2, fun c hc => ?_⟩
  obtain ⟨⟨a, a1, a2⟩, b, b1, b2⟩ := h3 c hc
  exact ⟨⟨a, by omega, by rw [e _ (by omega)]; exact a2⟩, b, b1, by rw [e _ (by omega)]; exact b2⟩
theorem InvT.cg {s t : Row} (h : InvT s) (e : ∀ i, i = 37 ∨ (138 ≤ i ∧ i ≤ 237) → t i = s i) : InvT t := by
  obtain ⟨k, h1, h2, h3⟩ := h
  refine ⟨k, h1, by rw [e _ (by omega)]; exact h2, fun c hc => ?_⟩
  obtain ⟨a, a1, a2⟩ := h3 c hc
  exact ⟨a, a1, by rw [e _ (by omega)]; exact a2⟩
theorem InvP.cg2 {s t : Row} {code : PCo} {mk : Nat} (h : InvP s code mk) (e : ∀ i, i = 32 ∨ i = 38 ∨ (238 ≤ i ∧ i < 948) → t i = s i) : InvP t code mk := by
  obtain ⟨⟨np, h1, h2, h3⟩, h4⟩ := h
  refine ⟨⟨np, h1, by rw [e _ (by omega)]; exact h2, ?_⟩, h4⟩
  rcases h3 with ⟨a, b, c⟩ | ⟨k, a, b, c, d, f⟩
  · exact Or.inl ⟨by rw [e _ (by omega)]; exact a, b, c⟩
  · exact Or.inr ⟨k, a, by rw [e _ (by omega)]; exact b, by rw [e _ (by omega)]; exact c, by rw [e _ (by omega)]; exact d, fun i q hq => by
      have := (List.getElem?_eq_some_iff.mp hq).1
      have := h4.1
      rw [e _ (by omega)]; exact f i q hq⟩
theorem InvL.cg {s t : Row} {n Y M : Nat} (h : InvL s n Y M) (e : ∀ i, i ≤ 31 ∨ (39 ≤ i ∧ i ≤ 80) → t i = s i) : InvL t n Y M := by
  obtain ⟨h1, h2, h3, h4, h5, h6, h7⟩ := h
  exact ⟨by rw [e _ (by omega)]; exact h1, h2, by rw [e _ (by omega)]; exact h3, fun p hp => by rw [e _ (by omega), e _ (by omega)]; exact h4 p hp, fun p a hp => ⟨by rw [e _ (by omega)]; exact (h5 p a hp).1, by rw [e _ (by omega)]; exact (h5 p a hp).2.1, by rw [e _ (by omega)]; exact (h5 p a hp).2.2.1, fun j hj => by rw [e _ (by omega)]; exact (h5 p a hp).2.2.2 j hj⟩, fun p hp => by rw [e _ (by omega)]; exact h6 p hp, fun p hp => by rw [e _ (by omega), e _ (by omega)]; exact h7 p hp⟩
theorem Inv.cg {s t : Row} {n mk : Nat} {code : PCo} (h : Inv s n code mk) (e : ∀ i, i < 948 → t i = s i) : Inv t n code mk :=
  ⟨h.1.cg (fun i hi => e i (by omega)), h.2.1.cg2 (fun i hi => e i (by omega)), h.2.2.1.cg (Nat.le_refl _) (fun i hi => e i (by omega)), h.2.2.2.1.cg (Nat.le_refl _) (fun i hi => e i (by omega)), h.2.2.2.2.1.cg (Nat.le_refl _) (fun i hi => e i (by omega)), h.2.2.2.2.2.1.cg (Nat.le_refl _) (fun i hi => e i (by omega)), h.2.2.2.2.2.2.cg (fun i hi => e i (by omega))⟩
theorem Rel.cg {μ : Mem} {b : Nat} {s t : Row} {mk : Nat} {code : PCo} (h : Rel μ b s code mk) (e : ∀ i, i ≤ 37 ∨ (39 ≤ i ∧ i ≤ 237) → t i = s i) : Rel μ b t code mk := by
  obtain ⟨h1, h2, h3, h4, h5, h6, h7, h8⟩ := h
  exact ⟨h1.cg (fun i hi => e i (by omega)), h2, h3.cg (fun i hi => e i (by omega)), h4.cg (fun i hi => e i (by omega)), h5.cg (fun i hi => e i (by omega)), h6.cg (fun i hi => e i (by omega)), h7.cg (fun i hi => e i (by omega)), by rw [e _ (by omega)]; exact h8⟩
/-- a call that changes the land's part alone -/
theorem Inv.land {s t : Row} {n n' mk : Nat} {code : PCo} (h : Inv s n code mk) (hL : InvL t n' 9999 9999) (hn : n ≤ n') (e : ∀ i, ¬ (i ≤ 31 ∨ (39 ≤ i ∧ i ≤ 80)) → t i = s i) : Inv t n' code mk :=
  ⟨hL, h.2.1.cg2 (fun i hi => e i (by omega)), h.2.2.1.cg hn (fun i hi => e i (by omega)), h.2.2.2.1.cg hn (fun i hi => e i (by omega)), h.2.2.2.2.1.cg hn (fun i hi => e i (by omega)), h.2.2.2.2.2.1.cg hn (fun i hi => e i (by omega)), h.2.2.2.2.2.2.cg (fun i hi => e i (by omega))⟩
theorem InvL.pgu {s : Row} {n Y M p l : Nat} (h : InvL s n Y M) (hp : p < 6) (hl : l ≤ 8) : InvL (upd s (51 + p) (nI l)) n Y M := by
  obtain ⟨h1, h2, h3, h4, h5, h6, h7⟩ := h
  refine ⟨by rw [un (by omega)]; exact h1, h2, by rw [un (by omega)]; exact h3, fun q hq => by rw [un (by omega), un (by omega)]; exact h4 q hq, fun q a hq => ⟨by rw [un (by omega)]; exact (h5 q a hq).1, by rw [un (by omega)]; exact (h5 q a hq).2.1, by rw [un (by omega)]; exact (h5 q a hq).2.2.1, fun j hj => by rw [un (by omega)]; exact (h5 q a hq).2.2.2 j hj⟩, fun q hq => by rw [un (by omega)]; exact h6 q hq, fun q hq => ⟨?_, by rw [un (by omega)]; exact (h7 q hq).2⟩⟩
  by_cases e : q = p
  · subst e; rw [us]; exact ⟨l, hl, rfl⟩
  · rw [un (by omega)]; exact (h7 q hq).1
theorem InvL.rwu {s : Row} {n Y M p q : Nat} {v : Int32} (h : InvL s n Y M) (hp : p < n) (hq : q < 4) : InvL (upd s (57 + (p * 4 + q)) v) n Y M := by
  obtain ⟨h1, h2, h3, h4, h5, h6, h7⟩ := h
  exact ⟨by rw [un (by omega)]; exact h1, h2, by rw [un (by omega)]; exact h3, fun r hr => by rw [un (by omega), un (by omega)]; exact h4 r hr, fun r a hr => ⟨by rw [un (by omega)]; exact (h5 r a hr).1, by rw [un (by omega)]; exact (h5 r a hr).2.1, by rw [un (by omega)]; exact (h5 r a hr).2.2.1, fun j hj => by rw [un (by omega)]; exact (h5 r a hr).2.2.2 j hj⟩, fun r hr => by rw [un (by omega)]; exact h6 r hr, fun r hr => by rw [un (by omega), un (by omega)]; exact h7 r hr⟩
theorem peg_inv {s : Row} {n mk : Nat} {code : PCo} (h : Inv s n code mk) (x l : Int32) : Inv (pegR s x l) n code mk := by
  unfold pegR
  split
  · rename_i hc
    obtain ⟨p, hp, rfl⟩ := isM_of h.1.1 h.1.2.1 hc.1
    obtain ⟨q, hq, rfl⟩ := isLn_of hc.2
    have := h.1.2.1
    rw [nN_nI (by omega)]
    exact h.land (h.1.pgu (by omega) hq) (Nat.le_refl _) (fun i hi => un (by omega))
  · exact h
theorem away_inv {s : Row} {n mk : Nat} {code : PCo} (h : Inv s n code mk) (x z : Int32) : Inv (awayR s x z) n code mk := by
  unfold awayR
  split
  · rename_i hc
    obtain ⟨p, hp, rfl⟩ := isM_of h.1.1 h.1.2.1 hc
    have := h.1.2.1
    rw [nN_nI (by omega)]
    exact h.land (h.1.awu hp (by split <;> simp)) (Nat.le_refl _) (fun i hi => un (by omega))
  · exact h
theorem lay_inv {s : Row} {n mk : Nat} {code : PCo} (h : Inv s n code mk) (x v : Int32) : Inv (layR s x v) n code mk := by
  unfold layR
  split
  · rename_i hc
    obtain ⟨p, hp, rfl⟩ := isSt_of hc.1
    rw [nN_nI (by omega)]
    exact h.land (h.1.up v (by omega)) (Nat.le_refl _) (fun i hi => un (by omega))
  · exact h
theorem row_inv {s : Row} {n mk : Nat} {code : PCo} (h : Inv s n code mk) (x k v : Int32) : Inv (rowR s x k v) n code mk := by
  unfold rowR
  split
  · rename_i hc
    obtain ⟨p, hp, rfl⟩ := isM_of h.1.1 h.1.2.1 hc.1.1
    obtain ⟨q, hq, rfl⟩ := ix_of (n := 4) (by decide) hc.1.2
    have := h.1.2.1
    rw [nN_nI (by omega), nN_nI (by omega)]
    exact h.land (h.1.rwu hp hq) (Nat.le_refl _) (fun i hi => un (by omega))
  · exact h
theorem pass_inv {s : Row} {n mk : Nat} {code : PCo} (h : Inv s n code mk) (x : Int32) : Inv (passR s code mk n x) n code mk := by
  unfold passR
  split
  · rename_i hc
    obtain ⟨k, hk, rfl⟩ := ix_of (n := 61) (by decide) ⟨hc.1.1, Int32.lt_of_le_of_lt hc.1.2 (by decide)⟩
    rw [nN_nI (by omega)]
    obtain ⟨y, hy, ey⟩ := h.1.2.2.1
    have hyk : y + k ≤ 9999 := by
      have h2 := hc.2
      rw [ey, nI_add] at h2
      exact Nat.not_lt.mp (fun z => h2 (nI_lt (a := 9999) z (by omega)))
    have h1 : InvL s n y 9999 := ⟨h.1.1, h.1.2.1, ⟨y, Nat.le_refl _, ey⟩, h.1.2.2.2⟩
    have h2 := (h1.evo (code := code) (mk := nI mk) k (by omega) (by omega)).cap (C := 9999) (by omega)
    exact h.land (h2.mn hyk (Nat.le_refl _)) (Nat.le_refl _) (fun i hi => by rw [capR_o (by omega), evo_o (by omega)])
  · exact h
theorem man_inv {s : Row} {n mk : Nat} {code : PCo} (h : Inv s n code mk) (k v l : Int32) : ∃ n', Inv (manR s k v l) n' code mk := by
  unfold manR
  split
  · rename_i hc
    obtain ⟨⟨hk, hl⟩, hv, hf⟩ := hc
    obtain ⟨k, hk, rfl⟩ := ix_of (n := 7) (by decide) hk
    obtain ⟨l, hl2, rfl⟩ := isLn_of hl
    have h6 : n < 6 := by
      have a := h.1.2.1
      have b := h.1.1
      exact Nat.lt_of_le_of_ne a (fun e => hf (by rw [b, e]; rfl))
    rw [h.1.1, nN_nI (by omega), nI_1]
    refine ⟨n + 1, h.land ?_ (by omega) (fun i hi => by rw [un (by omega), un (by omega), un (by omega), un (by omega)])⟩
    obtain ⟨h1, h2, h3, h4, h5, h6', h7⟩ := h.1
    refine ⟨us, by omega, by rw [un (by omega), un (by omega), un (by omega), un (by omega)]; exact h3, fun q hq => by rw [un (by omega), un (by omega), un (by omega), un (by omega), un (by omega), un (by omega), un (by omega), un (by omega)]; exact h4 q hq, fun q a hq => ?_, fun q hq => by rw [un (by omega), un (by omega), un (by omega), un (by omega)]; exact h6' q hq, fun q hq => ?_⟩
    · obtain ⟨z1, z2, z3, z4⟩ := h5 q (by omega) hq
      refine ⟨by rw [un (by omega), un (by omega), un (by omega), un (by omega)]; exact z1, by rw [un (by omega), un (by omega), un (by omega), un (by omega)]; exact z2, by rw [un (by omega), un (by omega), un (by omega), un (by omega)]; exact z3, fun j hj => by rw [un (by omega), un (by omega), un (by omega), un (by omega)]; exact z4 j hj⟩
    · by_cases e : q = n
      · subst e
        exact ⟨⟨l, hl2, by rw [un (by omega), us]⟩, k, by omega, by rw [un (by omega), un (by omega), un (by omega), us]⟩
      · obtain ⟨⟨l', a, b⟩, k', c, d⟩ := h7 q (by omega)
        exact ⟨⟨l', a, by rw [un (by omega), un (by omega), un (by omega), un (by omega)]; exact b⟩, k', c, by rw [un (by omega), un (by omega), un (by omega), un (by omega)]; exact d⟩
  · exact ⟨n, h⟩
theorem feed_inv {s : Row} {n mk : Nat} {code : PCo} (h : Inv s n code mk) (x : Int32) : Inv (feedR s x) n code mk := by
  unfold feedR
  split
  · rename_i hc
    obtain ⟨c, hc1, rfl⟩ := ix_of (n := 128) (by decide) ⟨hc.1.1, Int32.lt_of_le_of_lt hc.1.2 (by decide)⟩
    obtain ⟨k, hk, ek, hks⟩ := h.2.2.2.2.2.2
    have hk2 : k < 100 := Nat.lt_of_le_of_ne hk (fun e => hc.2 (by rw [ek, e]; rfl))
    rw [ek, nN_nI (by omega), nI_1]
    have o : ∀ i, i ≠ 37 → i ≠ 138 + k → upd (upd s (138 + k) (nI c)) 37 (nI (k + 1)) i = s i := fun i a b => by rw [un a, un b]
    refine ⟨h.1.cg (fun i hi => o i (by omega) (by omega)), h.2.1.cg2 (fun i hi => o i (by omega) (by omega)), h.2.2.1.cg (Nat.le_refl _) (fun i hi => o i (by omega) (by omega)), h.2.2.2.1.cg (Nat.le_refl _) (fun i hi => o i (by omega) (by omega)), h.2.2.2.2.1.cg (Nat.le_refl _) (fun i hi => o i (by omega) (by omega)), h.2.2.2.2.2.1.cg (Nat.le_refl _) (fun i hi => o i (by omega) (by omega)), k + 1, by omega, us, fun i hi => ?_⟩
    by_cases e : i = k
    · subst e; exact ⟨c, by omega, by rw [un (by omega), us]⟩
    · obtain ⟨a, b, d⟩ := hks i (by omega)
      exact ⟨a, b, by rw [o _ (by omega) (by omega)]; exact d⟩
  · exact h
theorem plead_inv {s : Row} {n mk : Nat} {code : PCo} (h : Inv s n code mk) (a b : Int32) : Inv (pleadR s a b) n code mk := by
  unfold pleadR
  split
  · rename_i hc
    obtain ⟨⟨ha, hb⟩, hab, hf⟩ := hc
    obtain ⟨a, ha1, rfl⟩ := isM_of h.1.1 h.1.2.1 ha
    obtain ⟨b, hb1, rfl⟩ := isM_of h.1.1 h.1.2.1 hb
    obtain ⟨k, hk, ek, hks⟩ := h.2.2.1
    have hk2 : k < 5 := Nat.lt_of_le_of_ne hk (fun e => hf (by rw [ek, e]; rfl))
    rw [ek, nN_nI (by omega), nI_1]
    have o : ∀ i, i ≠ 33 → i ≠ 81 + k → i ≠ 86 + k → upd (upd (upd s (81 + k) (nI a)) (86 + k) (nI b)) 33 (nI (k + 1)) i = s i := fun i x y z => by rw [un x, un z, un y]
    refine ⟨h.1.cg (fun i hi => o i (by omega) (by omega) (by omega)), h.2.1.cg2 (fun i hi => o i (by omega) (by omega) (by omega)), ⟨k + 1, by omega, us, fun i hi => ?_⟩, h.2.2.2.1.cg (Nat.le_refl _) (fun i hi => o i (by omega) (by omega) (by omega)), h.2.2.2.2.1.cg (Nat.le_refl _) (fun i hi => o i (by omega) (by omega) (by omega)), h.2.2.2.2.2.1.cg (Nat.le_refl _) (fun i hi => o i (by omega) (by omega) (by omega)), h.2.2.2.2.2.2.cg (fun i hi => o i (by omega) (by omega) (by omega))⟩
    by_cases e : i = k
    · subst e; exact ⟨⟨a, ha1, by rw [un (by omega), un (by omega), us]⟩, b, hb1, by rw [un (by omega), us]⟩
    · obtain ⟨⟨c, c1, c2⟩, d, d1, d2⟩ := hks i (by omega)
      exact ⟨⟨c, c1, by rw [o _ (by omega) (by omega) (by omega)]; exact c2⟩, d, d1, by rw [o _ (by omega) (by omega) (by omega)]; exact d2⟩
  · exact h
theorem see_inv {s : Row} {n mk : Nat} {code : PCo} (h : Inv s n code mk) (x t l : Int32) : Inv (seeR s x t l) n code mk := by
  unfold seeR
  split
  · refine ⟨h.1.cg (fun i hi => un (by omega)), h.2.1.cg2 (fun i hi => un (by omega)), h.2.2.1.cg (Nat.le_refl _) (fun i hi => un (by omega)), ⟨0, by omega, us, fun i hi => by omega⟩, h.2.2.2.2.1.cg (Nat.le_refl _) (fun i hi => un (by omega)), h.2.2.2.2.2.1.cg (Nat.le_refl _) (fun i hi => un (by omega)), h.2.2.2.2.2.2.cg (fun i hi => un (by omega))⟩
  · split
    · rename_i hc
      obtain ⟨⟨hx, ht, hl⟩, hf⟩ := hc
      obtain ⟨a, ha1, rfl⟩ := isM_of h.1.1 h.1.2.1 hx
      obtain ⟨t, ht1, rfl⟩ := ix_of (n := 13) (by decide) ⟨ht.1, Int32.lt_of_le_of_lt ht.2 (by decide)⟩
      obtain ⟨l, hl1, rfl⟩ := isLn_of hl
      obtain ⟨k, hk, ek, hks⟩ := h.2.2.2.1
      have hk2 : k < 5 := Nat.lt_of_le_of_ne hk (fun e => hf (by rw [ek, e]; rfl))
      rw [ek, nN_nI (by omega), nI_1]
      have o : ∀ i, i ≠ 34 → i ≠ 91 + k → i ≠ 96 + k → i ≠ 101 + k → upd (upd (upd (upd s (91 + k) (nI a)) (96 + k) (nI t)) (101 + k) (nI l)) 34 (nI (k + 1)) i = s i := fun i x y z w => by rw [un x, un w, un z, un y]
      refine ⟨h.1.cg (fun i hi => o i (by omega) (by omega) (by omega) (by omega)), h.2.1.cg2 (fun i hi => o i (by omega) (by omega) (by omega) (by omega)), h.2.2.1.cg (Nat.le_refl _) (fun i hi => o i (by omega) (by omega) (by omega) (by omega)), ⟨k + 1, by omega, us, fun i hi => ?_⟩, h.2.2.2.2.1.cg (Nat.le_refl _) (fun i hi => o i (by omega) (by omega) (by omega) (by omega)), h.2.2.2.2.2.1.cg (Nat.le_refl _) (fun i hi => o i (by omega) (by omega) (by omega) (by omega)), h.2.2.2.2.2.2.cg (fun i hi => o i (by omega) (by omega) (by omega) (by omega))⟩
      by_cases e : i = k
      · subst e; exact ⟨⟨a, ha1, by rw [un (by omega), un (by omega), un (by omega), us]⟩, ⟨t, by omega, by rw [un (by omega), un (by omega), us]⟩, l, hl1, by rw [un (by omega), us]⟩
      · obtain ⟨⟨c, c1, c2⟩, ⟨d, d1, d2⟩, f, f1, f2⟩ := hks i (by omega)
        exact ⟨⟨c, c1, by rw [o _ (by omega) (by omega) (by omega) (by omega)]; exact c2⟩, ⟨d, d1, by rw [o _ (by omega) (by omega) (by omega) (by omega)]; exact d2⟩, f, f1, by rw [o _ (by omega) (by omega) (by omega) (by omega)]; exact f2⟩
    · exact h
theorem book_inv {s : Row} {n mk : Nat} {code : PCo} (h : Inv s n code mk) (x l : Int32) : Inv (bookR s x l) n code mk := by
  unfold bookR
  split
  · refine ⟨h.1.cg (fun i hi => un (by omega)), h.2.1.cg2 (fun i hi => un (by omega)), h.2.2.1.cg (Nat.le_refl _) (fun i hi => un (by omega)), h.2.2.2.1.cg (Nat.le_refl _) (fun i hi => un (by omega)), h.2.2.2.2.1.cg (Nat.le_refl _) (fun i hi => un (by omega)), ⟨0, by omega, us, fun i hi => by omega⟩, h.2.2.2.2.2.2.cg (fun i hi => un (by omega))⟩
  · split
    · rename_i hc
      obtain ⟨⟨hx, hl⟩, hf⟩ := hc
      obtain ⟨a, ha1, rfl⟩ := isM_of h.1.1 h.1.2.1 hx
      obtain ⟨l, hl1, rfl⟩ := isLn_of hl
      obtain ⟨k, hk, ek, hks⟩ := h.2.2.2.2.2.1
      have hk2 : k < 8 := Nat.lt_of_le_of_ne hk (fun e => hf (by rw [ek, e]; rfl))
      rw [ek, nN_nI (by omega), nI_1]
      have o : ∀ i, i ≠ 36 → i ≠ 122 + k → i ≠ 130 + k → upd (upd (upd s (122 + k) (nI a)) (130 + k) (nI l)) 36 (nI (k + 1)) i = s i := fun i x y z => by rw [un x, un z, un y]
      refine ⟨h.1.cg (fun i hi => o i (by omega) (by omega) (by omega)), h.2.1.cg2 (fun i hi => o i (by omega) (by omega) (by omega)), h.2.2.1.cg (Nat.le_refl _) (fun i hi => o i (by omega) (by omega) (by omega)), h.2.2.2.1.cg (Nat.le_refl _) (fun i hi => o i (by omega) (by omega) (by omega)), h.2.2.2.2.1.cg (Nat.le_refl _) (fun i hi => o i (by omega) (by omega) (by omega)), ⟨k + 1, by omega, us, fun i hi => ?_⟩, h.2.2.2.2.2.2.cg (fun i hi => o i (by omega) (by omega) (by omega))⟩
      by_cases e : i = k
      · subst e; exact ⟨⟨a, ha1, by rw [un (by omega), un (by omega), us]⟩, l, hl1, by rw [un (by omega), us]⟩
      · obtain ⟨⟨c, c1, c2⟩, d, d1, d2⟩ := hks i (by omega)
        exact ⟨⟨c, c1, by rw [o _ (by omega) (by omega) (by omega)]; exact c2⟩, d, d1, by rw [o _ (by omega) (by omega) (by omega)]; exact d2⟩
    · exact h
theorem plan_inv {s : Row} {n mk : Nat} {code : PCo} (h : Inv s n code mk) (w x : Int32) : Inv (planR s w x) n code mk := by
  unfold planR
  split
  · refine ⟨h.1.cg (fun i hi => un (by omega)), h.2.1.cg2 (fun i hi => un (by omega)), h.2.2.1.cg (Nat.le_refl _) (fun i hi => un (by omega)), h.2.2.2.1.cg (Nat.le_refl _) (fun i hi => un (by omega)), ⟨0, by omega, us, fun i hi => by omega⟩, h.2.2.2.2.2.1.cg (Nat.le_refl _) (fun i hi => un (by omega)), h.2.2.2.2.2.2.cg (fun i hi => un (by omega))⟩
  · split
    · rename_i hc
      obtain ⟨ho, hf⟩ := hc
      have hw : ∃ v, v ≤ 3 ∧ w = nI v ∧ (v = 1 ∨ v = 2 → ∃ a, a < n ∧ x = nI a) ∧ (v = 3 → ∃ t, t < 12 ∧ x = nI t) := by
        rcases ho with e | ⟨e, hx⟩ | ⟨e, hx⟩
        · exact ⟨0, by omega, e, fun h => by omega, fun h => by omega⟩
        · rcases e with e | e
          · exact ⟨1, by omega, e, fun _ => isM_of h.1.1 h.1.2.1 hx, fun h => by omega⟩
          · exact ⟨2, by omega, e, fun _ => isM_of h.1.1 h.1.2.1 hx, fun h => by omega⟩
        · exact ⟨3, by omega, e, fun h => by omega, fun _ => isSt_of hx⟩
      obtain ⟨v, hv, rfl, hv1, hv2⟩ := hw
      obtain ⟨k, hk, ek, hks⟩ := h.2.2.2.2.1
      have hk2 : k < 8 := Nat.lt_of_le_of_ne hk (fun e => hf (by rw [ek, e]; rfl))
      rw [ek, nN_nI (by omega), nI_1]
      have o : ∀ i, i ≠ 35 → i ≠ 106 + k → i ≠ 114 + k → upd (upd (upd s (106 + k) (nI v)) (114 + k) x) 35 (nI (k + 1)) i = s i := fun i x y z => by rw [un x, un z, un y]
      refine ⟨h.1.cg (fun i hi => o i (by omega) (by omega) (by omega)), h.2.1.cg2 (fun i hi => o i (by omega) (by omega) (by omega)), h.2.2.1.cg (Nat.le_refl _) (fun i hi => o i (by omega) (by omega) (by omega)), h.2.2.2.1.cg (Nat.le_refl _) (fun i hi => o i (by omega) (by omega) (by omega)), ⟨k + 1, by omega, us, fun i hi => ?_⟩, h.2.2.2.2.2.1.cg (Nat.le_refl _) (fun i hi => o i (by omega) (by omega) (by omega)), h.2.2.2.2.2.2.cg (fun i hi => o i (by omega) (by omega) (by omega))⟩
      by_cases e : i = k
      · subst e
        have e1 : upd (upd (upd s (106 + i) (nI v)) (114 + i) x) 35 (nI (i + 1)) (114 + i) = x := by rw [un (by omega), us]
        exact ⟨v, hv, by rw [un (by omega), un (by omega), us], fun h => by rw [e1]; exact hv1 h, fun h => by rw [e1]; exact hv2 h⟩
      · have hik : i < k := Nat.lt_of_le_of_ne (Nat.le_of_lt_succ hi) e
        clear hv1 hv2
        have z1 := o (106 + i) (by omega) (by omega) (by omega)
        have z2 := o (114 + i) (by omega) (by omega) (by omega)
        obtain ⟨c, c1, c2, c3, c4⟩ := hks i hik
        exact ⟨c, c1, z1.trans c2, fun h => by rw [z2]; exact c3 h, fun h => by rw [z2]; exact c4 h⟩
    · exact h
/-! the whole of it -/
def ImG (μ : Mem) : Prop := (μ 0 2 = 0 ∧ μ 67 4 = 0) ∨ (μ 0 2 = 1 ∧ μ 67 4 = 1 ∧ ∃ (n : Nat) (code : PCo) (mk : Nat), Inv (μ 69) n code mk ∧ Rel μ 22 (μ 69) code mk)
def TrG (μ : Mem) : Prop := ∃ l, TrAt μ 65 1 66 l ∧ TrAt μ 67 18 76 l
def GI (μ : Mem) : Prop := (∃ (n : Nat) (code : PCo) (mk : Nat), Inv (μ 68) n code mk ∧ Rel μ 1 (μ 68) code mk) ∧ Wid μ 22 ∧ ImG μ ∧ TrG μ
theorem Wid.eq {μ m : Mem} (h : Wid μ 22) (e : ∀ q, 22 ≤ q → q ≤ 42 → m q = μ q) : Wid m 22 := by
  unfold Wid
  rw [e 33 (by omega) (by omega), e 35 (by omega) (by omega), e 37 (by omega) (by omega), e 39 (by omega) (by omega), e 41 (by omega) (by omega)]
  exact h
theorem ImG.eq {μ m : Mem} (h : ImG μ) (e : ∀ q, 22 ≤ q → q ≤ 42 → m q = μ q) (e0 : m 0 2 = μ 0 2) (e1 : m 67 4 = μ 67 4) (e2 : m 69 = μ 69) : ImG m := by
  unfold ImG
  rw [e0, e1, e2]
  refine h.imp id (fun h => ⟨h.1, h.2.1, ?_⟩)
  obtain ⟨n, code, mk, h1, h2⟩ := h.2.2
  exact ⟨n, code, mk, h1, h2.mo (fun q a b => e q a (by omega))⟩
theorem TrG.eq {μ m : Mem} (h : TrG μ) (e1 : m 65 1 = μ 65 1) (e2 : m 66 = μ 66) (e3 : m 67 18 = μ 67 18) (e4 : m 76 = μ 76) : TrG m := by
  obtain ⟨l, h1, h2⟩ := h
  exact ⟨l, h1.mo e1 (fun i => by rw [e2]), h2.mo e3 (fun i => by rw [e4])⟩
theorem gi_step {μ m1 m2 : Mem} {n mk : Nat} {code : PCo} (hW : Wid μ 22) (hIm : ImG μ) (hT : TrG μ) (h1 : Same PB μ m1) (h2 : Same MM m1 m2) (hR : Rel m1 1 (m2 68) code mk) (hI : Inv (m2 68) n code mk) : GI m2 := by
  have e : ∀ q i, ¬ PB q i → ¬ MM q i → m2 q i = μ q i := fun q i a b => (h2 q i b).trans (h1 q i a)
  have er : ∀ q, 22 ≤ q → q ≤ 42 → m2 q = μ q := fun q a b => funext fun i => e q i (by unfold PB; omega) (by unfold MM; omega)
  exact ⟨⟨n, code, mk, hI, hR.mo (fun q a b => funext fun i => h2 q i (by unfold MM; omega))⟩, hW.eq er, hIm.eq er (e _ _ (by unfold PB; omega) (by unfold MM; omega)) (e _ _ (by unfold PB; omega) (by unfold MM; omega)) (funext fun i => e _ _ (by unfold PB; omega) (by unfold MM; omega)), hT.eq (e _ _ (by unfold PB; omega) (by unfold MM; omega)) (funext fun i => e _ _ (by unfold PB; omega) (by unfold MM; omega)) (e _ _ (by unfold PB; omega) (by unfold MM; omega)) (funext fun i => e _ _ (by unfold PB; omega) (by unfold MM; omega))⟩
theorem MQ_MM {μ m : Mem} (h : Same MQr μ m) : Same MM μ m := h.mo (fun q i h => by unfold MQr at h; unfold MM; omega)
theorem SC_PB {μ m : Mem} (h : Same (fun q _ => 43 ≤ q ∧ q ≤ 64) μ m) : Same PB μ m := h.mo (fun q i h => Or.inr h)
theorem gi_q {μ m1 m2 : Mem} {n mk : Nat} {code : PCo} (hW : Wid μ 22) (hIm : ImG μ) (hT : TrG μ) (hI : Inv (μ 68) n code mk) (hR : Rel μ 1 (μ 68) code mk) (h1 : Same (fun q _ => 43 ≤ q ∧ q ≤ 64) μ m1) (h2 : Same MQr m1 m2) : GI m2 := by
  have e : m2 68 = μ 68 := funext fun i => (h2 _ _ (by unfold MQr; omega)).trans (h1 _ _ (by omega))
  exact gi_step hW hIm hT (SC_PB h1) (MQ_MM h2) (by rw [e]; exact hR.sc h1) (by rw [e]; exact hI)
theorem PB68 {μ m : Mem} (h : Same PB μ m) : m 68 = μ 68 := funext fun i => h _ _ (by unfold PB; omega)
theorem SC68 {μ m : Mem} (h : Same (fun q _ => 43 ≤ q ∧ q ≤ 64) μ m) : m 68 = μ 68 := funext fun i => h _ _ (by omega)
theorem gi_act {μ m1 m2 : Mem} {l : List Int32} {n mk : Nat} {code : PCo} (hW : Wid μ 22) (hIm : ImG μ) (hI : Inv (μ 68) n code mk) (hR : Rel μ 1 (μ 68) code mk) (h1 : Same DG μ m1) (t1 : TrAt m1 65 1 66 l) (h2 : Same DX m1 m2) (t2 : TrAt m2 67 18 76 l) : GI m2 := by
  have e : ∀ q i, ¬ DG q i → ¬ DX q i → m2 q i = μ q i := fun q i a b => (h2 q i b).trans (h1 q i a)
  have eq : ∀ q, q ≠ 65 → q ≠ 66 → q ≠ 67 → q ≠ 76 → m2 q = μ q := fun q a b c d => funext fun i => e q i (by unfold DG; omega) (by unfold DX; omega)
  refine ⟨⟨n, code, mk, by rw [eq 68 (by decide) (by decide) (by decide) (by decide)]; exact hI, by rw [eq 68 (by decide) (by decide) (by decide) (by decide)]; exact hR.mo (fun q a b => eq q (by omega) (by omega) (by omega) (by omega))⟩, hW.eq (fun q a b => eq q (by omega) (by omega) (by omega) (by omega)), hIm.eq (fun q a b => eq q (by omega) (by omega) (by omega) (by omega)) (by rw [eq 0 (by decide) (by decide) (by decide) (by decide)]) (e _ _ (by unfold DG; omega) (by unfold DX; omega)) (eq 69 (by decide) (by decide) (by decide) (by decide)), l, t1.mo (h2 _ _ (by unfold DX; omega)) (fun i => h2 _ _ (by unfold DX; omega)), t2⟩
theorem gi_image {μ m1 m2 : Mem} {n mk : Nat} {code : PCo} (hT : TrG μ) (hI : Inv (μ 68) n code mk) (h1 : Same (IM 22) μ m1) (hR1 : Rel m1 1 (μ 68) code mk) (hR2 : Rel m1 22 (μ 68) code mk) (e1 : m1 0 2 = 1) (h2 : Same IMF m1 m2) (hk : ∀ k, k < 948 → m2 69 k = (μ 68) k) (e2 : m2 67 4 = 1) : GI m2 := by
  have eq : ∀ q, q ≠ 67 → q ≠ 69 → m2 q = m1 q := fun q a b => funext fun i => h2 q i (by unfold IMF; omega)
  have e68 : m2 68 = μ 68 := (eq 68 (by decide) (by decide)).trans (funext fun i => h1 _ _ (by unfold IM StF; omega))
  refine ⟨⟨n, code, mk, by rw [e68]; exact hI, by rw [e68]; exact hR1.mo (fun q a b => eq q (by omega) (by omega))⟩, hR2.wid.eq (fun q a b => eq q (by omega) (by omega)), Or.inr ⟨by rw [eq 0 (by decide) (by decide)]; exact e1, e2, n, code, mk, hI.cg hk, (hR2.mo (fun q a b => eq q (by omega) (by omega))).cg (fun i hi => hk i (by omega))⟩, hT.eq ?_ ?_ ?_ ?_⟩
  · rw [eq 65 (by decide) (by decide)]; exact h1 _ _ (by unfold IM StF; omega)
  · rw [eq 66 (by decide) (by decide)]; exact funext fun i => h1 _ _ (by unfold IM StF; omega)
  · exact (h2 _ _ (by unfold IMF; omega)).trans (h1 _ _ (by unfold IM StF; omega))
  · rw [eq 76 (by decide) (by decide)]; exact funext fun i => h1 _ _ (by unfold IM StF; omega)
theorem gi_undo {μ m1 m2 : Mem} {n mk : Nat} {code : PCo} (hT : TrG μ) (e0 : μ 0 2 = 1) (e4 : μ 67 4 = 1) (hI : Inv (μ 69) n code mk) (h1 : Same (StF 1) μ m1) (hR1 : Rel m1 1 (μ 69) code mk) (hR2 : Rel m1 22 (μ 69) code mk) (h2 : Same UNF m1 m2) (hk : ∀ k, k < 948 → m2 68 k = m1 69 k) : GI m2 := by
  have eq : ∀ q, q ≠ 68 → m2 q = m1 q := fun q a => funext fun i => h2 q i (by unfold UNF; omega)
  have s : ∀ q i, ¬ (1 ≤ q ∧ q ≤ 21) → m1 q i = μ q i := fun q i hq => h1 q i (by unfold StF; omega)
  have e69 : m1 69 = μ 69 := funext fun i => s _ _ (by omega)
  rw [e69] at hk
  refine ⟨⟨n, code, mk, hI.cg hk, (hR1.mo (fun q a b => eq q (by omega))).cg (fun i hi => hk i (by omega))⟩, hR2.wid.eq (fun q a b => eq q (by omega)), Or.inr ⟨?_, ?_, n, code, mk, ?_, ?_⟩, hT.eq ?_ ?_ ?_ ?_⟩
  · rw [eq 0 (by decide), s _ _ (by omega)]; exact e0
  · rw [eq 67 (by decide), s _ _ (by omega)]; exact e4
  · rw [eq 69 (by decide), e69]; exact hI
  · rw [eq 69 (by decide), e69]; exact hR2.mo (fun q a b => eq q (by omega))
  · rw [eq 65 (by decide)]; exact s _ _ (by omega)
  · rw [eq 66 (by decide)]; exact funext fun i => s _ _ (by omega)
  · rw [eq 67 (by decide)]; exact s _ _ (by omega)
  · rw [eq 76 (by decide)]; exact funext fun i => s _ _ (by omega)
theorem parish_inv {s t : Row} {n mk : Nat} {code : PCo} (h : Inv s n code mk) (hP : PRow s t) : Inv t n (parC s code) (parM s mk) ∧ ∀ i, i ≤ 37 ∨ (39 ≤ i ∧ i ≤ 237) → t i = parR s i := by
  obtain ⟨np, hnp, e32, hh⟩ := h.2.1.1
  by_cases h5 : s 32 = 5
  · have e := hP.1 h5
    subst e
    unfold parC parM parR
    rw [if_pos h5, if_pos h5, if_pos h5]
    exact ⟨h, fun _ _ => rfl⟩
  · have hlt : np < 5 := Nat.lt_of_le_of_ne hnp (fun e => h5 (by rw [e32, e]; rfl))
    obtain ⟨p1, p2, p3⟩ := hP.2 np e32 hlt
    have pr : ∀ i, i ≤ 37 ∨ (39 ≤ i ∧ i ≤ 237) → t i = parR s i := fun i hi => p1 i (by omega) (by omega) (by omega) (by omega)
    refine ⟨?_, pr⟩
    have t37 : t 37 = 0 := by
      rw [pr 37 (by omega)]
      unfold parR
      rw [if_neg h5]
      split
      · rw [un (by decide), us]
      · rw [us]
    have hT : InvT t := ⟨0, by omega, t37, fun i hi => by omega⟩
    have po : ∀ i, i ≠ 32 → i ≠ 37 → i ≤ 36 ∨ (39 ≤ i ∧ i ≤ 237) → t i = s i := fun i a b hi => by
      rw [pr i (by omega)]; unfold parR; rw [if_neg h5]
      split
      · rw [un a, un b]
      · rw [un b]
    have hrest : ∀ {c : PCo} {k : Nat}, InvP t c k → Inv t n c k := fun hp => ⟨h.1.cg (fun i hi => po i (by omega) (by omega) (by omega)), hp, h.2.2.1.cg (Nat.le_refl _) (fun i hi => po i (by omega) (by omega) (by omega)), h.2.2.2.1.cg (Nat.le_refl _) (fun i hi => po i (by omega) (by omega) (by omega)), h.2.2.2.2.1.cg (Nat.le_refl _) (fun i hi => po i (by omega) (by omega) (by omega)), h.2.2.2.2.2.1.cg (Nat.le_refl _) (fun i hi => po i (by omega) (by omega) (by omega)), hT⟩
    unfold parC parM
    rw [if_neg h5, if_neg h5]
    by_cases ho : (rdS s).1 = true
    · rw [if_pos ho, if_pos ho]
      obtain ⟨q1, q2, q3, q4⟩ := p2 ho
      refine hrest ⟨⟨np + 1, by omega, ?_, Or.inr ⟨np, by omega, q1, q2, q3, q4⟩⟩, rdS_ok h.2.2.2.2.2.2 ho⟩
      rw [pr 32 (by omega)]; unfold parR; rw [if_neg h5, if_pos ho, us, e32, nI_1]
    · rw [if_neg ho, if_neg ho]
      have p38 := p3 ho
      have t32 : t 32 = s 32 := by rw [pr 32 (by omega)]; unfold parR; rw [if_neg h5, if_neg ho, un (by decide)]
      refine hrest ⟨⟨np, hnp, by rw [t32]; exact e32, ?_⟩, h.2.1.2⟩
      rcases hh with ⟨a, b, c⟩ | ⟨k, a, b, c, d, f⟩
      · exact Or.inl ⟨by rw [p38]; exact a, b, c⟩
      · have hle := h.2.1.2.1
        have pz : ∀ i, 238 ≤ i → i ≠ 238 + np → i ≠ 243 + np → ¬ (248 + 140 * np ≤ i ∧ i < 248 + 140 * np + 140) → t i = s i := fun i a b c d => by
          rw [p1 i (by omega) b c d]; unfold parR; rw [if_neg h5, if_neg ho, un (by omega)]
        exact Or.inr ⟨k, a, by rw [p38]; exact b, by rw [pz _ (by omega) (by omega) (by omega) (by omega)]; exact c, by rw [pz _ (by omega) (by omega) (by omega) (by omega)]; exact d, fun i q hq => by
          have := (List.getElem?_eq_some_iff.mp hq).1
          rw [pz _ (by omega) (by omega) (by omega) (by omega)]; exact f i q hq⟩
