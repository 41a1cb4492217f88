/-! ===== what each call answers, and the row behind it ===== -/
theorem bI_cg {p q : Prop} [Decidable p] [Decidable q] (h : p ↔ q) : bI p = bI q := by
  by_cases hp : p
  · rw [bI_t hp, bI_t (h.mp hp)]
  · rw [bI_f hp, bI_f (fun z => hp (h.mpr z))]
theorem RelL.cg {μ : Mem} {k : Nat} {s s' : Row} (h : RelL μ k s) (e : ∀ i, i ≤ 31 ∨ (39 ≤ i ∧ i ≤ 80) → s' i = s i) : RelL μ k s' := by
  obtain ⟨h1, h2, h3, h4, h5, h6, h7⟩ := h
  refine ⟨by rw [e 0 (by omega)]; exact h1, by rw [e 31 (by omega)]; exact h2, ?_, ?_, fun x hx => by rw [e _ (by omega)]; exact h5 x hx, fun p hp => by rw [e _ (by omega), e _ (by omega), e _ (by omega), e _ (by omega)]; exact h6 p hp, fun j hj => by rw [e _ (by omega)]; exact h7 j hj⟩
  · rw [h3]; exact bitsI_congr (fun p hp => by unfold naS; rw [e (7 + p) (by omega)])
  · rw [h4]; exact bitsI_congr (fun p hp => by unfold beS; rw [e (1 + p) (by omega)])
theorem RelT.cg {μ : Mem} {b : Nat} {s s' : Row} (h : RelT μ b s) (e : ∀ i, i = 37 ∨ (138 ≤ i ∧ i ≤ 237) → s' i = s i) : RelT μ b s' := ⟨h.1, by rw [e 37 (by omega)]; exact h.2.1, fun i hi => by rw [e _ (by omega)]; exact h.2.2 i hi⟩
theorem RelC.cg {μ : Mem} {b : Nat} {s s' : Row} (h : RelC μ b s) (e : ∀ i, i = 33 ∨ (81 ≤ i ∧ i ≤ 90) → s' i = s i) : RelC μ b s' := ⟨h.1, by rw [e 33 (by omega)]; exact h.2.1, fun i hi => by rw [e _ (by omega), e _ (by omega)]; exact h.2.2 i hi⟩
theorem RelS.cg {μ : Mem} {b : Nat} {s s' : Row} (h : RelS μ b s) (e : ∀ i, i = 34 ∨ (91 ≤ i ∧ i ≤ 105) → s' i = s i) : RelS μ b s' := ⟨h.1, by rw [e 34 (by omega)]; exact h.2.1, fun i hi => by rw [e _ (by omega), e _ (by omega), e _ (by omega)]; exact h.2.2 i hi⟩
theorem RelW.cg {μ : Mem} {b : Nat} {s s' : Row} (h : RelW μ b s) (e : ∀ i, i = 35 ∨ (106 ≤ i ∧ i ≤ 121) → s' i = s i) : RelW μ b s' := ⟨h.1, by rw [e 35 (by omega)]; exact h.2.1, fun i hi => by rw [e _ (by omega), e _ (by omega)]; exact h.2.2 i hi⟩
theorem RelB.cg {μ : Mem} {b : Nat} {s s' : Row} (h : RelB μ b s) (e : ∀ i, i = 36 ∨ (122 ≤ i ∧ i ≤ 137) → s' i = s i) : RelB μ b s' := ⟨h.1, by rw [e 36 (by omega)]; exact h.2.1, fun i hi => by rw [e _ (by omega), e _ (by omega)]; exact h.2.2 i hi⟩
theorem un {f : Row} {k j : Nat} {x : Int32} (h : j ≠ k) : upd f k x j = f j := if_neg h
theorem us {f : Row} {k : Nat} {x : Int32} : upd f k x k = x := if_pos rfl
def nN (x : Int32) : Nat := x.toNatClampNeg
theorem nN_nI {p : Nat} (h : p < 2 ^ 31) : nN (nI p) = p := nI_clamp h
def isM (s : Row) (x : Int32) : Prop := 0 ≤ x ∧ x < s 31
def isLn (x : Int32) : Prop := 0 ≤ x ∧ x < 9
def isSt (x : Int32) : Prop := 0 ≤ x ∧ x < 12
def isDg (x : Int32) : Prop := 0 ≤ x ∧ x ≤ 9
theorem isM_of {s : Row} {n : Nat} (hn : s 31 = nI n) (h6 : n ≤ 6) {x : Int32} (h : isM s x) : ∃ p, p < n ∧ x = nI p := ix_of (by omega) (by unfold isM at h; rw [hn] at h; exact h)
theorem isLn_of {x : Int32} (h : isLn x) : ∃ l, l ≤ 8 ∧ x = nI l := by
  obtain ⟨l, h1, h2⟩ := ix_of (n := 9) (by decide) h
  exact ⟨l, by omega, h2⟩
theorem isSt_of {x : Int32} (h : isSt x) : ∃ l, l < 12 ∧ x = nI l := ix_of (n := 12) (by decide) h

theorem Rel.pL {μ μ' : Mem} {b : Nat} {s s' : Row} {code : PCo} {mk : Nat} (h : Rel μ b s code mk) (hnew : RelL μ' (b + 1) s') (hm : ∀ q, b ≤ q → q ≤ b + 20 → ¬ (b + 1 ≤ q ∧ q ≤ b + 7) → μ' q = μ q) (hs : ∀ i, ¬ (i ≤ 31 ∨ (39 ≤ i ∧ i ≤ 80)) → s' i = s i) : Rel μ' b s' code mk := by
  obtain ⟨h1, ⟨h2, h3⟩, h4, h5, h6, h7, h8, h9⟩ := h
  exact ⟨hnew, ⟨h2.mo (hm _ (by omega) (by omega) (by omega)) (hm _ (by omega) (by omega) (by omega)) (hm _ (by omega) (by omega) (by omega)), by rw [hm _ (by omega) (by omega) (by omega)]; exact h3⟩, RelT.cg (by unfold RelT; rw [hm _ (by omega) (by omega) (by omega), hm _ (by omega) (by omega) (by omega)]; exact h4) (fun i hi => hs i (by omega)), RelC.cg (by unfold RelC; rw [hm _ (by omega) (by omega) (by omega), hm _ (by omega) (by omega) (by omega)]; exact h5) (fun i hi => hs i (by omega)), RelS.cg (by unfold RelS; rw [hm _ (by omega) (by omega) (by omega), hm _ (by omega) (by omega) (by omega)]; exact h6) (fun i hi => hs i (by omega)), RelW.cg (by unfold RelW; rw [hm _ (by omega) (by omega) (by omega), hm _ (by omega) (by omega) (by omega)]; exact h7) (fun i hi => hs i (by omega)), RelB.cg (by unfold RelB; rw [hm _ (by omega) (by omega) (by omega), hm _ (by omega) (by omega) (by omega)]; exact h8) (fun i hi => hs i (by omega)), by rw [hm _ (by omega) (by omega) (by omega), hs 32 (by omega)]; exact h9⟩
theorem Rel.pT {μ μ' : Mem} {b : Nat} {s s' : Row} {code : PCo} {mk : Nat} (h : Rel μ b s code mk) (hnew : RelT μ' b s') (hm : ∀ q, b ≤ q → q ≤ b + 20 → ¬ (b + 11 ≤ q ∧ q ≤ b + 12) → μ' q = μ q) (hs : ∀ i, ¬ (i = 37 ∨ (138 ≤ i ∧ i ≤ 237)) → s' i = s i) : Rel μ' b s' code mk := by
  obtain ⟨h1, ⟨h2, h3⟩, h4, h5, h6, h7, h8, h9⟩ := h
  exact ⟨(h1.mo (fun q a c => hm q (by omega) (by omega) (by omega))).cg (fun i hi => hs i (by omega)), ⟨h2.mo (hm _ (by omega) (by omega) (by omega)) (hm _ (by omega) (by omega) (by omega)) (hm _ (by omega) (by omega) (by omega)), by rw [hm _ (by omega) (by omega) (by omega)]; exact h3⟩, hnew, RelC.cg (by unfold RelC; rw [hm _ (by omega) (by omega) (by omega), hm _ (by omega) (by omega) (by omega)]; exact h5) (fun i hi => hs i (by omega)), RelS.cg (by unfold RelS; rw [hm _ (by omega) (by omega) (by omega), hm _ (by omega) (by omega) (by omega)]; exact h6) (fun i hi => hs i (by omega)), RelW.cg (by unfold RelW; rw [hm _ (by omega) (by omega) (by omega), hm _ (by omega) (by omega) (by omega)]; exact h7) (fun i hi => hs i (by omega)), RelB.cg (by unfold RelB; rw [hm _ (by omega) (by omega) (by omega), hm _ (by omega) (by omega) (by omega)]; exact h8) (fun i hi => hs i (by omega)), by rw [hm _ (by omega) (by omega) (by omega), hs 32 (by omega)]; exact h9⟩
theorem Rel.pC {μ μ' : Mem} {b : Nat} {s s' : Row} {code : PCo} {mk : Nat} (h : Rel μ b s code mk) (hnew : RelC μ' b s') (hm : ∀ q, b ≤ q → q ≤ b + 20 → ¬ (b + 13 ≤ q ∧ q ≤ b + 14) → μ' q = μ q) (hs : ∀ i, ¬ (i = 33 ∨ (81 ≤ i ∧ i ≤ 90)) → s' i = s i) : Rel μ' b s' code mk := by
  obtain ⟨h1, ⟨h2, h3⟩, h4, h5, h6, h7, h8, h9⟩ := h
  exact ⟨(h1.mo (fun q a c => hm q (by omega) (by omega) (by omega))).cg (fun i hi => hs i (by omega)), ⟨h2.mo (hm _ (by omega) (by omega) (by omega)) (hm _ (by omega) (by omega) (by omega)) (hm _ (by omega) (by omega) (by omega)), by rw [hm _ (by omega) (by omega) (by omega)]; exact h3⟩, RelT.cg (by unfold RelT; rw [hm _ (by omega) (by omega) (by omega), hm _ (by omega) (by omega) (by omega)]; exact h4) (fun i hi => hs i (by omega)), hnew, RelS.cg (by unfold RelS; rw [hm _ (by omega) (by omega) (by omega), hm _ (by omega) (by omega) (by omega)]; exact h6) (fun i hi => hs i (by omega)), RelW.cg (by unfold RelW; rw [hm _ (by omega) (by omega) (by omega), hm _ (by omega) (by omega) (by omega)]; exact h7) (fun i hi => hs i (by omega)), RelB.cg (by unfold RelB; rw [hm _ (by omega) (by omega) (by omega), hm _ (by omega) (by omega) (by omega)]; exact h8) (fun i hi => hs i (by omega)), by rw [hm _ (by omega) (by omega) (by omega), hs 32 (by omega)]; exact h9⟩
theorem Rel.pS {μ μ' : Mem} {b : Nat} {s s' : Row} {code : PCo} {mk : Nat} (h : Rel μ b s code mk) (hnew : RelS μ' b s') (hm : ∀ q, b ≤ q → q ≤ b + 20 → ¬ (b + 15 ≤ q ∧ q ≤ b + 16) → μ' q = μ q) (hs : ∀ i, ¬ (i = 34 ∨ (91 ≤ i ∧ i ≤ 105)) → s' i = s i) : Rel μ' b s' code mk := by
  obtain ⟨h1, ⟨h2, h3⟩, h4, h5, h6, h7, h8, h9⟩ := h
  exact ⟨(h1.mo (fun q a c => hm q (by omega) (by omega) (by omega))).cg (fun i hi => hs i (by omega)), ⟨h2.mo (hm _ (by omega) (by omega) (by omega)) (hm _ (by omega) (by omega) (by omega)) (hm _ (by omega) (by omega) (by omega)), by rw [hm _ (by omega) (by omega) (by omega)]; exact h3⟩, RelT.cg (by unfold RelT; rw [hm _ (by omega) (by omega) (by omega), hm _ (by omega) (by omega) (by omega)]; exact h4) (fun i hi => hs i (by omega)), RelC.cg (by unfold RelC; rw [hm _ (by omega) (by omega) (by omega), hm _ (by omega) (by omega) (by omega)]; exact h5) (fun i hi => hs i (by omega)), hnew, RelW.cg (by unfold RelW; rw [hm _ (by omega) (by omega) (by omega), hm _ (by omega) (by omega) (by omega)]; exact h7) (fun i hi => hs i (by omega)), RelB.cg (by unfold RelB; rw [hm _ (by omega) (by omega) (by omega), hm _ (by omega) (by omega) (by omega)]; exact h8) (fun i hi => hs i (by omega)), by rw [hm _ (by omega) (by omega) (by omega), hs 32 (by omega)]; exact h9⟩
theorem Rel.pW {μ μ' : Mem} {b : Nat} {s s' : Row} {code : PCo} {mk : Nat} (h : Rel μ b s code mk) (hnew : RelW μ' b s') (hm : ∀ q, b ≤ q → q ≤ b + 20 → ¬ (b + 17 ≤ q ∧ q ≤ b + 18) → μ' q = μ q) (hs : ∀ i, ¬ (i = 35 ∨ (106 ≤ i ∧ i ≤ 121)) → s' i = s i) : Rel μ' b s' code mk := by
  obtain ⟨h1, ⟨h2, h3⟩, h4, h5, h6, h7, h8, h9⟩ := h
  exact ⟨(h1.mo (fun q a c => hm q (by omega) (by omega) (by omega))).cg (fun i hi => hs i (by omega)), ⟨h2.mo (hm _ (by omega) (by omega) (by omega)) (hm _ (by omega) (by omega) (by omega)) (hm _ (by omega) (by omega) (by omega)), by rw [hm _ (by omega) (by omega) (by omega)]; exact h3⟩, RelT.cg (by unfold RelT; rw [hm _ (by omega) (by omega) (by omega), hm _ (by omega) (by omega) (by omega)]; exact h4) (fun i hi => hs i (by omega)), RelC.cg (by unfold RelC; rw [hm _ (by omega) (by omega) (by omega), hm _ (by omega) (by omega) (by omega)]; exact h5) (fun i hi => hs i (by omega)), RelS.cg (by unfold RelS; rw [hm _ (by omega) (by omega) (by omega), hm _ (by omega) (by omega) (by omega)]; exact h6) (fun i hi => hs i (by omega)), hnew, RelB.cg (by unfold RelB; rw [hm _ (by omega) (by omega) (by omega), hm _ (by omega) (by omega) (by omega)]; exact h8) (fun i hi => hs i (by omega)), by rw [hm _ (by omega) (by omega) (by omega), hs 32 (by omega)]; exact h9⟩
theorem Rel.pB {μ μ' : Mem} {b : Nat} {s s' : Row} {code : PCo} {mk : Nat} (h : Rel μ b s code mk) (hnew : RelB μ' b s') (hm : ∀ q, b ≤ q → q ≤ b + 20 → ¬ (b + 19 ≤ q ∧ q ≤ b + 20) → μ' q = μ q) (hs : ∀ i, ¬ (i = 36 ∨ (122 ≤ i ∧ i ≤ 137)) → s' i = s i) : Rel μ' b s' code mk := by
  obtain ⟨h1, ⟨h2, h3⟩, h4, h5, h6, h7, h8, h9⟩ := h
  exact ⟨(h1.mo (fun q a c => hm q (by omega) (by omega) (by omega))).cg (fun i hi => hs i (by omega)), ⟨h2.mo (hm _ (by omega) (by omega) (by omega)) (hm _ (by omega) (by omega) (by omega)) (hm _ (by omega) (by omega) (by omega)), by rw [hm _ (by omega) (by omega) (by omega)]; exact h3⟩, RelT.cg (by unfold RelT; rw [hm _ (by omega) (by omega) (by omega), hm _ (by omega) (by omega) (by omega)]; exact h4) (fun i hi => hs i (by omega)), RelC.cg (by unfold RelC; rw [hm _ (by omega) (by omega) (by omega), hm _ (by omega) (by omega) (by omega)]; exact h5) (fun i hi => hs i (by omega)), RelS.cg (by unfold RelS; rw [hm _ (by omega) (by omega) (by omega), hm _ (by omega) (by omega) (by omega)]; exact h6) (fun i hi => hs i (by omega)), RelW.cg (by unfold RelW; rw [hm _ (by omega) (by omega) (by omega), hm _ (by omega) (by omega) (by omega)]; exact h7) (fun i hi => hs i (by omega)), hnew, by rw [hm _ (by omega) (by omega) (by omega), hs 32 (by omega)]; exact h9⟩
theorem RelL.fd {μ : Mem} {k : Nat} {s : Row} (h : RelL μ k s) {p : Nat} (hp : p < 12) (v : Int32) : RelL (st μ (k + 1) p v) k (upd s (19 + p) v) := by
  have hm : ∀ q, ¬ q = k + 1 → (st μ (k + 1) p v) q = μ q := fun q h => st_ne _ _ h
  obtain ⟨a1, a2, a3, a4, a5, a6, a7⟩ := h
  refine ⟨by rw [hm _ (by omega), un (by omega)]; exact a1, by rw [hm _ (by omega), un (by omega)]; exact a2, by rw [hm _ (by omega), a3]; exact bitsI_congr (fun y hy => by unfold naS; rw [un (by omega)]), by rw [hm _ (by omega), a4]; exact bitsI_congr (fun y hy => by unfold beS; rw [un (by omega)]), fun y hy => ?_, fun y hy => ?_, fun y hy => ?_⟩
  · by_cases e : y = p
    · subst e; rw [us]; exact st_eq _ _ _ _
    · rw [un (by omega), st_at, if_neg (by omega)]; exact a5 y hy
  · obtain ⟨b1, b2, b3, b4⟩ := a6 y hy
    refine ⟨by rw [hm _ (by omega), un (by omega)]; exact b1, by rw [hm _ (by omega), un (by omega)]; exact b2, by rw [hm _ (by omega), un (by omega)]; exact b3, by rw [hm _ (by omega), un (by omega)]; exact b4⟩
  · rw [hm _ (by omega), un (by omega)]; exact a7 y hy
theorem RelL.kd {μ : Mem} {k : Nat} {s : Row} (h : RelL μ k s) {p : Nat} (hp : p < 6) (v : Int32) : RelL (st μ (k + 2) p v) k (upd s (39 + p) v) := by
  have hm : ∀ q, ¬ q = k + 2 → (st μ (k + 2) p v) q = μ q := fun q h => st_ne _ _ h
  obtain ⟨a1, a2, a3, a4, a5, a6, a7⟩ := h
  refine ⟨by rw [hm _ (by omega), un (by omega)]; exact a1, by rw [hm _ (by omega), un (by omega)]; exact a2, by rw [hm _ (by omega), a3]; exact bitsI_congr (fun y hy => by unfold naS; rw [un (by omega)]), by rw [hm _ (by omega), a4]; exact bitsI_congr (fun y hy => by unfold beS; rw [un (by omega)]), fun y hy => ?_, fun y hy => ?_, fun y hy => ?_⟩
  · rw [hm _ (by omega), un (by omega)]; exact a5 y hy
  · obtain ⟨b1, b2, b3, b4⟩ := a6 y hy
    refine ⟨?_, by rw [hm _ (by omega), un (by omega)]; exact b2, by rw [hm _ (by omega), un (by omega)]; exact b3, by rw [hm _ (by omega), un (by omega)]; exact b4⟩
    by_cases e : y = p
    · subst e; rw [us]; exact st_eq _ _ _ _
    · rw [un (by omega), st_at, if_neg (by omega)]; exact b1
  · rw [hm _ (by omega), un (by omega)]; exact a7 y hy
theorem RelL.vv {μ : Mem} {k : Nat} {s : Row} (h : RelL μ k s) {p : Nat} (hp : p < 6) (v : Int32) : RelL (st μ (k + 3) p v) k (upd s (45 + p) v) := by
  have hm : ∀ q, ¬ q = k + 3 → (st μ (k + 3) p v) q = μ q := fun q h => st_ne _ _ h
  obtain ⟨a1, a2, a3, a4, a5, a6, a7⟩ := h
  refine ⟨by rw [hm _ (by omega), un (by omega)]; exact a1, by rw [hm _ (by omega), un (by omega)]; exact a2, by rw [hm _ (by omega), a3]; exact bitsI_congr (fun y hy => by unfold naS; rw [un (by omega)]), by rw [hm _ (by omega), a4]; exact bitsI_congr (fun y hy => by unfold beS; rw [un (by omega)]), fun y hy => ?_, fun y hy => ?_, fun y hy => ?_⟩
  · rw [hm _ (by omega), un (by omega)]; exact a5 y hy
  · obtain ⟨b1, b2, b3, b4⟩ := a6 y hy
    refine ⟨by rw [hm _ (by omega), un (by omega)]; exact b1, ?_, by rw [hm _ (by omega), un (by omega)]; exact b3, by rw [hm _ (by omega), un (by omega)]; exact b4⟩
    by_cases e : y = p
    · subst e; rw [us]; exact st_eq _ _ _ _
    · rw [un (by omega), st_at, if_neg (by omega)]; exact b2
  · rw [hm _ (by omega), un (by omega)]; exact a7 y hy
theorem RelL.pgu {μ : Mem} {k : Nat} {s : Row} (h : RelL μ k s) {p : Nat} (hp : p < 6) (v : Int32) : RelL (st μ (k + 4) p v) k (upd s (51 + p) v) := by
  have hm : ∀ q, ¬ q = k + 4 → (st μ (k + 4) p v) q = μ q := fun q h => st_ne _ _ h
  obtain ⟨a1, a2, a3, a4, a5, a6, a7⟩ := h
  refine ⟨by rw [hm _ (by omega), un (by omega)]; exact a1, by rw [hm _ (by omega), un (by omega)]; exact a2, by rw [hm _ (by omega), a3]; exact bitsI_congr (fun y hy => by unfold naS; rw [un (by omega)]), by rw [hm _ (by omega), a4]; exact bitsI_congr (fun y hy => by unfold beS; rw [un (by omega)]), fun y hy => ?_, fun y hy => ?_, fun y hy => ?_⟩
  · rw [hm _ (by omega), un (by omega)]; exact a5 y hy
  · obtain ⟨b1, b2, b3, b4⟩ := a6 y hy
    refine ⟨by rw [hm _ (by omega), un (by omega)]; exact b1, by rw [hm _ (by omega), un (by omega)]; exact b2, ?_, by rw [hm _ (by omega), un (by omega)]; exact b4⟩
    by_cases e : y = p
    · subst e; rw [us]; exact st_eq _ _ _ _
    · rw [un (by omega), st_at, if_neg (by omega)]; exact b3
  · rw [hm _ (by omega), un (by omega)]; exact a7 y hy
theorem RelL.wn {μ : Mem} {k : Nat} {s : Row} (h : RelL μ k s) {p : Nat} (hp : p < 6) (v : Int32) : RelL (st μ (k + 5) p v) k (upd s (13 + p) v) := by
  have hm : ∀ q, ¬ q = k + 5 → (st μ (k + 5) p v) q = μ q := fun q h => st_ne _ _ h
  obtain ⟨a1, a2, a3, a4, a5, a6, a7⟩ := h
  refine ⟨by rw [hm _ (by omega), un (by omega)]; exact a1, by rw [hm _ (by omega), un (by omega)]; exact a2, by rw [hm _ (by omega), a3]; exact bitsI_congr (fun y hy => by unfold naS; rw [un (by omega)]), by rw [hm _ (by omega), a4]; exact bitsI_congr (fun y hy => by unfold beS; rw [un (by omega)]), fun y hy => ?_, fun y hy => ?_, fun y hy => ?_⟩
  · rw [hm _ (by omega), un (by omega)]; exact a5 y hy
  · obtain ⟨b1, b2, b3, b4⟩ := a6 y hy
    refine ⟨by rw [hm _ (by omega), un (by omega)]; exact b1, by rw [hm _ (by omega), un (by omega)]; exact b2, by rw [hm _ (by omega), un (by omega)]; exact b3, ?_⟩
    by_cases e : y = p
    · subst e; rw [us]; exact st_eq _ _ _ _
    · rw [un (by omega), st_at, if_neg (by omega)]; exact b4
  · rw [hm _ (by omega), un (by omega)]; exact a7 y hy
theorem RelL.rw {μ : Mem} {k : Nat} {s : Row} (h : RelL μ k s) {p : Nat} (hp : p < 24) (v : Int32) : RelL (st μ (k + 6) p v) k (upd s (57 + p) v) := by
  have hm : ∀ q, ¬ q = k + 6 → (st μ (k + 6) p v) q = μ q := fun q h => st_ne _ _ h
  obtain ⟨a1, a2, a3, a4, a5, a6, a7⟩ := h
  refine ⟨by rw [hm _ (by omega), un (by omega)]; exact a1, by rw [hm _ (by omega), un (by omega)]; exact a2, by rw [hm _ (by omega), a3]; exact bitsI_congr (fun y hy => by unfold naS; rw [un (by omega)]), by rw [hm _ (by omega), a4]; exact bitsI_congr (fun y hy => by unfold beS; rw [un (by omega)]), fun y hy => ?_, fun y hy => ?_, fun y hy => ?_⟩
  · rw [hm _ (by omega), un (by omega)]; exact a5 y hy
  · obtain ⟨b1, b2, b3, b4⟩ := a6 y hy
    refine ⟨by rw [hm _ (by omega), un (by omega)]; exact b1, by rw [hm _ (by omega), un (by omega)]; exact b2, by rw [hm _ (by omega), un (by omega)]; exact b3, by rw [hm _ (by omega), un (by omega)]; exact b4⟩
  · by_cases e : y = p
    · subst e; rw [us]; exact st_eq _ _ _ _
    · rw [un (by omega), st_at, if_neg (by omega)]; exact a7 y hy
theorem RelL.aw {μ : Mem} {k : Nat} {s : Row} (h : RelL μ k s) {p : Nat} (hp : p < 6) (z : Int32) : RelL (st μ k 2 (if z = 0 then μ k 2 &&& (((1 : Int32) <<< (nI p &&& 31)) ^^^ (-1)) else μ k 2 ||| ((1 : Int32) <<< (nI p &&& 31)))) k (upd s (7 + p) (if z = 0 then 0 else 1)) := by
  obtain ⟨a1, a2, a3, a4, a5, a6, a7⟩ := h
  generalize hv : (if z = 0 then μ k 2 &&& (((1 : Int32) <<< (nI p &&& 31)) ^^^ (-1)) else μ k 2 ||| ((1 : Int32) <<< (nI p &&& 31))) = v
  have hm : ∀ q, ¬ q = k → (st μ k 2 v) q = μ q := fun q h => st_ne _ _ h
  refine ⟨by rw [st_at, if_neg (by omega), un (by omega)]; exact a1, by rw [st_at, if_neg (by omega), un (by omega)]; exact a2, ?_, by rw [st_at, if_neg (by omega), a4]; exact bitsI_congr (fun y hy => by unfold beS; rw [un (by omega)]), fun y hy => by rw [hm _ (by omega), un (by omega)]; exact a5 y hy, fun y hy => ?_, fun y hy => by rw [hm _ (by omega), un (by omega)]; exact a7 y hy⟩
  · rw [st_eq, ← hv, a3]
    by_cases h : z = 0
    · rw [if_pos h, if_pos h, bits_off _ hp]
      exact bitsI_congr (fun y hy => by
        by_cases e : y = p
        · subst e; simp [naS, us]
        · rw [if_neg e]; unfold naS; rw [un (by omega)])
    · rw [if_neg h, if_neg h, bits_on _ hp]
      exact bitsI_congr (fun y hy => by
        by_cases e : y = p
        · subst e; simp [naS, us]
        · rw [if_neg e]; unfold naS; rw [un (by omega)])
  · obtain ⟨b1, b2, b3, b4⟩ := a6 y hy
    exact ⟨by rw [hm _ (by omega), un (by omega)]; exact b1, by rw [hm _ (by omega), un (by omega)]; exact b2, by rw [hm _ (by omega), un (by omega)]; exact b3, by rw [hm _ (by omega), un (by omega)]; exact b4⟩

/-- what calls of the component that change its state may write (neither the image nor the deeds) -/
def PB : Nat → Nat → Prop := fun q _ => (1 ≤ q ∧ q ≤ 21) ∨ (43 ≤ q ∧ q ≤ 64)
theorem c_has {E : Ev} {k : Nat} (hk : LandAt k) {μ : Mem} {s : Row} {n : Nat} (h1 : μ k 1 = s 31) (hn : s 31 = nI n) (h6 : n ≤ 6) {x : Int32} : AM E yX2_has cX2_has 2 (some .boolean) 0 [.ref k, .int x] μ (fun r μ' => r = some (.int (bI (0 ≤ x ∧ x < s 31))) ∧ μ' = μ) :=
  (c_X2_has hk).mono (fun r μ' h => ⟨by
    rw [h.1]
    congr 2
    refine bI_cg ⟨fun q => ⟨q.1, by rw [← h1]; exact q.2.1⟩, fun q => ⟨q.1, by rw [h1]; exact q.2, Int32.lt_of_lt_of_le q.2 (by rw [hn]; exact nI_le (b := 6) h6 (by decide))⟩⟩, h.2⟩)
def pegA (s : Row) (x l : Int32) : Int32 := if (0 ≤ x ∧ x < s 31) ∧ (0 ≤ l ∧ l < 9) then s (51 + nN x) else -1
def pegR (s : Row) (x l : Int32) : Row := if (0 ≤ x ∧ x < s 31) ∧ (0 ≤ l ∧ l < 9) then upd s (51 + nN x) l else s
set_option maxHeartbeats 4000000 in
set_option maxRecDepth 100000 in
theorem c_X8_peg {E : Ev} {μ : Mem} {s : Row} {n mk : Nat} {code : PCo} (hI : Inv s n code mk) (hR1 : Rel μ 1 s code mk) {x l : Int32} : AM E yX8_peg cX8_peg 4 (some .int) 1 [.ref 0, .int x, .int l] μ (fun r μ' => (r = some (.int (pegA s x l)) ∧ Rel μ' 1 (pegR s x l) code mk) ∧ Same PB μ μ') := by
  refine am_of (own := RX8) (L := [.ref 0, .int x, .int l, .null]) (by decide) rfl (Nat.le_of_ble_eq_true rfl) rfl (fun Γ hR => ?_)
  have hR0 := hR1
  obtain ⟨hIL, hIP, hIC, hIS, hIW, hIB, hIT⟩ := hI
  obtain ⟨hL, ⟨hcd, hmk⟩, hT, hC, hS, hW, hB, hnp⟩ := hR1
  have hn := hIL.1
  have h6 := hIL.2.1
  have h31 : μ 2 1 = s 31 := hL.2.1
  by_cases hx : 0 ≤ x ∧ x < s 31
  · by_cases hl : 0 ≤ l ∧ l < 9
    · obtain ⟨p, hp, rfl⟩ := isM_of hn h6 hx
      obtain ⟨q, hq, rfl⟩ := isLn_of hl
      have hp6 : p < 6 := by omega
      have e1 := (hL.2.2.2.2.2.1 p hp6).2.2.1
      refine cw_aload_n (pc := 0) dX8_peg_0 rfl rfl <|
        cw_getR (q := 0) (t := 2) (pc := 1) dX8_peg_1 fX8_25 sh_0 (by decide) rfl <|
        cw_iload_n (pc := 4) dX8_peg_4 rfl rfl <|
        cw_invI (q := 2) (pc := 5) dX8_peg_5 (c_has land_2 h31 hn h6) rfl vX8_112 sh_2 (by decide) rfl rfl rfl (by decide) <|
        cw_if_eq_F (tgt := 18) (pc := 8) dX8_peg_8 (by decide) (bI_n0.mpr hx) <|
        cw_iload_n (pc := 11) dX8_peg_11 rfl rfl <|
        cw_insI (pc := 12) dX8_peg_12 c_X8_isLane vX8_105 rfl rfl rfl (by decide) <|
        cw_if_ne_T (tgt := 20) (pc := 15) dX8_peg_15 (by decide) (bI_n0.mpr hl) <|
        cw_aload_n (pc := 20) dX8_peg_20 rfl rfl <|
        cw_getR (q := 0) (t := 2) (pc := 21) dX8_peg_21 fX8_25 sh_0 (by decide) rfl <|
        cw_getR (q := 2) (t := 6) (pc := 24) dX8_peg_24 fX8_123 sh_2 (by decide) rfl <|
        cw_iload_n (pc := 27) dX8_peg_27 rfl rfl <|
        cw_ial (q := 6) (jn := p) (pc := 28) dX8_peg_28 sh_6 rfl (by omega) (by decide) <|
        ?_
      rw [e1]
      refine cw_istore_n (L' := [_, _, _, _]) (pc := 29) dX8_peg_29 rfl (by decide) rfl rfl <|
        cw_aload_n (pc := 30) dX8_peg_30 rfl rfl <|
        cw_getR (q := 0) (t := 2) (pc := 31) dX8_peg_31 fX8_25 sh_0 (by decide) rfl <|
        cw_getR (q := 2) (t := 6) (pc := 34) dX8_peg_34 fX8_123 sh_2 (by decide) rfl <|
        cw_iload_n (pc := 37) dX8_peg_37 rfl rfl <|
        cw_iload_n (pc := 38) dX8_peg_38 rfl rfl <|
        cw_ias (q := 6) (jn := p) (pc := 39) dX8_peg_39 sh_6 rfl (by omega) (by decide) <|
        cw_iload_n (pc := 40) dX8_peg_40 rfl rfl <|
        cw_iret (pc := 41) dX8_peg_41 hR <|
        ⟨⟨by rw [pegA, if_pos ⟨hx, hl⟩, nN_nI (by omega)], by rw [pegR, if_pos ⟨hx, hl⟩, nN_nI (by omega)]; exact hR0.pL (hL.pgu hp6 _) (fun q _ _ h => st_ne _ _ (by omega)) (fun i hi => un (by omega))⟩, by first | exact Same.rf | (exact q2.mo (fun q i h => by unfold FY PS at h; unfold PB; omega)) | (repeat (refine Same.s1 ?_ (by unfold PB; omega))); exact Same.rf⟩
    · refine cw_aload_n (pc := 0) dX8_peg_0 rfl rfl <|
        cw_getR (q := 0) (t := 2) (pc := 1) dX8_peg_1 fX8_25 sh_0 (by decide) rfl <|
        cw_iload_n (pc := 4) dX8_peg_4 rfl rfl <|
        cw_invI (q := 2) (pc := 5) dX8_peg_5 (c_has land_2 h31 hn h6) rfl vX8_112 sh_2 (by decide) rfl rfl rfl (by decide) <|
        cw_if_eq_F (tgt := 18) (pc := 8) dX8_peg_8 (by decide) (bI_n0.mpr hx) <|
        cw_iload_n (pc := 11) dX8_peg_11 rfl rfl <|
        cw_insI (pc := 12) dX8_peg_12 c_X8_isLane vX8_105 rfl rfl rfl (by decide) <|
        cw_if_ne_F (tgt := 20) (pc := 15) dX8_peg_15 (by decide) (bI_0.mpr hl) <|
        cw_iconst (v := -1) (pc := 18) dX8_peg_18 (by decide) <|
        cw_iret (pc := 19) dX8_peg_19 hR <|
        ⟨⟨by rw [pegA, if_neg (fun h => hl h.2)], by rw [pegR, if_neg (fun h => hl h.2)]; exact hR0⟩, by first | exact Same.rf | (exact q2.mo (fun q i h => by unfold FY PS at h; unfold PB; omega)) | (repeat (refine Same.s1 ?_ (by unfold PB; omega))); exact Same.rf⟩
  · refine cw_aload_n (pc := 0) dX8_peg_0 rfl rfl <|
      cw_getR (q := 0) (t := 2) (pc := 1) dX8_peg_1 fX8_25 sh_0 (by decide) rfl <|
      cw_iload_n (pc := 4) dX8_peg_4 rfl rfl <|
      cw_invI (q := 2) (pc := 5) dX8_peg_5 (c_has land_2 h31 hn h6) rfl vX8_112 sh_2 (by decide) rfl rfl rfl (by decide) <|
      cw_if_eq_T (tgt := 18) (pc := 8) dX8_peg_8 (by decide) (bI_0.mpr hx) <|
      cw_iconst (v := -1) (pc := 18) dX8_peg_18 (by decide) <|
      cw_iret (pc := 19) dX8_peg_19 hR <|
      ⟨⟨by rw [pegA, if_neg (fun h => hx h.1)], by rw [pegR, if_neg (fun h => hx h.1)]; exact hR0⟩, by first | exact Same.rf | (exact q2.mo (fun q i h => by unfold FY PS at h; unfold PB; omega)) | (repeat (refine Same.s1 ?_ (by unfold PB; omega))); exact Same.rf⟩
def layA (s : Row) (x v : Int32) : Int32 := if 0 ≤ x ∧ x < 12 then (if 0 ≤ v ∧ v ≤ 9 then s (19 + nN x) else -2) else -1
def layR (s : Row) (x v : Int32) : Row := if (0 ≤ x ∧ x < 12) ∧ (0 ≤ v ∧ v ≤ 9) then upd s (19 + nN x) v else s
set_option maxHeartbeats 4000000 in
set_option maxRecDepth 100000 in
theorem c_X8_lay {E : Ev} {μ : Mem} {s : Row} {n mk : Nat} {code : PCo} (hI : Inv s n code mk) (hR1 : Rel μ 1 s code mk) {x v : Int32} : AM E yX8_lay cX8_lay 4 (some .int) 1 [.ref 0, .int x, .int v] μ (fun r μ' => (r = some (.int (layA s x v)) ∧ Rel μ' 1 (layR s x v) code mk) ∧ Same PB μ μ') := by
  refine am_of (own := RX8) (L := [.ref 0, .int x, .int v, .null]) (by decide) rfl (Nat.le_of_ble_eq_true rfl) rfl (fun Γ hR => ?_)
  have hR0 := hR1
  obtain ⟨hIL, hIP, hIC, hIS, hIW, hIB, hIT⟩ := hI
  obtain ⟨hL, ⟨hcd, hmk⟩, hT, hC, hS, hW, hB, hnp⟩ := hR1
  have hn := hIL.1
  have h6 := hIL.2.1
  have h31 : μ 2 1 = s 31 := hL.2.1
  by_cases hx : 0 ≤ x ∧ x < 12
  · by_cases hv : 0 ≤ v ∧ v ≤ 9
    · obtain ⟨p, hp, rfl⟩ := isSt_of hx
      have e1 := hL.2.2.2.2.1 p hp
      refine cw_iload_n (pc := 0) dX8_lay_0 rfl rfl <|
        cw_insI (pc := 1) dX8_lay_1 c_X8_isStep vX8_150 rfl rfl rfl (by decide) <|
        cw_if_ne_T (tgt := 9) (pc := 4) dX8_lay_4 (by decide) (bI_n0.mpr hx) <|
        cw_iload_n (pc := 9) dX8_lay_9 rfl rfl <|
        cw_insI (pc := 10) dX8_lay_10 c_X8_isDigit vX8_108 rfl rfl rfl (by decide) <|
        cw_if_ne_T (tgt := 19) (pc := 13) dX8_lay_13 (by decide) (bI_n0.mpr hv) <|
        cw_aload_n (pc := 19) dX8_lay_19 rfl rfl <|
        cw_getR (q := 0) (t := 2) (pc := 20) dX8_lay_20 fX8_25 sh_0 (by decide) rfl <|
        cw_getR (q := 2) (t := 3) (pc := 23) dX8_lay_23 fX8_153 sh_2 (by decide) rfl <|
        cw_iload_n (pc := 26) dX8_lay_26 rfl rfl <|
        cw_ial (q := 3) (jn := p) (pc := 27) dX8_lay_27 sh_3 rfl (by omega) (by decide) <|
        ?_
      rw [e1]
      refine cw_istore_n (L' := [_, _, _, _]) (pc := 28) dX8_lay_28 rfl (by decide) rfl rfl <|
        cw_aload_n (pc := 29) dX8_lay_29 rfl rfl <|
        cw_getR (q := 0) (t := 2) (pc := 30) dX8_lay_30 fX8_25 sh_0 (by decide) rfl <|
        cw_getR (q := 2) (t := 3) (pc := 33) dX8_lay_33 fX8_153 sh_2 (by decide) rfl <|
        cw_iload_n (pc := 36) dX8_lay_36 rfl rfl <|
        cw_iload_n (pc := 37) dX8_lay_37 rfl rfl <|
        cw_ias (q := 3) (jn := p) (pc := 38) dX8_lay_38 sh_3 rfl (by omega) (by decide) <|
        cw_iload_n (pc := 39) dX8_lay_39 rfl rfl <|
        cw_iret (pc := 40) dX8_lay_40 hR <|
        ⟨⟨by rw [layA, if_pos hx, if_pos hv, nN_nI (by omega)], by rw [layR, if_pos ⟨hx, hv⟩, nN_nI (by omega)]; exact hR0.pL (hL.fd hp _) (fun q _ _ h => st_ne _ _ (by omega)) (fun i hi => un (by omega))⟩, by first | exact Same.rf | (exact q2.mo (fun q i h => by unfold FY PS at h; unfold PB; omega)) | (repeat (refine Same.s1 ?_ (by unfold PB; omega))); exact Same.rf⟩
    · refine cw_iload_n (pc := 0) dX8_lay_0 rfl rfl <|
        cw_insI (pc := 1) dX8_lay_1 c_X8_isStep vX8_150 rfl rfl rfl (by decide) <|
        cw_if_ne_T (tgt := 9) (pc := 4) dX8_lay_4 (by decide) (bI_n0.mpr hx) <|
        cw_iload_n (pc := 9) dX8_lay_9 rfl rfl <|
        cw_insI (pc := 10) dX8_lay_10 c_X8_isDigit vX8_108 rfl rfl rfl (by decide) <|
        cw_if_ne_F (tgt := 19) (pc := 13) dX8_lay_13 (by decide) (bI_0.mpr hv) <|
        cw_bipush (v := -2) (pc := 16) dX8_lay_16 (by decide) <|
        cw_iret (pc := 18) dX8_lay_18 hR <|
        ⟨⟨by rw [layA, if_pos hx, if_neg hv], by rw [layR, if_neg (fun h => hv h.2)]; exact hR0⟩, by first | exact Same.rf | (exact q2.mo (fun q i h => by unfold FY PS at h; unfold PB; omega)) | (repeat (refine Same.s1 ?_ (by unfold PB; omega))); exact Same.rf⟩
  · refine cw_iload_n (pc := 0) dX8_lay_0 rfl rfl <|
      cw_insI (pc := 1) dX8_lay_1 c_X8_isStep vX8_150 rfl rfl rfl (by decide) <|
      cw_if_ne_F (tgt := 9) (pc := 4) dX8_lay_4 (by decide) (bI_0.mpr hx) <|
      cw_iconst (v := -1) (pc := 7) dX8_lay_7 (by decide) <|
      cw_iret (pc := 8) dX8_lay_8 hR <|
      ⟨⟨by rw [layA, if_neg hx], by rw [layR, if_neg (fun h => hx h.1)]; exact hR0⟩, by first | exact Same.rf | (exact q2.mo (fun q i h => by unfold FY PS at h; unfold PB; omega)) | (repeat (refine Same.s1 ?_ (by unfold PB; omega))); exact Same.rf⟩
def awayA (s : Row) (x : Int32) : Int32 := if 0 ≤ x ∧ x < s 31 then s (7 + nN x) else -1
def awayR (s : Row) (x z : Int32) : Row := if 0 ≤ x ∧ x < s 31 then upd s (7 + nN x) (if z = 0 then 0 else 1) else s
theorem RelL.bitaw {μ : Mem} {k : Nat} {s : Row} {n Y M : Nat} (h : RelL μ k s) (hi : InvL s n Y M) {p : Nat} (hp : p < 6) : (μ k 2 >>> (nI p &&& 31)) &&& 1 = s (7 + p) := by
  rw [h.2.2.1, bits_get _ hp]
  rcases (hi.2.2.2.1 p hp).2 with e | e <;> simp [naS, e]
theorem RelL.bitbe {μ : Mem} {k : Nat} {s : Row} {n Y M : Nat} (h : RelL μ k s) (hi : InvL s n Y M) {p : Nat} (hp : p < 6) : (μ k 3 >>> (nI p &&& 31)) &&& 1 = s (1 + p) := by
  rw [h.2.2.2.1, bits_get _ hp]
  rcases (hi.2.2.2.1 p hp).1 with e | e <;> simp [beS, e]
set_option maxHeartbeats 4000000 in
set_option maxRecDepth 100000 in
theorem c_X8_away {E : Ev} {μ : Mem} {s : Row} {n mk : Nat} {code : PCo} (hI : Inv s n code mk) (hR1 : Rel μ 1 s code mk) {x z : Int32} : AM E yX8_away cX8_away 4 (some .int) 2 [.ref 0, .int x, .int z] μ (fun r μ' => (r = some (.int (awayA s x)) ∧ Rel μ' 1 (awayR s x z) code mk) ∧ Same PB μ μ') := by
  refine am_of (own := RX8) (L := [.ref 0, .int x, .int z, .null]) (by decide) rfl (Nat.le_of_ble_eq_true rfl) rfl (fun Γ hR => ?_)
  have hR0 := hR1
  obtain ⟨hIL, hIP, hIC, hIS, hIW, hIB, hIT⟩ := hI
  obtain ⟨hL, ⟨hcd, hmk⟩, hT, hC, hS, hW, hB, hnp⟩ := hR1
  have hn := hIL.1
  have h6 := hIL.2.1
  have h31 : μ 2 1 = s 31 := hL.2.1
  by_cases hx : 0 ≤ x ∧ x < s 31
  · obtain ⟨p, hp, rfl⟩ := isM_of hn h6 hx
    have hp6 : p < 6 := by omega
    have e1 := hL.bitaw hIL hp6
    refine cw_aload_n (pc := 0) dX8_away_0 rfl rfl <|
      cw_getR (q := 0) (t := 2) (pc := 1) dX8_away_1 fX8_25 sh_0 (by decide) rfl <|
      cw_iload_n (pc := 4) dX8_away_4 rfl rfl <|
      cw_invI (q := 2) (pc := 5) dX8_away_5 (c_has land_2 h31 hn h6) rfl vX8_112 sh_2 (by decide) rfl rfl rfl (by decide) <|
      cw_if_ne_T (tgt := 13) (pc := 8) dX8_away_8 (by decide) (bI_n0.mpr hx) <|
      cw_aload_n (pc := 13) dX8_away_13 rfl rfl <|
      cw_getR (q := 0) (t := 2) (pc := 14) dX8_away_14 fX8_25 sh_0 (by decide) rfl <|
      cw_getI (q := 2) (pc := 17) dX8_away_17 fX8_126 sh_2 (by decide) rfl <|
      cw_iload_n (pc := 20) dX8_away_20 rfl rfl <|
      cw_insI (pc := 21) dX8_away_21 c_X8_bit vX8_129 rfl rfl rfl (by decide) <|
      ?_
    rw [e1]
    refine cw_istore_n (L' := [_, _, _, _]) (pc := 24) dX8_away_24 rfl (by decide) rfl rfl <|
      cw_aload_n (pc := 25) dX8_away_25 rfl rfl <|
      cw_getR (q := 0) (t := 2) (pc := 26) dX8_away_26 fX8_25 sh_0 (by decide) rfl <|
      cw_iload_n (pc := 29) dX8_away_29 rfl rfl <|
      cw_iload_n (pc := 30) dX8_away_30 rfl rfl <|
      cw_invV (q := 2) (pc := 31) dX8_away_31 (c_X2_goesAway land_2 (h31.trans hn) h6 hp) rfl vX8_146 sh_2 (by decide) rfl rfl rfl (by decide) <|
      cw_iload_n (pc := 34) dX8_away_34 rfl rfl <|
      cw_iret (pc := 35) dX8_away_35 hR <|
      ⟨⟨by rw [awayA, if_pos hx, nN_nI (by omega)], by rw [awayR, if_pos hx, nN_nI (by omega)]; exact hR0.pL (hL.aw hp6 z) (fun q _ _ h => st_ne _ _ (by omega)) (fun i hi => un (by omega))⟩, by first | exact Same.rf | (exact q2.mo (fun q i h => by unfold FY PS at h; unfold PB; omega)) | (repeat (refine Same.s1 ?_ (by unfold PB; omega))); exact Same.rf⟩
  · refine cw_aload_n (pc := 0) dX8_away_0 rfl rfl <|
      cw_getR (q := 0) (t := 2) (pc := 1) dX8_away_1 fX8_25 sh_0 (by decide) rfl <|
      cw_iload_n (pc := 4) dX8_away_4 rfl rfl <|
      cw_invI (q := 2) (pc := 5) dX8_away_5 (c_has land_2 h31 hn h6) rfl vX8_112 sh_2 (by decide) rfl rfl rfl (by decide) <|
      cw_if_ne_F (tgt := 13) (pc := 8) dX8_away_8 (by decide) (bI_0.mpr hx) <|
      cw_iconst (v := -1) (pc := 11) dX8_away_11 (by decide) <|
      cw_iret (pc := 12) dX8_away_12 hR <|
      ⟨⟨by rw [awayA, if_neg hx], by rw [awayR, if_neg hx]; exact hR0⟩, by first | exact Same.rf | (exact q2.mo (fun q i h => by unfold FY PS at h; unfold PB; omega)) | (repeat (refine Same.s1 ?_ (by unfold PB; omega))); exact Same.rf⟩
def rowA (s : Row) (x k v : Int32) : Int32 := if (0 ≤ x ∧ x < s 31) ∧ (0 ≤ k ∧ k < 4) then (if 0 ≤ v ∧ v ≤ 9 then (if s (39 + nN x) = 6 then s (57 + (nN x * 4 + nN k)) else -3) else -2) else -1
def rowR (s : Row) (x k v : Int32) : Row := if ((0 ≤ x ∧ x < s 31) ∧ (0 ≤ k ∧ k < 4)) ∧ (0 ≤ v ∧ v ≤ 9) ∧ s (39 + nN x) = 6 then upd s (57 + (nN x * 4 + nN k)) v else s
set_option maxHeartbeats 4000000 in
set_option maxRecDepth 100000 in
theorem c_X8_row {E : Ev} {μ : Mem} {s : Row} {n mk : Nat} {code : PCo} (hI : Inv s n code mk) (hR1 : Rel μ 1 s code mk) {x k v : Int32} : AM E yX8_row cX8_row 5 (some .int) 1 [.ref 0, .int x, .int k, .int v] μ (fun r μ' => (r = some (.int (rowA s x k v)) ∧ Rel μ' 1 (rowR s x k v) code mk) ∧ Same PB μ μ') := by
  refine am_of (own := RX8) (L := [.ref 0, .int x, .int k, .int v, .null]) (by decide) rfl (Nat.le_of_ble_eq_true rfl) rfl (fun Γ hR => ?_)
  have hR0 := hR1
  obtain ⟨hIL, hIP, hIC, hIS, hIW, hIB, hIT⟩ := hI
  obtain ⟨hL, ⟨hcd, hmk⟩, hT, hC, hS, hW, hB, hnp⟩ := hR1
  have hn := hIL.1
  have h6 := hIL.2.1
  have h31 : μ 2 1 = s 31 := hL.2.1
  by_cases hx : 0 ≤ x ∧ x < s 31
  · by_cases hk : 0 ≤ k ∧ k < 4
    · by_cases hv : 0 ≤ v ∧ v ≤ 9
      · obtain ⟨p, hp, rfl⟩ := isM_of hn h6 hx
        obtain ⟨q, hq, rfl⟩ := ix_of (n := 4) (by decide) hk
        have hp6 : p < 6 := by omega
        have e0 := (hL.2.2.2.2.2.1 p hp6).1
        have e1 := hL.2.2.2.2.2.2 (p * 4 + q) (by omega)
        have a1 : nN (nI p) = p := nN_nI (by omega)
        have a2 : nN (nI q) = q := nN_nI (by omega)
        by_cases hk6 : s (39 + p) = 6
        · refine cw_aload_n (pc := 0) dX8_row_0 rfl rfl <|
            cw_getR (q := 0) (t := 2) (pc := 1) dX8_row_1 fX8_25 sh_0 (by decide) rfl <|
            cw_iload_n (pc := 4) dX8_row_4 rfl rfl <|
            cw_invI (q := 2) (pc := 5) dX8_row_5 (c_has land_2 h31 hn h6) rfl vX8_112 sh_2 (by decide) rfl rfl rfl (by decide) <|
            cw_if_eq_F (tgt := 20) (pc := 8) dX8_row_8 (by decide) (bI_n0.mpr hx) <|
            cw_iload_n (pc := 11) dX8_row_11 rfl rfl <|
            cw_if_lt_F (tgt := 20) (pc := 12) dX8_row_12 (by decide) (nI_pos (by omega)) <|
            cw_iload_n (pc := 15) dX8_row_15 rfl rfl <|
            cw_iconst (v := 4) (pc := 16) dX8_row_16 (by decide) <|
            cw_icmp_lt_T (tgt := 22) (pc := 17) dX8_row_17 (by decide) hk.2 <|
            cw_iload_n (pc := 22) dX8_row_22 rfl rfl <|
            cw_insI (pc := 23) dX8_row_23 c_X8_isDigit vX8_108 rfl rfl rfl (by decide) <|
            cw_if_ne_T (tgt := 32) (pc := 26) dX8_row_26 (by decide) (bI_n0.mpr hv) <|
            cw_aload_n (pc := 32) dX8_row_32 rfl rfl <|
            cw_getR (q := 0) (t := 2) (pc := 33) dX8_row_33 fX8_25 sh_0 (by decide) rfl <|
            cw_getR (q := 2) (t := 4) (pc := 36) dX8_row_36 fX8_116 sh_2 (by decide) rfl <|
            cw_iload_n (pc := 39) dX8_row_39 rfl rfl <|
            cw_ial (q := 4) (jn := p) (pc := 40) dX8_row_40 sh_4 rfl (by omega) (by decide) <|
            ?_
          rw [e0]
          refine cw_bipush (v := 6) (pc := 41) dX8_row_41 (by decide) <|
            cw_icmp_eq_T (tgt := 49) (pc := 43) dX8_row_43 (by decide) hk6 <|
            cw_aload_n (pc := 49) dX8_row_49 rfl rfl <|
            cw_getR (q := 0) (t := 2) (pc := 50) dX8_row_50 fX8_25 sh_0 (by decide) rfl <|
            cw_getR (q := 2) (t := 8) (pc := 53) dX8_row_53 fX8_143 sh_2 (by decide) rfl <|
            cw_iload_n (pc := 56) dX8_row_56 rfl rfl <|
            cw_iconst (v := 4) (pc := 57) dX8_row_57 (by decide) <|
            cw_imul (pc := 58) dX8_row_58 <|
            cw_iload_n (pc := 59) dX8_row_59 rfl rfl <|
            cw_iadd (pc := 60) dX8_row_60 <|
            cw_ial (q := 8) (jn := ((p * 4) + q)) (pc := 61) dX8_row_61 sh_8 (nx_add (nx_mul rfl rfl) rfl) (by omega) (by decide) <|
            ?_
          rw [e1]
          refine cw_istore (L' := [_, _, _, _, _]) (pc := 62) dX8_row_62 (by decide) rfl rfl <|
            cw_aload_n (pc := 64) dX8_row_64 rfl rfl <|
            cw_getR (q := 0) (t := 2) (pc := 65) dX8_row_65 fX8_25 sh_0 (by decide) rfl <|
            cw_getR (q := 2) (t := 8) (pc := 68) dX8_row_68 fX8_143 sh_2 (by decide) rfl <|
            cw_iload_n (pc := 71) dX8_row_71 rfl rfl <|
            cw_iconst (v := 4) (pc := 72) dX8_row_72 (by decide) <|
            cw_imul (pc := 73) dX8_row_73 <|
            cw_iload_n (pc := 74) dX8_row_74 rfl rfl <|
            cw_iadd (pc := 75) dX8_row_75 <|
            cw_iload_n (pc := 76) dX8_row_76 rfl rfl <|
            cw_ias (q := 8) (jn := ((p * 4) + q)) (pc := 77) dX8_row_77 sh_8 (nx_add (nx_mul rfl rfl) rfl) (by omega) (by decide) <|
            cw_iload (pc := 78) dX8_row_78 rfl <|
            cw_iret (pc := 80) dX8_row_80 hR <|
            ⟨⟨by rw [rowA, if_pos ⟨hx, hk⟩, if_pos hv, a1, a2, if_pos hk6], by rw [rowR, if_pos ⟨⟨hx, hk⟩, hv, by rw [a1]; exact hk6⟩, a1, a2]; exact hR0.pL (hL.rw (by omega) _) (fun q _ _ h => st_ne _ _ (by omega)) (fun i hi => un (by omega))⟩, by first | exact Same.rf | (exact q2.mo (fun q i h => by unfold FY PS at h; unfold PB; omega)) | (repeat (refine Same.s1 ?_ (by unfold PB; omega))); exact Same.rf⟩
        · refine cw_aload_n (pc := 0) dX8_row_0 rfl rfl <|
            cw_getR (q := 0) (t := 2) (pc := 1) dX8_row_1 fX8_25 sh_0 (by decide) rfl <|
            cw_iload_n (pc := 4) dX8_row_4 rfl rfl <|
            cw_invI (q := 2) (pc := 5) dX8_row_5 (c_has land_2 h31 hn h6) rfl vX8_112 sh_2 (by decide) rfl rfl rfl (by decide) <|
            cw_if_eq_F (tgt := 20) (pc := 8) dX8_row_8 (by decide) (bI_n0.mpr hx) <|
            cw_iload_n (pc := 11) dX8_row_11 rfl rfl <|
            cw_if_lt_F (tgt := 20) (pc := 12) dX8_row_12 (by decide) (nI_pos (by omega)) <|
            cw_iload_n (pc := 15) dX8_row_15 rfl rfl <|
            cw_iconst (v := 4) (pc := 16) dX8_row_16 (by decide) <|
            cw_icmp_lt_T (tgt := 22) (pc := 17) dX8_row_17 (by decide) hk.2 <|
            cw_iload_n (pc := 22) dX8_row_22 rfl rfl <|
            cw_insI (pc := 23) dX8_row_23 c_X8_isDigit vX8_108 rfl rfl rfl (by decide) <|
            cw_if_ne_T (tgt := 32) (pc := 26) dX8_row_26 (by decide) (bI_n0.mpr hv) <|
            cw_aload_n (pc := 32) dX8_row_32 rfl rfl <|
            cw_getR (q := 0) (t := 2) (pc := 33) dX8_row_33 fX8_25 sh_0 (by decide) rfl <|
            cw_getR (q := 2) (t := 4) (pc := 36) dX8_row_36 fX8_116 sh_2 (by decide) rfl <|
            cw_iload_n (pc := 39) dX8_row_39 rfl rfl <|
            cw_ial (q := 4) (jn := p) (pc := 40) dX8_row_40 sh_4 rfl (by omega) (by decide) <|
            ?_
          rw [e0]
          refine cw_bipush (v := 6) (pc := 41) dX8_row_41 (by decide) <|
            cw_icmp_eq_F (tgt := 49) (pc := 43) dX8_row_43 (by decide) hk6 <|
            cw_bipush (v := -3) (pc := 46) dX8_row_46 (by decide) <|
            cw_iret (pc := 48) dX8_row_48 hR <|
            ⟨⟨by rw [rowA, if_pos ⟨hx, hk⟩, if_pos hv, a1, if_neg hk6], by rw [rowR, if_neg (fun h => hk6 (by rw [← a1]; exact h.2.2))]; exact hR0⟩, by first | exact Same.rf | (exact q2.mo (fun q i h => by unfold FY PS at h; unfold PB; omega)) | (repeat (refine Same.s1 ?_ (by unfold PB; omega))); exact Same.rf⟩
      · refine cw_aload_n (pc := 0) dX8_row_0 rfl rfl <|
          cw_getR (q := 0) (t := 2) (pc := 1) dX8_row_1 fX8_25 sh_0 (by decide) rfl <|
          cw_iload_n (pc := 4) dX8_row_4 rfl rfl <|
          cw_invI (q := 2) (pc := 5) dX8_row_5 (c_has land_2 h31 hn h6) rfl vX8_112 sh_2 (by decide) rfl rfl rfl (by decide) <|
          cw_if_eq_F (tgt := 20) (pc := 8) dX8_row_8 (by decide) (bI_n0.mpr hx) <|
          cw_iload_n (pc := 11) dX8_row_11 rfl rfl <|
          cw_if_lt_F (tgt := 20) (pc := 12) dX8_row_12 (by decide) (Int32.not_lt.mpr hk.1) <|
          cw_iload_n (pc := 15) dX8_row_15 rfl rfl <|
          cw_iconst (v := 4) (pc := 16) dX8_row_16 (by decide) <|
          cw_icmp_lt_T (tgt := 22) (pc := 17) dX8_row_17 (by decide) hk.2 <|
          cw_iload_n (pc := 22) dX8_row_22 rfl rfl <|
          cw_insI (pc := 23) dX8_row_23 c_X8_isDigit vX8_108 rfl rfl rfl (by decide) <|
          cw_if_ne_F (tgt := 32) (pc := 26) dX8_row_26 (by decide) (bI_0.mpr hv) <|
          cw_bipush (v := -2) (pc := 29) dX8_row_29 (by decide) <|
          cw_iret (pc := 31) dX8_row_31 hR <|
          ⟨⟨by rw [rowA, if_pos ⟨hx, hk⟩, if_neg hv], by rw [rowR, if_neg (fun h => hv h.2.1)]; exact hR0⟩, by first | exact Same.rf | (exact q2.mo (fun q i h => by unfold FY PS at h; unfold PB; omega)) | (repeat (refine Same.s1 ?_ (by unfold PB; omega))); exact Same.rf⟩
    · refine cw_aload_n (pc := 0) dX8_row_0 rfl rfl <|
        cw_getR (q := 0) (t := 2) (pc := 1) dX8_row_1 fX8_25 sh_0 (by decide) rfl <|
        cw_iload_n (pc := 4) dX8_row_4 rfl rfl <|
        cw_invI (q := 2) (pc := 5) dX8_row_5 (c_has land_2 h31 hn h6) rfl vX8_112 sh_2 (by decide) rfl rfl rfl (by decide) <|
        cw_if_eq_F (tgt := 20) (pc := 8) dX8_row_8 (by decide) (bI_n0.mpr hx) <|
        cw_iload_n (pc := 11) dX8_row_11 rfl rfl <|
        cw_if_lt (tgt := 20) (pc := 12) dX8_row_12 (by decide) (fun c12 => ?_) (fun c12 => ?_)
      · refine cw_iconst (v := -1) (pc := 20) dX8_row_20 (by decide) <|
          cw_iret (pc := 21) dX8_row_21 hR <|
          ⟨⟨by rw [rowA, if_neg (fun h => hk h.2)], by rw [rowR, if_neg (fun h => hk h.1.2)]; exact hR0⟩, by first | exact Same.rf | (exact q2.mo (fun q i h => by unfold FY PS at h; unfold PB; omega)) | (repeat (refine Same.s1 ?_ (by unfold PB; omega))); exact Same.rf⟩
      · refine cw_iload_n (pc := 15) dX8_row_15 rfl rfl <|
          cw_iconst (v := 4) (pc := 16) dX8_row_16 (by decide) <|
          cw_icmp_lt (tgt := 22) (pc := 17) dX8_row_17 (by decide) (fun c17 => ?_) (fun c17 => ?_)
        · exact absurd ⟨Int32.not_lt.mp c12, c17⟩ hk
        · refine cw_iconst (v := -1) (pc := 20) dX8_row_20 (by decide) <|
            cw_iret (pc := 21) dX8_row_21 hR <|
            ⟨⟨by rw [rowA, if_neg (fun h => hk h.2)], by rw [rowR, if_neg (fun h => hk h.1.2)]; exact hR0⟩, by first | exact Same.rf | (exact q2.mo (fun q i h => by unfold FY PS at h; unfold PB; omega)) | (repeat (refine Same.s1 ?_ (by unfold PB; omega))); exact Same.rf⟩
  · refine cw_aload_n (pc := 0) dX8_row_0 rfl rfl <|
      cw_getR (q := 0) (t := 2) (pc := 1) dX8_row_1 fX8_25 sh_0 (by decide) rfl <|
      cw_iload_n (pc := 4) dX8_row_4 rfl rfl <|
      cw_invI (q := 2) (pc := 5) dX8_row_5 (c_has land_2 h31 hn h6) rfl vX8_112 sh_2 (by decide) rfl rfl rfl (by decide) <|
      cw_if_eq_T (tgt := 20) (pc := 8) dX8_row_8 (by decide) (bI_0.mpr hx) <|
      cw_iconst (v := -1) (pc := 20) dX8_row_20 (by decide) <|
      cw_iret (pc := 21) dX8_row_21 hR <|
      ⟨⟨by rw [rowA, if_neg (fun h => hx h.1)], by rw [rowR, if_neg (fun h => hx h.1.1)]; exact hR0⟩, by first | exact Same.rf | (exact q2.mo (fun q i h => by unfold FY PS at h; unfold PB; omega)) | (repeat (refine Same.s1 ?_ (by unfold PB; omega))); exact Same.rf⟩
theorem Rel.sc {μ μ' : Mem} {s : Row} {code : PCo} {mk : Nat} (h : Rel μ 1 s code mk) (e : Same (fun q _ => 43 ≤ q ∧ q ≤ 64) μ μ') : Rel μ' 1 s code mk := h.mo (fun q a b => funext fun i => e q i (by omega))
def straysA (s : Row) (code : PCo) (x t l : Int32) : Int32 := if (0 ≤ x ∧ x < s 31) ∧ (0 ≤ t ∧ t < 12) ∧ (0 ≤ l ∧ l < 9) then gV code (fun p => s (39 + p)) (fun p => s (45 + p)) (fun j => s (57 + j)) (fun x => s (19 + x)) (s 0) (nN x) (nN t) (nN l) else -999999
set_option maxHeartbeats 4000000 in
set_option maxRecDepth 100000 in
theorem c_X8_strays {E : Ev} {μ : Mem} {s : Row} {n mk : Nat} {code : PCo} (hI : Inv s n code mk) (hR1 : Rel μ 1 s code mk) {x t l : Int32} : AM E yX8_strays cX8_strays 5 (some .int) 2 [.ref 0, .int x, .int t, .int l] μ (fun r μ' => r = some (.int (straysA s code x t l)) ∧ Same (fun q _ => 43 ≤ q ∧ q ≤ 64) μ μ') := by
  refine am_of (own := RX8) (L := [.ref 0, .int x, .int t, .int l, .null]) (by decide) rfl (Nat.le_of_ble_eq_true rfl) rfl (fun Γ hR => ?_)
  have hR0 := hR1
  obtain ⟨hIL, hIP, hIC, hIS, hIW, hIB, hIT⟩ := hI
  obtain ⟨hL, ⟨hcd, hmk⟩, hT, hC, hS, hW, hB, hnp⟩ := hR1
  have hn := hIL.1
  have h6 := hIL.2.1
  have h31 : μ 2 1 = s 31 := hL.2.1
  by_cases hx : 0 ≤ x ∧ x < s 31
  · by_cases ht : 0 ≤ t ∧ t < 12
    · by_cases hl : 0 ≤ l ∧ l < 9
      · obtain ⟨p, hp, rfl⟩ := isM_of hn h6 hx
        obtain ⟨q, hq, rfl⟩ := isSt_of ht
        obtain ⟨y, hy, rfl⟩ := isLn_of hl
        have hp6 : p < 6 := by omega
        have e1 := hL.sty code (l := y) hp6 hq
        refine cw_aload_n (pc := 0) dX8_strays_0 rfl rfl <|
          cw_getR (q := 0) (t := 2) (pc := 1) dX8_strays_1 fX8_25 sh_0 (by decide) rfl <|
          cw_iload_n (pc := 4) dX8_strays_4 rfl rfl <|
          cw_invI (q := 2) (pc := 5) dX8_strays_5 (c_has land_2 h31 hn h6) rfl vX8_112 sh_2 (by decide) rfl rfl rfl (by decide) <|
          cw_if_eq_F (tgt := 29) (pc := 8) dX8_strays_8 (by decide) (bI_n0.mpr hx) <|
          cw_iload_n (pc := 11) dX8_strays_11 rfl rfl <|
          cw_insI (pc := 12) dX8_strays_12 c_X8_isStep vX8_150 rfl rfl rfl (by decide) <|
          cw_if_eq_F (tgt := 29) (pc := 15) dX8_strays_15 (by decide) (bI_n0.mpr ht) <|
          cw_iload_n (pc := 18) dX8_strays_18 rfl rfl <|
          cw_insI (pc := 19) dX8_strays_19 c_X8_isLane vX8_105 rfl rfl rfl (by decide) <|
          cw_if_eq_F (tgt := 29) (pc := 22) dX8_strays_22 (by decide) (bI_n0.mpr hl) <|
          cw_iconst (v := 1) (pc := 25) dX8_strays_25 (by decide) <|
          cw_goto (tgt := 30) (pc := 26) dX8_strays_26 (by decide) <|
          cw_istore (L' := [_, _, _, _, _]) (pc := 30) dX8_strays_30 (by decide) rfl rfl <|
          cw_iload (pc := 32) dX8_strays_32 rfl <|
          cw_if_eq_F (tgt := 50) (pc := 34) dX8_strays_34 (by decide) (by decide) <|
          cw_aload_n (pc := 37) dX8_strays_37 rfl rfl <|
          cw_getR (q := 0) (t := 50) (pc := 38) dX8_strays_38 fX8_35 sh_0 (by decide) rfl <|
          cw_iload_n (pc := 41) dX8_strays_41 rfl rfl <|
          cw_iload_n (pc := 42) dX8_strays_42 rfl rfl <|
          cw_iload_n (pc := 43) dX8_strays_43 rfl rfl <|
          cw_invP (q := 50) (pc := 44) dX8_strays_44 (c_X4_strayed plo_50 land_2 par_9 hcd hIP.2.2.2 hp6 (by rw [h31]; exact hx.2) hq) rfl vX8_196 sh_50 (by decide) rfl rfl rfl (by decide) <|
          ?_
        rintro _ m1 ⟨rfl, hS1⟩
        refine cw_goto (tgt := 52) (pc := 47) dX8_strays_47 (by decide) <|
          cw_iret (pc := 52) dX8_strays_52 hR <|
          ⟨by rw [straysA, if_pos ⟨hx, ht, hl⟩, nN_nI (by omega), nN_nI (by omega), nN_nI (by omega), e1], hS1.mo (fun q i h => by omega)⟩
      · refine cw_aload_n (pc := 0) dX8_strays_0 rfl rfl <|
          cw_getR (q := 0) (t := 2) (pc := 1) dX8_strays_1 fX8_25 sh_0 (by decide) rfl <|
          cw_iload_n (pc := 4) dX8_strays_4 rfl rfl <|
          cw_invI (q := 2) (pc := 5) dX8_strays_5 (c_has land_2 h31 hn h6) rfl vX8_112 sh_2 (by decide) rfl rfl rfl (by decide) <|
          cw_if_eq_F (tgt := 29) (pc := 8) dX8_strays_8 (by decide) (bI_n0.mpr hx) <|
          cw_iload_n (pc := 11) dX8_strays_11 rfl rfl <|
          cw_insI (pc := 12) dX8_strays_12 c_X8_isStep vX8_150 rfl rfl rfl (by decide) <|
          cw_if_eq_F (tgt := 29) (pc := 15) dX8_strays_15 (by decide) (bI_n0.mpr ht) <|
          cw_iload_n (pc := 18) dX8_strays_18 rfl rfl <|
          cw_insI (pc := 19) dX8_strays_19 c_X8_isLane vX8_105 rfl rfl rfl (by decide) <|
          cw_if_eq_T (tgt := 29) (pc := 22) dX8_strays_22 (by decide) (bI_0.mpr hl) <|
          cw_iconst (v := 0) (pc := 29) dX8_strays_29 (by decide) <|
          cw_istore (L' := [_, _, _, _, _]) (pc := 30) dX8_strays_30 (by decide) rfl rfl <|
          cw_iload (pc := 32) dX8_strays_32 rfl <|
          cw_if_eq_T (tgt := 50) (pc := 34) dX8_strays_34 (by decide) rfl <|
          cw_ldc (pc := 50) dX8_strays_50 kX8_115 <|
          cw_iret (pc := 52) dX8_strays_52 hR <|
          ⟨by rw [straysA, if_neg (fun h => hl h.2.2)], Same.rf⟩
    · refine cw_aload_n (pc := 0) dX8_strays_0 rfl rfl <|
        cw_getR (q := 0) (t := 2) (pc := 1) dX8_strays_1 fX8_25 sh_0 (by decide) rfl <|
        cw_iload_n (pc := 4) dX8_strays_4 rfl rfl <|
        cw_invI (q := 2) (pc := 5) dX8_strays_5 (c_has land_2 h31 hn h6) rfl vX8_112 sh_2 (by decide) rfl rfl rfl (by decide) <|
        cw_if_eq_F (tgt := 29) (pc := 8) dX8_strays_8 (by decide) (bI_n0.mpr hx) <|
        cw_iload_n (pc := 11) dX8_strays_11 rfl rfl <|
        cw_insI (pc := 12) dX8_strays_12 c_X8_isStep vX8_150 rfl rfl rfl (by decide) <|
        cw_if_eq_T (tgt := 29) (pc := 15) dX8_strays_15 (by decide) (bI_0.mpr ht) <|
        cw_iconst (v := 0) (pc := 29) dX8_strays_29 (by decide) <|
        cw_istore (L' := [_, _, _, _, _]) (pc := 30) dX8_strays_30 (by decide) rfl rfl <|
        cw_iload (pc := 32) dX8_strays_32 rfl <|
        cw_if_eq_T (tgt := 50) (pc := 34) dX8_strays_34 (by decide) rfl <|
        cw_ldc (pc := 50) dX8_strays_50 kX8_115 <|
        cw_iret (pc := 52) dX8_strays_52 hR <|
        ⟨by rw [straysA, if_neg (fun h => ht h.2.1)], Same.rf⟩
  · refine cw_aload_n (pc := 0) dX8_strays_0 rfl rfl <|
      cw_getR (q := 0) (t := 2) (pc := 1) dX8_strays_1 fX8_25 sh_0 (by decide) rfl <|
      cw_iload_n (pc := 4) dX8_strays_4 rfl rfl <|
      cw_invI (q := 2) (pc := 5) dX8_strays_5 (c_has land_2 h31 hn h6) rfl vX8_112 sh_2 (by decide) rfl rfl rfl (by decide) <|
      cw_if_eq_T (tgt := 29) (pc := 8) dX8_strays_8 (by decide) (bI_0.mpr hx) <|
      cw_iconst (v := 0) (pc := 29) dX8_strays_29 (by decide) <|
      cw_istore (L' := [_, _, _, _, _]) (pc := 30) dX8_strays_30 (by decide) rfl rfl <|
      cw_iload (pc := 32) dX8_strays_32 rfl <|
      cw_if_eq_T (tgt := 50) (pc := 34) dX8_strays_34 (by decide) rfl <|
      cw_ldc (pc := 50) dX8_strays_50 kX8_115 <|
      cw_iret (pc := 52) dX8_strays_52 hR <|
      ⟨by rw [straysA, if_neg (fun h => hx h.1)], Same.rf⟩
