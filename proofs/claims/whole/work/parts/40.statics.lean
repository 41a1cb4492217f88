/-! ===== the statics and the texts at the start ===== -/
theorem eq_ev {args : Array Value} {s : State} {t u : Term} {a : Nat} (h : (Cond.eq t u).before args s = true) (ht : t.eval args s none [] s = some (.ref a)) : u.eval args s none [] s = some (.ref a) := by
  cases hu : u.eval args s none [] s with
  | none => simp [Cond.before, Cond.holds, Cond.value, ht, hu] at h
  | some w =>
    simp only [Cond.before, Cond.holds, Cond.value, ht, hu] at h
    cases w <;> simp_all
def tmS : Nat → Term := fun i => ([.string RX5 35, .string RX5 37, .string RX5 39, .string RX5 85, .string RX5 91, .string RX9 108, .string RX9 114, .string RX9 119] : List Term).getD i (.arg 0)
theorem sta_start {b : Nat} {s : State} (hts : ∀ w ∈ lw_tbl, w.before #[Value.ref b] s = true) (hgv : (Jvm.Cond.and given_1 narrow_1).before #[Value.ref b] s = true) : ∃ sa : Nat → Nat, sa 100 = b ∧ ∀ E : Ev, (∀ k, 77 ≤ k → e_ad E k = sa k) → STa E (fun q => s.heap.size ≤ q) s s.heap := by
  have hs := flat_of_before _ hgv
  have hA : ∀ a : Nat, a < s.heap.size → ¬ (fun q : Nat => s.heap.size ≤ q) a := fun a h => Nat.not_le.mpr h
  obtain ⟨tA, eA, hTA⟩ := va_Tof (A := fun q : Nat => s.heap.size ≤ q) (tm := .static RX8 "ABOVE" "[I") (ty := .int) (N := 7) (f := fun j => .int (tabA j)) (by decide) (hs _ (by decide +kernel)) (va_eqt (hs _ (by decide +kernel))) (fun j hj => by
    rcases (show j = 0 ∨ j = 1 ∨ j = 2 ∨ j = 3 ∨ j = 4 ∨ j = 5 ∨ j = 6 by omega) with rfl | rfl | rfl | rfl | rfl | rfl | rfl <;> exact va_eqt (hs _ (by decide +kernel))) hA
  obtain ⟨tB, eB, hTB⟩ := va_Tof (A := fun q : Nat => s.heap.size ≤ q) (tm := .static RX1 "BODIES" "[I") (ty := .int) (N := 21) (f := fun j => .int (tabB j)) (by decide) (hs _ (by decide +kernel)) (va_eqt (hs _ (by decide +kernel))) (fun j hj => by
    rcases (show j = 0 ∨ j = 1 ∨ j = 2 ∨ j = 3 ∨ j = 4 ∨ j = 5 ∨ j = 6 ∨ j = 7 ∨ j = 8 ∨ j = 9 ∨ j = 10 ∨ j = 11 ∨ j = 12 ∨ j = 13 ∨ j = 14 ∨ j = 15 ∨ j = 16 ∨ j = 17 ∨ j = 18 ∨ j = 19 ∨ j = 20 by omega) with rfl | rfl | rfl | rfl | rfl | rfl | rfl | rfl | rfl | rfl | rfl | rfl | rfl | rfl | rfl | rfl | rfl | rfl | rfl | rfl | rfl <;> exact va_eqt (hs _ (by decide +kernel))) hA
  have hZA := va_Zof (A := fun q : Nat => s.heap.size ≤ q) (hts (.laysStatic RX8 "ABOVE" "[I") (mT 742 (by decide +kernel))) (hts (.initialized RX8) (mT 1 (by decide +kernel))) eA hA
  have hZB := va_Zof (A := fun q : Nat => s.heap.size ≤ q) (hts (.laysStatic RX1 "BODIES" "[I") (mT 740 (by decide +kernel))) (hts (.initialized RX1) (mT 10 (by decide +kernel))) eB hA
  have hZC := va_Zof (A := fun q : Nat => s.heap.size ≤ q) (hts (.laysStatic "java/lang/String" "COMPACT_STRINGS" "Z") (mT 358 (by decide +kernel))) (hts (.initialized "java/lang/String") (mT 12 (by decide +kernel))) (va_eqi (hs (.eq (.static "java/lang/String" "COMPACT_STRINGS" "Z") (.int 1)) (by decide +kernel))) hA
  have hZS : ∃ tS : Nat, va_Z "jdk/internal/util/Preconditions" "SIOOBE_FORMATTER" "Ljava/util/function/BiFunction;" .null (fun q : Nat => s.heap.size ≤ q) s s.heap ∨ va_Z "jdk/internal/util/Preconditions" "SIOOBE_FORMATTER" "Ljava/util/function/BiFunction;" (.ref tS) (fun q : Nat => s.heap.size ≤ q) s s.heap := by
    have hr := hs (.isRef (.static "jdk/internal/util/Preconditions" "SIOOBE_FORMATTER" "Ljava/util/function/BiFunction;")) (by decide +kernel)
    have hv : ∃ v, (Term.static "jdk/internal/util/Preconditions" "SIOOBE_FORMATTER" "Ljava/util/function/BiFunction;").eval #[Value.ref b] s none [] s = some v ∧ v.isRef = true := by
      cases hu : (Term.static "jdk/internal/util/Preconditions" "SIOOBE_FORMATTER" "Ljava/util/function/BiFunction;").eval #[Value.ref b] s none [] s with
      | none => simp [Cond.before, Cond.holds, Cond.value, hu] at hr
      | some w => exact ⟨w, rfl, by cases w <;> first | rfl | (exfalso; simp [Cond.before, Cond.holds, Cond.value, hu] at hr)⟩
    obtain ⟨v, ev, hv⟩ := hv
    have hZ := va_Zof (A := fun q : Nat => s.heap.size ≤ q) (hts (.laysStatic "jdk/internal/util/Preconditions" "SIOOBE_FORMATTER" "Ljava/util/function/BiFunction;") (mT 374 (by decide +kernel))) (hts (.initialized "jdk/internal/util/Preconditions") (mT 14 (by decide +kernel))) ev hA
    cases v with
    | null => exact ⟨0, Or.inl hZ⟩
    | ref t => exact ⟨t, Or.inr hZ⟩
    | _ => simp [Value.isRef] at hv
  obtain ⟨tS, hZS⟩ := hZS
  obtain ⟨adK, adV, hvk, hev⟩ := vk_Sof (A := fun q : Nat => s.heap.size ≤ q) (args := #[Value.ref b]) (s := s) (N := 8) (tm := tmS) (len := lenS) (byt := bytS)
    (fun i hi => by rcases (show i = 0 ∨ i = 1 ∨ i = 2 ∨ i = 3 ∨ i = 4 ∨ i = 5 ∨ i = 6 ∨ i = 7 by omega) with rfl | rfl | rfl | rfl | rfl | rfl | rfl | rfl <;> decide)
    (fun i hi => by rcases (show i = 0 ∨ i = 1 ∨ i = 2 ∨ i = 3 ∨ i = 4 ∨ i = 5 ∨ i = 6 ∨ i = 7 by omega) with rfl | rfl | rfl | rfl | rfl | rfl | rfl | rfl <;> exact hs _ (by decide +kernel))
    (fun i hi => by rcases (show i = 0 ∨ i = 1 ∨ i = 2 ∨ i = 3 ∨ i = 4 ∨ i = 5 ∨ i = 6 ∨ i = 7 by omega) with rfl | rfl | rfl | rfl | rfl | rfl | rfl | rfl <;> exact hs _ (by decide +kernel))
    (fun i hi => by rcases (show i = 0 ∨ i = 1 ∨ i = 2 ∨ i = 3 ∨ i = 4 ∨ i = 5 ∨ i = 6 ∨ i = 7 by omega) with rfl | rfl | rfl | rfl | rfl | rfl | rfl | rfl <;> exact hs _ (by decide +kernel))
    (fun i hi => by rcases (show i = 0 ∨ i = 1 ∨ i = 2 ∨ i = 3 ∨ i = 4 ∨ i = 5 ∨ i = 6 ∨ i = 7 by omega) with rfl | rfl | rfl | rfl | rfl | rfl | rfl | rfl <;> exact hs _ (by decide +kernel))
    (fun i hi j hj => by
      rcases (show i = 0 ∨ i = 1 ∨ i = 2 ∨ i = 3 ∨ i = 4 ∨ i = 5 ∨ i = 6 ∨ i = 7 by omega) with rfl | rfl | rfl | rfl | rfl | rfl | rfl | rfl <;>
      · have hj' : j < 6 := Nat.lt_of_lt_of_le hj (by decide)
        rcases (show j = 0 ∨ j = 1 ∨ j = 2 ∨ j = 3 ∨ j = 4 ∨ j = 5 by omega) with rfl | rfl | rfl | rfl | rfl | rfl <;> first | exact absurd hj (by decide) | exact hs _ (by decide +kernel))
    (fun i j hi hj hij => by
      rcases (show i = 0 ∨ i = 1 ∨ i = 2 ∨ i = 3 ∨ i = 4 ∨ i = 5 ∨ i = 6 ∨ i = 7 by omega) with rfl | rfl | rfl | rfl | rfl | rfl | rfl | rfl <;>
      rcases (show j = 0 ∨ j = 1 ∨ j = 2 ∨ j = 3 ∨ j = 4 ∨ j = 5 ∨ j = 6 ∨ j = 7 by omega) with rfl | rfl | rfl | rfl | rfl | rfl | rfl | rfl <;>
      first | exact absurd rfl hij | exact Or.inl (hs _ (by decide +kernel)) | exact Or.inr (hs _ (by decide +kernel))) hA
  refine ⟨fun k => if k = 77 then tA else if k = 78 then tB else if k = 79 then tS else if k < 90 then adK (k - 80) else if k < 100 then adV (k - 90) else b, rfl, fun E hE => ?_⟩
  have e77 : e_ad E 77 = tA := hE 77 (by decide)
  have e78 : e_ad E 78 = tB := hE 78 (by decide)
  have e79 : e_ad E 79 = tS := hE 79 (by decide)
  have eK : ∀ i, i < 8 → e_ad E (80 + i) = adK i := fun i hi => by
    rw [hE _ (by omega)]
    dsimp only
    rw [if_neg (by omega), if_neg (by omega), if_neg (by omega), if_pos (by omega), Nat.add_sub_cancel_left]
  have eV : ∀ i, i < 8 → e_ad E (90 + i) = adV i := fun i hi => by
    rw [hE _ (by omega)]
    dsimp only
    rw [if_neg (by omega), if_neg (by omega), if_neg (by omega), if_neg (by omega), if_pos (by omega), Nat.add_sub_cancel_left]
  refine ⟨by rw [e77]; exact hZA, by rw [e77]; exact hTA, by rw [e78]; exact hZB, by rw [e78]; exact hTB, hZC, by rw [e79]; exact hZS, ⟨fun i hi => ?_, fun i j hi hj e => ?_⟩, fun q hq => ?_⟩
  · dsimp only
    rw [eK i hi, eV i hi]; exact hvk.1 i hi
  · dsimp only at e
    rw [eK i hi, eK j hj] at e; exact hvk.2 i j hi hj e
  · have r3 := eq_ev (hs (.eq (.string RX5 85) (.string RX9 90)) (by decide +kernel)) (hev 3 (by decide))
    have r4 := eq_ev (hs (.eq (.string RX5 91) (.string RX9 96)) (by decide +kernel)) (hev 4 (by decide))
    have all : ∀ z ∈ refS, z = (RX5, 35, "pass", 0) ∨ z = (RX5, 37, "draw", 1) ∨ z = (RX5, 39, "hold", 2) ∨ z = (RX5, 85, "pkxlfy", 3) ∨ z = (RX5, 91, "<=>", 4) ∨ z = (RX9, 108, "pass ", 5) ∨ z = (RX9, 114, "draw ", 6) ∨ z = (RX9, 119, "hold ", 7) ∨ z = (RX9, 90, "pkxlfy", 3) ∨ z = (RX9, 96, "<=>", 4) := fun z hz => by simpa [refS] using hz
    rcases all q hq with rfl | rfl | rfl | rfl | rfl | rfl | rfl | rfl | rfl | rfl
    · rw [eK 0 (by decide)]; exact vk_R.of (hts _ (mT 342 (by decide +kernel))) (hev 0 (by decide))
    · rw [eK 1 (by decide)]; exact vk_R.of (hts _ (mT 343 (by decide +kernel))) (hev 1 (by decide))
    · rw [eK 2 (by decide)]; exact vk_R.of (hts _ (mT 344 (by decide +kernel))) (hev 2 (by decide))
    · rw [eK 3 (by decide)]; exact vk_R.of (hts _ (mT 424 (by decide +kernel))) (hev 3 (by decide))
    · rw [eK 4 (by decide)]; exact vk_R.of (hts _ (mT 429 (by decide +kernel))) (hev 4 (by decide))
    · rw [eK 5 (by decide)]; exact vk_R.of (hts _ (mT 878 (by decide +kernel))) (hev 5 (by decide))
    · rw [eK 6 (by decide)]; exact vk_R.of (hts _ (mT 897 (by decide +kernel))) (hev 6 (by decide))
    · rw [eK 7 (by decide)]; exact vk_R.of (hts _ (mT 924 (by decide +kernel))) (hev 7 (by decide))
    · rw [eK 3 (by decide)]; exact vk_R.of (hts _ (mT 918 (by decide +kernel))) r3
    · rw [eK 4 (by decide)]; exact vk_R.of (hts _ (mT 923 (by decide +kernel))) r4
