/-! ===== more rows: indexes as nI of a Nat, calls by functional contracts, known branches, shapes ===== -/
theorem nx_add {x y : Int32} {a b : Nat} (hx : x = nI a) (hy : y = nI b) : x + y = nI (a + b) := by rw [hx, hy, nI_add]
theorem nx_mul {x y : Int32} {a b : Nat} (hx : x = nI a) (hy : y = nI b) : x * y = nI (a * b) := by rw [hx, hy, pk_mul]
def bI (p : Prop) [Decidable p] : Int32 := if p then 1 else 0
theorem bI_t {p : Prop} [Decidable p] (h : p) : bI p = 1 := if_pos h
theorem bI_f {p : Prop} [Decidable p] (h : ¬ p) : bI p = 0 := if_neg h
theorem bI_0 {p : Prop} [Decidable p] : bI p = 0 ↔ ¬ p := by unfold bI; split <;> simp_all
theorem bI_n0 {p : Prop} [Decidable p] : ¬ bI p = 0 ↔ p := by unfold bI; split <;> simp_all
theorem bI_cases (p : Prop) [Decidable p] : bI p = 0 ∨ bI p = 1 := by unfold bI; split <;> simp
theorem nb_ok {v : Int32} (h : v = 0 ∨ v = 1) : narrow .boolean (.int v) = .int v := by rcases h with rfl | rfl <;> rfl
theorem fb_ok {v : Int32} (h : v = 0 ∨ v = 1) : fits .boolean (.int v) = true := by rcases h with rfl | rfl <;> rfl
theorem vb_ok {v : Int32} (h : v = 0 ∨ v = 1) : vp_nar .boolean v = v := by rcases h with rfl | rfl <;> rfl
section Rows5
variable {E : Ev} {Γ : Cx} {cc : ByteArray} {nL : Nat} {own : String} {d pc : Nat} {L S : List Value} {μ : Mem} {ret : Option FieldType} {Q : Option Value → Mem → Prop}
theorem cw_ial {q n jn : Nat} {x : List (Option Nat)} {j : Int32} (hd : decode cc pc = .ok (.iaload, 1)) (hs : shape[q]? = some (100, n, x)) (hj : j = nI jn) (hlt : jn < n) (hn : n < 2 ^ 31) (k : CW E Γ cc nL own d (pc + 1) L (.int (μ q jn) :: S) μ) : CW E Γ cc nL own d pc L (.int j :: .ref q :: S) μ := by
  subst hj
  exact cw_iald hd hs (vp_in_nI hlt (by omega)) (by rw [nI_clamp (by omega)]; exact k)
theorem cw_bal {q n jn : Nat} {x : List (Option Nat)} {j : Int32} (hd : decode cc pc = .ok (.baload, 1)) (hs : shape[q]? = some (101, n, x)) (hj : j = nI jn) (hlt : jn < n) (hn : n < 2 ^ 31) (k : CW E Γ cc nL own d (pc + 1) L (.int (μ q jn) :: S) μ) : CW E Γ cc nL own d pc L (.int j :: .ref q :: S) μ := by
  subst hj
  exact cw_bald hd hs (vp_in_nI hlt (by omega)) (by rw [nI_clamp (by omega)]; exact k)
theorem cw_ias {q n jn : Nat} {x : List (Option Nat)} {j v : Int32} (hd : decode cc pc = .ok (.iastore, 1)) (hs : shape[q]? = some (100, n, x)) (hj : j = nI jn) (hlt : jn < n) (hn : n < 2 ^ 31) (k : CW E Γ cc nL own d (pc + 1) L S (st μ q jn v)) : CW E Γ cc nL own d pc L (.int v :: .int j :: .ref q :: S) μ := by
  subst hj
  exact cw_iast hd hs (vp_in_nI hlt (by omega)) (by rw [nI_clamp (by omega)]; exact k)
theorem cw_bas {q n jn : Nat} {x : List (Option Nat)} {j v : Int32} (hd : decode cc pc = .ok (.bastore, 1)) (hs : shape[q]? = some (101, n, x)) (hj : j = nI jn) (hlt : jn < n) (hn : n < 2 ^ 31) (hv : v = 0 ∨ v = 1) (k : CW E Γ cc nL own d (pc + 1) L S (st μ q jn v)) : CW E Γ cc nL own d pc L (.int v :: .int j :: .ref q :: S) μ := by
  subst hj
  exact cw_bast hd hs (vp_in_nI hlt (by omega)) (by rw [nI_clamp (by omega), vb_ok hv]; exact k)
theorem cw_putZ {q idx ci i n : Nat} {fs : List (Option Nat)} {v : Int32} (hd : decode cc pc = .ok (.putfield idx, 3)) (hF : POK own idx ci i .boolean) (hs : shape[q]? = some (ci, n, fs)) (hc : ci < 100) (ho : fs[i]? = some none) (hv : v = 0 ∨ v = 1) (k : CW E Γ cc nL own d (pc + 3) L S (st μ q i v)) : CW E Γ cc nL own d pc L (.int v :: .ref q :: S) μ := cw_putf hd hF hs hc ho (nb_ok hv) (fb_ok hv) k
theorem cw_iincL {i : Nat} {n : Int} {x c : Int32} {L' : List Value} (hd : decode cc pc = .ok (.iinc i n, 3)) (hx : L[i]? = some (.int x)) (hv : Int32.ofInt n = c) (hn : i < nL) (hno : noL L i = true) (hL : L.set i (.int (x + c)) = L') (k : CW E Γ cc nL own d (pc + 3) L' S μ) : CW E Γ cc nL own d pc L S μ := cw_iinc hd hx (by rw [hv]) hn hno hL k
theorem CW.joinP {y : MethodName} {cc' : ByteArray} {nL' dd : Nat} {ret' : Option FieldType} {vs : List Value} {P : Option Value → Mem → Prop} (h : AM E y cc' nL' ret' dd vs μ P) (k : ∀ r μ', P r μ' → CW E Γ cc nL own d (pc + 3) L (r.toList ++ S) μ') : AM E y cc' nL' ret' dd vs μ (fun r μ' => CW E Γ cc nL own d (pc + 3) L (r.toList ++ S) μ') := h.mono k

theorem cw_invI {y : MethodName} {cc' : ByteArray} {nL' n ci idx q dd m' : Nat} {ret' : Option FieldType} {fs : List (Option Nat)} {As st0 : List Value} {rq : vw_C} {x : Int32} {μ0 : Mem} (hd : decode cc pc = .ok (.invokevirtual idx, 3)) (h : AM E y cc' nL' ret' dd (.ref q :: As) μ (fun r μ' => r = some (.int x) ∧ μ' = μ0)) (hq : vwCl[ci]? = some rq) (hV : VOK own idx rq.1 y cc' nL' ret' n) (hs : shape[q]? = some (ci, m', fs)) (hc : ci < 100) (hn : As.length = n) (hst : st0 = As.reverse ++ .ref q :: S) (hcat : Nat.ble (S.map Value.category).sum 8 = true) (hdd : dd < d) (k : CW E Γ cc nL own d (pc + 3) L (.int x :: S) μ0) : CW E Γ cc nL own d pc L st0 μ :=
  cw_inv (rest := []) hd hq hV hs hc hn hst (Nat.le_of_ble_eq_true hcat) hdd (CW.joinP h (by rintro _ _ ⟨rfl, rfl⟩; exact k))
theorem cw_invL {y : MethodName} {cc' : ByteArray} {nL' n ci idx q dd m' : Nat} {ret' : Option FieldType} {fs : List (Option Nat)} {As st0 : List Value} {rq : vw_C} {x : Int64} {μ0 : Mem} (hd : decode cc pc = .ok (.invokevirtual idx, 3)) (h : AM E y cc' nL' ret' dd (.ref q :: As) μ (fun r μ' => r = some (.long x) ∧ μ' = μ0)) (hq : vwCl[ci]? = some rq) (hV : VOK own idx rq.1 y cc' nL' ret' n) (hs : shape[q]? = some (ci, m', fs)) (hc : ci < 100) (hn : As.length = n) (hst : st0 = As.reverse ++ .ref q :: S) (hcat : Nat.ble (S.map Value.category).sum 8 = true) (hdd : dd < d) (k : CW E Γ cc nL own d (pc + 3) L (.long x :: S) μ0) : CW E Γ cc nL own d pc L st0 μ :=
  cw_inv (rest := []) hd hq hV hs hc hn hst (Nat.le_of_ble_eq_true hcat) hdd (CW.joinP h (by rintro _ _ ⟨rfl, rfl⟩; exact k))
theorem cw_invV {y : MethodName} {cc' : ByteArray} {nL' n ci idx q dd m' : Nat} {ret' : Option FieldType} {fs : List (Option Nat)} {As st0 : List Value} {rq : vw_C} {μ0 : Mem} (hd : decode cc pc = .ok (.invokevirtual idx, 3)) (h : AM E y cc' nL' ret' dd (.ref q :: As) μ (fun r μ' => r = none ∧ μ' = μ0)) (hq : vwCl[ci]? = some rq) (hV : VOK own idx rq.1 y cc' nL' ret' n) (hs : shape[q]? = some (ci, m', fs)) (hc : ci < 100) (hn : As.length = n) (hst : st0 = As.reverse ++ .ref q :: S) (hcat : Nat.ble (S.map Value.category).sum 8 = true) (hdd : dd < d) (k : CW E Γ cc nL own d (pc + 3) L (S) μ0) : CW E Γ cc nL own d pc L st0 μ :=
  cw_inv (rest := []) hd hq hV hs hc hn hst (Nat.le_of_ble_eq_true hcat) hdd (CW.joinP h (by rintro _ _ ⟨rfl, rfl⟩; exact k))
theorem cw_invP {y : MethodName} {cc' : ByteArray} {nL' n ci idx q dd m' : Nat} {ret' : Option FieldType} {fs : List (Option Nat)} {As st0 : List Value} {rq : vw_C} {P : Option Value → Mem → Prop} (hd : decode cc pc = .ok (.invokevirtual idx, 3)) (h : AM E y cc' nL' ret' dd (.ref q :: As) μ P) (hq : vwCl[ci]? = some rq) (hV : VOK own idx rq.1 y cc' nL' ret' n) (hs : shape[q]? = some (ci, m', fs)) (hc : ci < 100) (hn : As.length = n) (hst : st0 = As.reverse ++ .ref q :: S) (hcat : Nat.ble (S.map Value.category).sum 8 = true) (hdd : dd < d) (k : ∀ r μ', P r μ' → CW E Γ cc nL own d (pc + 3) L (r.toList ++ S) μ') : CW E Γ cc nL own d pc L st0 μ :=
  cw_inv (rest := []) hd hq hV hs hc hn hst (Nat.le_of_ble_eq_true hcat) hdd (CW.joinP h k)
theorem cw_invSI {y : MethodName} {cc' : ByteArray} {nL' n idx i dd : Nat} {ret' : Option FieldType} {As st0 : List Value} {x : Int32} {μ0 : Mem} (hi : i < 8) (hd : decode cc pc = .ok (.invokevirtual idx, 3)) (h : AM E y cc' nL' ret' dd (.ref (80 + i) :: As) μ (fun r μ' => r = some (.int x) ∧ μ' = μ0)) (hV : VOK own idx "java/lang/String" y cc' nL' ret' n) (hn : As.length = n) (hst : st0 = As.reverse ++ .ref (80 + i) :: S) (hcat : Nat.ble (S.map Value.category).sum 8 = true) (hdd : dd < d) (k : CW E Γ cc nL own d (pc + 3) L (.int x :: S) μ0) : CW E Γ cc nL own d pc L st0 μ :=
  cw_invS hi hd hV hn hst (Nat.le_of_ble_eq_true hcat) hdd (CW.joinP h (by rintro _ _ ⟨rfl, rfl⟩; exact k))
theorem cw_invSL {y : MethodName} {cc' : ByteArray} {nL' n idx i dd : Nat} {ret' : Option FieldType} {As st0 : List Value} {x : Int64} {μ0 : Mem} (hi : i < 8) (hd : decode cc pc = .ok (.invokevirtual idx, 3)) (h : AM E y cc' nL' ret' dd (.ref (80 + i) :: As) μ (fun r μ' => r = some (.long x) ∧ μ' = μ0)) (hV : VOK own idx "java/lang/String" y cc' nL' ret' n) (hn : As.length = n) (hst : st0 = As.reverse ++ .ref (80 + i) :: S) (hcat : Nat.ble (S.map Value.category).sum 8 = true) (hdd : dd < d) (k : CW E Γ cc nL own d (pc + 3) L (.long x :: S) μ0) : CW E Γ cc nL own d pc L st0 μ :=
  cw_invS hi hd hV hn hst (Nat.le_of_ble_eq_true hcat) hdd (CW.joinP h (by rintro _ _ ⟨rfl, rfl⟩; exact k))
theorem cw_invSV {y : MethodName} {cc' : ByteArray} {nL' n idx i dd : Nat} {ret' : Option FieldType} {As st0 : List Value} {μ0 : Mem} (hi : i < 8) (hd : decode cc pc = .ok (.invokevirtual idx, 3)) (h : AM E y cc' nL' ret' dd (.ref (80 + i) :: As) μ (fun r μ' => r = none ∧ μ' = μ0)) (hV : VOK own idx "java/lang/String" y cc' nL' ret' n) (hn : As.length = n) (hst : st0 = As.reverse ++ .ref (80 + i) :: S) (hcat : Nat.ble (S.map Value.category).sum 8 = true) (hdd : dd < d) (k : CW E Γ cc nL own d (pc + 3) L (S) μ0) : CW E Γ cc nL own d pc L st0 μ :=
  cw_invS hi hd hV hn hst (Nat.le_of_ble_eq_true hcat) hdd (CW.joinP h (by rintro _ _ ⟨rfl, rfl⟩; exact k))
theorem cw_invSP {y : MethodName} {cc' : ByteArray} {nL' n idx i dd : Nat} {ret' : Option FieldType} {As st0 : List Value} {P : Option Value → Mem → Prop} (hi : i < 8) (hd : decode cc pc = .ok (.invokevirtual idx, 3)) (h : AM E y cc' nL' ret' dd (.ref (80 + i) :: As) μ P) (hV : VOK own idx "java/lang/String" y cc' nL' ret' n) (hn : As.length = n) (hst : st0 = As.reverse ++ .ref (80 + i) :: S) (hcat : Nat.ble (S.map Value.category).sum 8 = true) (hdd : dd < d) (k : ∀ r μ', P r μ' → CW E Γ cc nL own d (pc + 3) L (r.toList ++ S) μ') : CW E Γ cc nL own d pc L st0 μ :=
  cw_invS hi hd hV hn hst (Nat.le_of_ble_eq_true hcat) hdd (CW.joinP h k)
theorem cw_insI {y : MethodName} {cc' : ByteArray} {nL' n idx dd : Nat} {ret' : Option FieldType} {As st0 : List Value} {x : Int32} {μ0 : Mem} (hd : decode cc pc = .ok (.invokestatic idx, 3)) (h : AM E y cc' nL' ret' dd As μ (fun r μ' => r = some (.int x) ∧ μ' = μ0)) (hV : SOK own idx y cc' nL' ret' n) (hn : As.length = n) (hst : st0 = As.reverse ++ S) (hcat : Nat.ble (S.map Value.category).sum 8 = true) (hdd : dd < d) (k : CW E Γ cc nL own d (pc + 3) L (.int x :: S) μ0) : CW E Γ cc nL own d pc L st0 μ :=
  cw_ins hd hV hn hst (Nat.le_of_ble_eq_true hcat) hdd (CW.joinP h (by rintro _ _ ⟨rfl, rfl⟩; exact k))
theorem cw_insL {y : MethodName} {cc' : ByteArray} {nL' n idx dd : Nat} {ret' : Option FieldType} {As st0 : List Value} {x : Int64} {μ0 : Mem} (hd : decode cc pc = .ok (.invokestatic idx, 3)) (h : AM E y cc' nL' ret' dd As μ (fun r μ' => r = some (.long x) ∧ μ' = μ0)) (hV : SOK own idx y cc' nL' ret' n) (hn : As.length = n) (hst : st0 = As.reverse ++ S) (hcat : Nat.ble (S.map Value.category).sum 8 = true) (hdd : dd < d) (k : CW E Γ cc nL own d (pc + 3) L (.long x :: S) μ0) : CW E Γ cc nL own d pc L st0 μ :=
  cw_ins hd hV hn hst (Nat.le_of_ble_eq_true hcat) hdd (CW.joinP h (by rintro _ _ ⟨rfl, rfl⟩; exact k))
theorem cw_insV {y : MethodName} {cc' : ByteArray} {nL' n idx dd : Nat} {ret' : Option FieldType} {As st0 : List Value} {μ0 : Mem} (hd : decode cc pc = .ok (.invokestatic idx, 3)) (h : AM E y cc' nL' ret' dd As μ (fun r μ' => r = none ∧ μ' = μ0)) (hV : SOK own idx y cc' nL' ret' n) (hn : As.length = n) (hst : st0 = As.reverse ++ S) (hcat : Nat.ble (S.map Value.category).sum 8 = true) (hdd : dd < d) (k : CW E Γ cc nL own d (pc + 3) L (S) μ0) : CW E Γ cc nL own d pc L st0 μ :=
  cw_ins hd hV hn hst (Nat.le_of_ble_eq_true hcat) hdd (CW.joinP h (by rintro _ _ ⟨rfl, rfl⟩; exact k))
theorem cw_insP {y : MethodName} {cc' : ByteArray} {nL' n idx dd : Nat} {ret' : Option FieldType} {As st0 : List Value} {P : Option Value → Mem → Prop} (hd : decode cc pc = .ok (.invokestatic idx, 3)) (h : AM E y cc' nL' ret' dd As μ P) (hV : SOK own idx y cc' nL' ret' n) (hn : As.length = n) (hst : st0 = As.reverse ++ S) (hcat : Nat.ble (S.map Value.category).sum 8 = true) (hdd : dd < d) (k : ∀ r μ', P r μ' → CW E Γ cc nL own d (pc + 3) L (r.toList ++ S) μ') : CW E Γ cc nL own d pc L st0 μ :=
  cw_ins hd hV hn hst (Nat.le_of_ble_eq_true hcat) hdd (CW.joinP h k)
theorem cw_insNI {y : MethodName} {host : String} {cc' : ByteArray} {nL' n idx dd : Nat} {ret' : Option FieldType} {As st0 : List Value} {x : Int32} {μ0 : Mem} (hd : decode cc pc = .ok (.invokestatic idx, 3)) (h : AM E y cc' nL' ret' dd As μ (fun r μ' => r = some (.int x) ∧ μ' = μ0)) (hV : NOK own idx y host cc' nL' ret' n) (hn : As.length = n) (hst : st0 = As.reverse ++ S) (hcat : Nat.ble (S.map Value.category).sum 8 = true) (hdd : dd < d) (k : CW E Γ cc nL own d (pc + 3) L (.int x :: S) μ0) : CW E Γ cc nL own d pc L st0 μ :=
  cw_insN hd hV hn hst (Nat.le_of_ble_eq_true hcat) hdd (CW.joinP h (by rintro _ _ ⟨rfl, rfl⟩; exact k))
theorem cw_insNL {y : MethodName} {host : String} {cc' : ByteArray} {nL' n idx dd : Nat} {ret' : Option FieldType} {As st0 : List Value} {x : Int64} {μ0 : Mem} (hd : decode cc pc = .ok (.invokestatic idx, 3)) (h : AM E y cc' nL' ret' dd As μ (fun r μ' => r = some (.long x) ∧ μ' = μ0)) (hV : NOK own idx y host cc' nL' ret' n) (hn : As.length = n) (hst : st0 = As.reverse ++ S) (hcat : Nat.ble (S.map Value.category).sum 8 = true) (hdd : dd < d) (k : CW E Γ cc nL own d (pc + 3) L (.long x :: S) μ0) : CW E Γ cc nL own d pc L st0 μ :=
  cw_insN hd hV hn hst (Nat.le_of_ble_eq_true hcat) hdd (CW.joinP h (by rintro _ _ ⟨rfl, rfl⟩; exact k))
theorem cw_insNV {y : MethodName} {host : String} {cc' : ByteArray} {nL' n idx dd : Nat} {ret' : Option FieldType} {As st0 : List Value} {μ0 : Mem} (hd : decode cc pc = .ok (.invokestatic idx, 3)) (h : AM E y cc' nL' ret' dd As μ (fun r μ' => r = none ∧ μ' = μ0)) (hV : NOK own idx y host cc' nL' ret' n) (hn : As.length = n) (hst : st0 = As.reverse ++ S) (hcat : Nat.ble (S.map Value.category).sum 8 = true) (hdd : dd < d) (k : CW E Γ cc nL own d (pc + 3) L (S) μ0) : CW E Γ cc nL own d pc L st0 μ :=
  cw_insN hd hV hn hst (Nat.le_of_ble_eq_true hcat) hdd (CW.joinP h (by rintro _ _ ⟨rfl, rfl⟩; exact k))
theorem cw_insNP {y : MethodName} {host : String} {cc' : ByteArray} {nL' n idx dd : Nat} {ret' : Option FieldType} {As st0 : List Value} {P : Option Value → Mem → Prop} (hd : decode cc pc = .ok (.invokestatic idx, 3)) (h : AM E y cc' nL' ret' dd As μ P) (hV : NOK own idx y host cc' nL' ret' n) (hn : As.length = n) (hst : st0 = As.reverse ++ S) (hcat : Nat.ble (S.map Value.category).sum 8 = true) (hdd : dd < d) (k : ∀ r μ', P r μ' → CW E Γ cc nL own d (pc + 3) L (r.toList ++ S) μ') : CW E Γ cc nL own d pc L st0 μ :=
  cw_insN hd hV hn hst (Nat.le_of_ble_eq_true hcat) hdd (CW.joinP h k)
theorem cw_if_eq_T {x : Int32} {off : Int} {tgt : Nat} (hd : decode cc pc = .ok (.ifCond .eq off, 3)) (ht : (pc : Int) + off = (tgt : Int)) (h : x = 0) (k : CW E Γ cc nL own d tgt L S μ) : CW E Γ cc nL own d pc L (.int x :: S) μ := cw_if_eq hd ht (fun _ => k) (fun c => False.elim (by exact c h))
theorem cw_if_eq_F {x : Int32} {off : Int} {tgt : Nat} (hd : decode cc pc = .ok (.ifCond .eq off, 3)) (ht : (pc : Int) + off = (tgt : Int)) (h : ¬ x = 0) (k : CW E Γ cc nL own d (pc + 3) L S μ) : CW E Γ cc nL own d pc L (.int x :: S) μ := cw_if_eq hd ht (fun c => False.elim (by exact h c)) (fun _ => k)
theorem cw_if_ne_T {x : Int32} {off : Int} {tgt : Nat} (hd : decode cc pc = .ok (.ifCond .ne off, 3)) (ht : (pc : Int) + off = (tgt : Int)) (h : ¬ x = 0) (k : CW E Γ cc nL own d tgt L S μ) : CW E Γ cc nL own d pc L (.int x :: S) μ := cw_if_ne hd ht (fun _ => k) (fun c => False.elim (by exact h c))
theorem cw_if_ne_F {x : Int32} {off : Int} {tgt : Nat} (hd : decode cc pc = .ok (.ifCond .ne off, 3)) (ht : (pc : Int) + off = (tgt : Int)) (h : x = 0) (k : CW E Γ cc nL own d (pc + 3) L S μ) : CW E Γ cc nL own d pc L (.int x :: S) μ := cw_if_ne hd ht (fun c => False.elim (by exact c h)) (fun _ => k)
theorem cw_if_lt_T {x : Int32} {off : Int} {tgt : Nat} (hd : decode cc pc = .ok (.ifCond .lt off, 3)) (ht : (pc : Int) + off = (tgt : Int)) (h : x < 0) (k : CW E Γ cc nL own d tgt L S μ) : CW E Γ cc nL own d pc L (.int x :: S) μ := cw_if_lt hd ht (fun _ => k) (fun c => False.elim (by exact c h))
theorem cw_if_lt_F {x : Int32} {off : Int} {tgt : Nat} (hd : decode cc pc = .ok (.ifCond .lt off, 3)) (ht : (pc : Int) + off = (tgt : Int)) (h : ¬ x < 0) (k : CW E Γ cc nL own d (pc + 3) L S μ) : CW E Γ cc nL own d pc L (.int x :: S) μ := cw_if_lt hd ht (fun c => False.elim (by exact h c)) (fun _ => k)
theorem cw_if_ge_T {x : Int32} {off : Int} {tgt : Nat} (hd : decode cc pc = .ok (.ifCond .ge off, 3)) (ht : (pc : Int) + off = (tgt : Int)) (h : 0 ≤ x) (k : CW E Γ cc nL own d tgt L S μ) : CW E Γ cc nL own d pc L (.int x :: S) μ := cw_if_ge hd ht (fun _ => k) (fun c => False.elim (by exact c h))
theorem cw_if_ge_F {x : Int32} {off : Int} {tgt : Nat} (hd : decode cc pc = .ok (.ifCond .ge off, 3)) (ht : (pc : Int) + off = (tgt : Int)) (h : ¬ 0 ≤ x) (k : CW E Γ cc nL own d (pc + 3) L S μ) : CW E Γ cc nL own d pc L (.int x :: S) μ := cw_if_ge hd ht (fun c => False.elim (by exact h c)) (fun _ => k)
theorem cw_if_gt_T {x : Int32} {off : Int} {tgt : Nat} (hd : decode cc pc = .ok (.ifCond .gt off, 3)) (ht : (pc : Int) + off = (tgt : Int)) (h : 0 < x) (k : CW E Γ cc nL own d tgt L S μ) : CW E Γ cc nL own d pc L (.int x :: S) μ := cw_if_gt hd ht (fun _ => k) (fun c => False.elim (by exact c h))
theorem cw_if_gt_F {x : Int32} {off : Int} {tgt : Nat} (hd : decode cc pc = .ok (.ifCond .gt off, 3)) (ht : (pc : Int) + off = (tgt : Int)) (h : ¬ 0 < x) (k : CW E Γ cc nL own d (pc + 3) L S μ) : CW E Γ cc nL own d pc L (.int x :: S) μ := cw_if_gt hd ht (fun c => False.elim (by exact h c)) (fun _ => k)
theorem cw_if_le_T {x : Int32} {off : Int} {tgt : Nat} (hd : decode cc pc = .ok (.ifCond .le off, 3)) (ht : (pc : Int) + off = (tgt : Int)) (h : x ≤ 0) (k : CW E Γ cc nL own d tgt L S μ) : CW E Γ cc nL own d pc L (.int x :: S) μ := cw_if_le hd ht (fun _ => k) (fun c => False.elim (by exact c h))
theorem cw_if_le_F {x : Int32} {off : Int} {tgt : Nat} (hd : decode cc pc = .ok (.ifCond .le off, 3)) (ht : (pc : Int) + off = (tgt : Int)) (h : ¬ x ≤ 0) (k : CW E Γ cc nL own d (pc + 3) L S μ) : CW E Γ cc nL own d pc L (.int x :: S) μ := cw_if_le hd ht (fun c => False.elim (by exact h c)) (fun _ => k)
theorem cw_icmp_eq_T {x y : Int32} {off : Int} {tgt : Nat} (hd : decode cc pc = .ok (.if_icmp .eq off, 3)) (ht : (pc : Int) + off = (tgt : Int)) (h : x = y) (k : CW E Γ cc nL own d tgt L S μ) : CW E Γ cc nL own d pc L (.int y :: .int x :: S) μ := cw_icmp_eq hd ht (fun _ => k) (fun c => False.elim (by exact c h))
theorem cw_icmp_eq_F {x y : Int32} {off : Int} {tgt : Nat} (hd : decode cc pc = .ok (.if_icmp .eq off, 3)) (ht : (pc : Int) + off = (tgt : Int)) (h : ¬ x = y) (k : CW E Γ cc nL own d (pc + 3) L S μ) : CW E Γ cc nL own d pc L (.int y :: .int x :: S) μ := cw_icmp_eq hd ht (fun c => False.elim (by exact h c)) (fun _ => k)
theorem cw_icmp_ne_T {x y : Int32} {off : Int} {tgt : Nat} (hd : decode cc pc = .ok (.if_icmp .ne off, 3)) (ht : (pc : Int) + off = (tgt : Int)) (h : ¬ x = y) (k : CW E Γ cc nL own d tgt L S μ) : CW E Γ cc nL own d pc L (.int y :: .int x :: S) μ := cw_icmp_ne hd ht (fun _ => k) (fun c => False.elim (by exact h c))
theorem cw_icmp_ne_F {x y : Int32} {off : Int} {tgt : Nat} (hd : decode cc pc = .ok (.if_icmp .ne off, 3)) (ht : (pc : Int) + off = (tgt : Int)) (h : x = y) (k : CW E Γ cc nL own d (pc + 3) L S μ) : CW E Γ cc nL own d pc L (.int y :: .int x :: S) μ := cw_icmp_ne hd ht (fun c => False.elim (by exact c h)) (fun _ => k)
theorem cw_icmp_lt_T {x y : Int32} {off : Int} {tgt : Nat} (hd : decode cc pc = .ok (.if_icmp .lt off, 3)) (ht : (pc : Int) + off = (tgt : Int)) (h : x < y) (k : CW E Γ cc nL own d tgt L S μ) : CW E Γ cc nL own d pc L (.int y :: .int x :: S) μ := cw_icmp_lt hd ht (fun _ => k) (fun c => False.elim (by exact c h))
theorem cw_icmp_lt_F {x y : Int32} {off : Int} {tgt : Nat} (hd : decode cc pc = .ok (.if_icmp .lt off, 3)) (ht : (pc : Int) + off = (tgt : Int)) (h : ¬ x < y) (k : CW E Γ cc nL own d (pc + 3) L S μ) : CW E Γ cc nL own d pc L (.int y :: .int x :: S) μ := cw_icmp_lt hd ht (fun c => False.elim (by exact h c)) (fun _ => k)
theorem cw_icmp_ge_T {x y : Int32} {off : Int} {tgt : Nat} (hd : decode cc pc = .ok (.if_icmp .ge off, 3)) (ht : (pc : Int) + off = (tgt : Int)) (h : y ≤ x) (k : CW E Γ cc nL own d tgt L S μ) : CW E Γ cc nL own d pc L (.int y :: .int x :: S) μ := cw_icmp_ge hd ht (fun _ => k) (fun c => False.elim (by exact c h))
theorem cw_icmp_ge_F {x y : Int32} {off : Int} {tgt : Nat} (hd : decode cc pc = .ok (.if_icmp .ge off, 3)) (ht : (pc : Int) + off = (tgt : Int)) (h : ¬ y ≤ x) (k : CW E Γ cc nL own d (pc + 3) L S μ) : CW E Γ cc nL own d pc L (.int y :: .int x :: S) μ := cw_icmp_ge hd ht (fun c => False.elim (by exact h c)) (fun _ => k)
theorem cw_icmp_gt_T {x y : Int32} {off : Int} {tgt : Nat} (hd : decode cc pc = .ok (.if_icmp .gt off, 3)) (ht : (pc : Int) + off = (tgt : Int)) (h : y < x) (k : CW E Γ cc nL own d tgt L S μ) : CW E Γ cc nL own d pc L (.int y :: .int x :: S) μ := cw_icmp_gt hd ht (fun _ => k) (fun c => False.elim (by exact c h))
theorem cw_icmp_gt_F {x y : Int32} {off : Int} {tgt : Nat} (hd : decode cc pc = .ok (.if_icmp .gt off, 3)) (ht : (pc : Int) + off = (tgt : Int)) (h : ¬ y < x) (k : CW E Γ cc nL own d (pc + 3) L S μ) : CW E Γ cc nL own d pc L (.int y :: .int x :: S) μ := cw_icmp_gt hd ht (fun c => False.elim (by exact h c)) (fun _ => k)
theorem cw_icmp_le_T {x y : Int32} {off : Int} {tgt : Nat} (hd : decode cc pc = .ok (.if_icmp .le off, 3)) (ht : (pc : Int) + off = (tgt : Int)) (h : x ≤ y) (k : CW E Γ cc nL own d tgt L S μ) : CW E Γ cc nL own d pc L (.int y :: .int x :: S) μ := cw_icmp_le hd ht (fun _ => k) (fun c => False.elim (by exact c h))
theorem cw_icmp_le_F {x y : Int32} {off : Int} {tgt : Nat} (hd : decode cc pc = .ok (.if_icmp .le off, 3)) (ht : (pc : Int) + off = (tgt : Int)) (h : ¬ x ≤ y) (k : CW E Γ cc nL own d (pc + 3) L S μ) : CW E Γ cc nL own d pc L (.int y :: .int x :: S) μ := cw_icmp_le hd ht (fun c => False.elim (by exact h c)) (fun _ => k)
theorem cw_tabI {dflt lo hi : Int} {offs : Array Int} {len : Nat} {x : Int32} {off v : Int} {tgt : Nat} (hd : decode cc pc = .ok (.tableswitch dflt lo hi offs, len)) (hx : x.toInt = v) (h1 : lo ≤ v) (h2 : v ≤ hi) (ho : offs[(v - lo).toNat]? = some off) (ht : (pc : Int) + off = (tgt : Int)) (k : CW E Γ cc nL own d tgt L S μ) : CW E Γ cc nL own d pc L (.int x :: S) μ := by
  subst hx
  exact cw_tabIn hd (by omega) (by omega) ho ht k
theorem cw_tabD {dflt lo hi : Int} {offs : Array Int} {len : Nat} {x : Int32} {tgt : Nat} (hd : decode cc pc = .ok (.tableswitch dflt lo hi offs, len)) (h : x.toInt < lo ∨ hi < x.toInt) (ht : (pc : Int) + dflt = (tgt : Int)) (k : CW E Γ cc nL own d tgt L S μ) : CW E Γ cc nL own d pc L (.int x :: S) μ := cw_tabOut hd h ht k
/-- a loop by a counter: its invariant, its exit, its step -/
theorem cw_for {σ : Type} {head : Nat} (Nn : Nat) (I : Nat → σ → Mem → Prop) (Lf : Nat → σ → List Value)
    (hx : ∀ (a : σ) (μ : Mem), I Nn a μ → CW E Γ cc nL own d head (Lf Nn a) [] μ)
    (hs : ∀ (i : Nat) (a : σ) (μ : Mem), i < Nn → I i a μ → (∀ (b : σ) (μ' : Mem), I (i + 1) b μ' → CW E Γ cc nL own d head (Lf (i + 1) b) [] μ') → CW E Γ cc nL own d head (Lf i a) [] μ) :
    ∀ (i : Nat) (a : σ) (μ : Mem), i ≤ Nn → I i a μ → CW E Γ cc nL own d head (Lf i a) [] μ := by
  suffices h : ∀ (n i : Nat) (a : σ) (μ : Mem), i + n = Nn → I i a μ → CW E Γ cc nL own d head (Lf i a) [] μ from fun i a μ hi => h (Nn - i) i a μ (by omega)
  intro n
  induction n with
  | zero => intro i a μ hi h; have : i = Nn := by omega
            subst this; exact hx a μ h
  | succ n ih => intro i a μ hi h; exact hs i a μ (by omega) h (fun b μ' h' => ih (i + 1) b μ' (by omega) h')
end Rows5
theorem am_ofF {E : Ev} {y : MethodName} {cc : ByteArray} {nL : Nat} {ret : Option FieldType} {own : String} {d : Nat} {vs : List Value} {L : List Value} {μ : Mem} {Q : Option Value → Mem → Prop}
    (hy : plainFor y = true) (hown : y.cls = own) (hn : (argL vs).length ≤ nL) (hL : argL vs ++ List.replicate (nL - (argL vs).length) .null = L)
    (k : ∀ Γ, RT E Γ ret Q → CW E Γ cc nL own d 0 L [] μ) : AM E y cc nL ret d vs μ Q := by
  refine va_MetF (cc := cc) (maxL := nL) (ret := ret) hy rfl ?_
  intro p e s m args below meth c s₁ B hml hv
  obtain ⟨rfl, hKX, hP, hE⟩ := hv
  have hts := atoms_spec B.pre
  have C := k (p, e, rmOf d, s, m, (vs.map (cv E)).toArray, below, meth, c, AE E, 0, 0, MQ below (QcOf E Q) (vs.map (cv E)).toArray s 0 0 (AE E)) ⟨B.returns, B.notSynchronized, rfl, rfl, rfl, rfl⟩
    ⟨B.exec, B.bytes, hml, by rw [← hown]; exact findClass_of_methodNamed B.named, fun w hw => hts w (List.mem_cons_of_mem _ hw), ⟨Nat.le_refl _, Nat.le_refl _, Nat.le_refl _, Nat.le_refl _⟩, hKX, hE, fun k hk => ⟨k, hk, rfl⟩⟩
    s.heap []
  rw [lg_entry_eq]
  have hlen : (lg_sl (vs.map (cv E))).length ≤ nL := by rw [sl_len, argL_cv, List.length_map]; exact hn
  have hl := lv_entry (vs.map (cv E)) (n := nL) hlen
  refine C _ hP va_S.rf ⟨hl.1, hl.2.1, fun i v h1 h2 => ?_⟩
  rw [← hL, List.map_append, ← argL_cv] at h1
  by_cases hi : i < (argL (vs.map (cv E))).length
  · rw [List.getElem?_append_left hi] at h1
    have := argL_lh (vs.map (cv E)) 0 _ hl.2.2 i v h1 h2
    simpa using this
  · rw [List.getElem?_append_right (by omega)] at h1
    simp only [List.map_replicate] at h1
    rw [List.getElem?_replicate] at h1
    split at h1
    · cases h1; exact absurd rfl h2
    · cases h1
/-- what a method may change -/
def Same (F : Nat → Nat → Prop) (μ μ' : Mem) : Prop := ∀ q i, ¬ F q i → μ' q i = μ q i
theorem Same.rf {F : Nat → Nat → Prop} {μ : Mem} : Same F μ μ := fun _ _ _ => rfl
theorem Same.tr {F : Nat → Nat → Prop} {μ μ1 μ2 : Mem} (h : Same F μ μ1) (h2 : Same F μ1 μ2) : Same F μ μ2 := fun q i hF => (h2 q i hF).trans (h q i hF)
theorem Same.mo {F G : Nat → Nat → Prop} {μ μ' : Mem} (h : Same F μ μ') (hFG : ∀ q i, F q i → G q i) : Same G μ μ' := fun q i hG => h q i (fun hF => hG (hFG q i hF))
theorem Same.s1 {F : Nat → Nat → Prop} {μ μ' : Mem} {q i : Nat} {v : Int32} (h : Same F μ μ') (hF : F q i) : Same F μ (st μ' q i v) := fun a b hab => by
  have : ¬ (a = q ∧ b = i) := fun ⟨h1, h2⟩ => hab (by rw [h1, h2]; exact hF)
  show (if _ then _ else _) = _
  rw [if_neg this]; exact h a b hab
theorem Same.sr {F : Nat → Nat → Prop} {μ μ' : Mem} {q : Nat} {f : Nat → Int32} (h : Same F μ μ') (hF : ∀ i, F q i) : Same F μ (str μ' q f) := fun a b hab => by
  have : ¬ a = q := fun h1 => hab (by rw [h1]; exact hF b)
  have e : str μ' q f a = μ' a := if_neg this
  rw [e]; exact h a b hab
theorem st_at {μ : Mem} {k i q j : Nat} {v : Int32} : st μ k i v q j = if q = k ∧ j = i then v else μ q j := rfl
theorem str_at {μ : Mem} {k q : Nat} {f : Nat → Int32} : str μ k f q = if q = k then f else μ q := rfl

theorem sh_0 : shape[0]? = some (8, 0, [some 1, some 22, none, some 2, some 50, some 43, some 54, some 58, some 61, some 65]) := rfl
theorem sh_1 : shape[1]? = some (7, 0, [some 2, some 9, some 12, some 14, some 16, some 18, some 20, none]) := rfl
theorem sh_2 : shape[2]? = some (2, 0, [none, none, none, none, some 3, some 4, some 5, some 6, some 7, some 8]) := rfl
theorem sh_3 : shape[3]? = some (100, 12, []) := rfl
theorem sh_4 : shape[4]? = some (100, 6, []) := rfl
theorem sh_5 : shape[5]? = some (100, 6, []) := rfl
theorem sh_6 : shape[6]? = some (100, 6, []) := rfl
theorem sh_7 : shape[7]? = some (100, 6, []) := rfl
theorem sh_8 : shape[8]? = some (100, 24, []) := rfl
theorem sh_9 : shape[9]? = some (3, 0, [some 10, some 11, none, none]) := rfl
theorem sh_10 : shape[10]? = some (100, 100, []) := rfl
theorem sh_11 : shape[11]? = some (100, 100, []) := rfl
theorem sh_12 : shape[12]? = some (6, 0, [none, some 13, none]) := rfl
theorem sh_13 : shape[13]? = some (100, 100, []) := rfl
theorem sh_14 : shape[14]? = some (6, 0, [none, some 15, none]) := rfl
theorem sh_15 : shape[15]? = some (100, 10, []) := rfl
theorem sh_16 : shape[16]? = some (6, 0, [none, some 17, none]) := rfl
theorem sh_17 : shape[17]? = some (100, 15, []) := rfl
theorem sh_18 : shape[18]? = some (6, 0, [none, some 19, none]) := rfl
theorem sh_19 : shape[19]? = some (100, 16, []) := rfl
theorem sh_20 : shape[20]? = some (6, 0, [none, some 21, none]) := rfl
theorem sh_21 : shape[21]? = some (100, 16, []) := rfl
theorem sh_22 : shape[22]? = some (7, 0, [some 23, some 30, some 33, some 35, some 37, some 39, some 41, none]) := rfl
theorem sh_23 : shape[23]? = some (2, 0, [none, none, none, none, some 24, some 25, some 26, some 27, some 28, some 29]) := rfl
theorem sh_24 : shape[24]? = some (100, 12, []) := rfl
theorem sh_25 : shape[25]? = some (100, 6, []) := rfl
theorem sh_26 : shape[26]? = some (100, 6, []) := rfl
theorem sh_27 : shape[27]? = some (100, 6, []) := rfl
theorem sh_28 : shape[28]? = some (100, 6, []) := rfl
theorem sh_29 : shape[29]? = some (100, 24, []) := rfl
theorem sh_30 : shape[30]? = some (3, 0, [some 31, some 32, none, none]) := rfl
theorem sh_31 : shape[31]? = some (100, 100, []) := rfl
theorem sh_32 : shape[32]? = some (100, 100, []) := rfl
theorem sh_33 : shape[33]? = some (6, 0, [none, some 34, none]) := rfl
theorem sh_34 : shape[34]? = some (100, 100, []) := rfl
theorem sh_35 : shape[35]? = some (6, 0, [none, some 36, none]) := rfl
theorem sh_36 : shape[36]? = some (100, 10, []) := rfl
theorem sh_37 : shape[37]? = some (6, 0, [none, some 38, none]) := rfl
theorem sh_38 : shape[38]? = some (100, 15, []) := rfl
theorem sh_39 : shape[39]? = some (6, 0, [none, some 40, none]) := rfl
theorem sh_40 : shape[40]? = some (100, 16, []) := rfl
theorem sh_41 : shape[41]? = some (6, 0, [none, some 42, none]) := rfl
theorem sh_42 : shape[42]? = some (100, 16, []) := rfl
theorem sh_43 : shape[43]? = some (2, 0, [none, none, none, none, some 44, some 45, some 46, some 47, some 48, some 49]) := rfl
theorem sh_44 : shape[44]? = some (100, 12, []) := rfl
theorem sh_45 : shape[45]? = some (100, 6, []) := rfl
theorem sh_46 : shape[46]? = some (100, 6, []) := rfl
theorem sh_47 : shape[47]? = some (100, 6, []) := rfl
theorem sh_48 : shape[48]? = some (100, 6, []) := rfl
theorem sh_49 : shape[49]? = some (100, 24, []) := rfl
theorem sh_50 : shape[50]? = some (4, 0, [some 2, some 9, some 51, some 52, some 53, none, none]) := rfl
theorem sh_51 : shape[51]? = some (100, 6, []) := rfl
theorem sh_52 : shape[52]? = some (100, 6, []) := rfl
theorem sh_53 : shape[53]? = some (100, 13, []) := rfl
theorem sh_54 : shape[54]? = some (4, 0, [some 43, some 9, some 55, some 56, some 57, none, none]) := rfl
theorem sh_55 : shape[55]? = some (100, 6, []) := rfl
theorem sh_56 : shape[56]? = some (100, 6, []) := rfl
theorem sh_57 : shape[57]? = some (100, 13, []) := rfl
theorem sh_58 : shape[58]? = some (0, 0, [some 59, some 60, none, none, none, none, none]) := rfl
theorem sh_59 : shape[59]? = some (100, 108, []) := rfl
theorem sh_60 : shape[60]? = some (100, 108, []) := rfl
theorem sh_61 : shape[61]? = some (5, 0, [some 62, some 12, none, none, none]) := rfl
theorem sh_62 : shape[62]? = some (3, 0, [some 63, some 64, none, none]) := rfl
theorem sh_63 : shape[63]? = some (100, 100, []) := rfl
theorem sh_64 : shape[64]? = some (100, 100, []) := rfl
theorem sh_65 : shape[65]? = some (1, 0, [some 66, none, none, none, none]) := rfl
theorem sh_66 : shape[66]? = some (100, 20, []) := rfl
theorem sh_67 : shape[67]? = some (9, 0, [none, some 68, some 69, some 70, none, none, none, none, none, none, some 71, some 72, some 73, none, none, some 74, some 75, some 76, none, none, none, none]) := rfl
theorem sh_68 : shape[68]? = some (100, 948, []) := rfl
theorem sh_69 : shape[69]? = some (100, 948, []) := rfl
theorem sh_70 : shape[70]? = some (100, 31, []) := rfl
theorem sh_71 : shape[71]? = some (100, 6, []) := rfl
theorem sh_72 : shape[72]? = some (101, 64, []) := rfl
theorem sh_73 : shape[73]? = some (100, 13, []) := rfl
theorem sh_74 : shape[74]? = some (100, 108, []) := rfl
theorem sh_75 : shape[75]? = some (100, 108, []) := rfl
theorem sh_76 : shape[76]? = some (100, 20, []) := rfl
theorem kX8_115 : Cond.constant RX8 115 (-999999) ∈ lw_good := mg (mT 469 (by decide +kernel)) rfl
theorem kX4_105 : Cond.constant RX4 105 (-999999) ∈ lw_good := mg (mT 560 (by decide +kernel)) rfl
theorem kX8_205 : Cond.constant RX8 205 (1000000) ∈ lw_good := mg (mT 597 (by decide +kernel)) rfl
theorem kJ6_265 : Cond.constant RJ6 265 (1431655765) ∈ lw_good := mg (mT 637 (by decide +kernel)) rfl
theorem kJ6_266 : Cond.constant RJ6 266 (858993459) ∈ lw_good := mg (mT 638 (by decide +kernel)) rfl
theorem kJ6_267 : Cond.constant RJ6 267 (252645135) ∈ lw_good := mg (mT 639 (by decide +kernel)) rfl
theorem kX8_246 : Cond.constantLong RX8 246 (-9223372036854775808) ∈ lw_good := mg (mT 686 (by decide +kernel)) rfl
theorem kX9_165 : Cond.constant RX9 165 (-999999) ∈ lw_good := mg (mT 940 (by decide +kernel)) rfl
theorem kX9_153 : Cond.constant RX9 153 (-1000000) ∈ lw_good := mg (mT 1011 (by decide +kernel)) rfl
theorem kX9_210 : Cond.constantLong RX9 210 (-9223372036854775808) ∈ lw_good := mg (mT 1103 (by decide +kernel)) rfl
theorem kX9_212 : Cond.constantLong RX9 212 (12) ∈ lw_good := mg (mT 1104 (by decide +kernel)) rfl
