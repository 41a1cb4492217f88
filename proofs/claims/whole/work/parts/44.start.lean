/-! ===== from the law's entry to its loop ===== -/
def E0 (X : Kx) : Ev := (k_l X, k_D X, id, (k_cI X, k_cZ X))
theorem map_E0 (X : Kx) (L : List Value) : L.map (cv (E0 X)) = L := by
  rw [show cv (E0 X) = id from funext fun v => by cases v <;> rfl]; exact List.map_id L
section KW2
variable {X : Kx} {Γ : Cx} {cc : ByteArray} {nL : Nat} {own : String} {rm : Room} {k sl pc : Nat} {L S : List Value} {ws : va_W}
theorem kw_astore_n {n : Fin 4} {i x : Nat} {L' : List Value} (hd : decode cc pc = .ok (.astore_n n, 1)) (hi : (n : Nat) = i) (hn : i < nL) (hno : noL L i = true) (hL : L.set i (.ref x) = L') (kk : KW X Γ cc nL own rm k sl (pc + 1) L' S ws) : KW X Γ cc nL own rm k sl pc L (.ref x :: S) ws :=
  fun C H locs ls hP hD hS hl => lv_astore_n C.1 C.2.1 hd hi ((lh_has (L := L)).mp hl) hn rfl (fun ls' hl' => kk C H locs ls' hP hD hS (by have e := lh.st1 (E := E0 X) (v := .ref x) (L := L) hno (by rw [map_E0]; exact hl'); rw [map_E0] at e; rw [← hL]; exact e))
theorem kw_istore_n {n : Fin 4} {i : Nat} {x : Int32} {L' : List Value} (hd : decode cc pc = .ok (.istore_n n, 1)) (hi : (n : Nat) = i) (hn : i < nL) (hno : noL L i = true) (hL : L.set i (.int x) = L') (kk : KW X Γ cc nL own rm k sl (pc + 1) L' S ws) : KW X Γ cc nL own rm k sl pc L (.int x :: S) ws :=
  fun C H locs ls hP hD hS hl => lv_istore_n C.1 C.2.1 hd hi ((lh_has (L := L)).mp hl) hn rfl (fun ls' hl' => kk C H locs ls' hP hD hS (by have e := lh.st1 (E := E0 X) (v := .int x) (L := L) hno (by rw [map_E0]; exact hl'); rw [map_E0] at e; rw [← hL]; exact e))
/-- from the growing world to the one of 77 cells -/
theorem kw_cw {E : Ev} {μ : Mem} {L0 S0 : List Value} {d : Nat} (hl : e_l E = k_l X) (hD0 : e_D E = k_D X) (hok : EOK E → (∀ k, k < 77 → g_A Γ (e_ad E k)) → OKc E Γ cc nL own d) (hws : ws = wsOf E μ) (hL : L = L0.map (cv E)) (hS0 : S = S0.map (cv E)) (hk : g_cells Γ = k) (hs : g_slots Γ = sl) (kk : CW E Γ cc nL own d pc L0 S0 μ) : KW X Γ cc nL own rm k sl pc L S ws := by
  intro C H locs ls hP hD hS hlh
  subst hws; subst hL; subst hS0; subst hk; subst hs
  have hg : ∀ i, i < 77 → ∃ z, (wsOf E μ)[i]? = some (e_ad E i, z) := fun i hi => by
    obtain ⟨sh, h⟩ : ∃ sh, shape[i]? = some sh := ⟨_, List.getElem?_eq_getElem (by rw [shape_len]; exact hi)⟩
    exact ⟨_, ws_get h⟩
  have hE : EOK E := fun i j hi hj e => by
    obtain ⟨z, h1⟩ := hg i hi
    obtain ⟨w, h2⟩ := hg j hj
    exact hD.1 i j _ _ h1 h2 e
  have hA : ∀ k, k < 77 → g_A Γ (e_ad E k) := fun k hk => by
    obtain ⟨z, h1⟩ := hg k hk
    exact hD.2 k _ h1
  have := kk (hok hE hA) H locs ls (by rw [hD0]; exact hP) hS hlh
  rw [hl] at this
  exact this
end KW2
theorem arr_start {args : Array Value} {s : State} {ty : FieldType} (h : (Cond.arrayClass ty).before args s = true) : ∃ cA : ClassId, ArrOfT s cA ty ∧ s.vm.findClass ("[" ++ ty.toString) = some cA := by
  obtain ⟨cA, kA, comp, h1, h2, h3⟩ := Cond.arrayClass_spec h
  exact ⟨cA, fun n z => ⟨fun k h => (by cases h), kA, h2, comp, h3⟩, h1⟩
/-! the memory at the start -/
def mF30 : Row := fun i => match i with
  | 3 => 30
  | _ => 0
def mW (w : Int32) : Row := fun i => match i with
  | 0 => w
  | _ => 0
def mu0 : Mem := fun q => match q with
  | 9 => mF30
  | 30 => mF30
  | 62 => mF30
  | 12 => mW 1
  | 14 => mW 2
  | 16 => mW 3
  | 18 => mW 2
  | 20 => mW 2
  | 33 => mW 1
  | 35 => mW 2
  | 37 => mW 3
  | 39 => mW 2
  | 41 => mW 2
  | 68 => upd (fun _ => 0) 38 (-1)
  | _ => fun _ => 0
def s00 : Row := upd (fun _ => 0) 38 (-1)
theorem s00_o {i : Nat} (h : i ≠ 38) : s00 i = 0 := un h
theorem inv00 : Inv s00 0 [] 30 := by
  refine ⟨⟨rfl, by decide, ⟨0, by decide, rfl⟩, fun p hp => ⟨Or.inl (s00_o (by omega)), Or.inl (s00_o (by omega))⟩, fun p _ hp => ⟨s00_o (by omega), s00_o (by omega), s00_o (by omega), fun j hj => s00_o (by omega)⟩, fun p hp => ⟨0, by omega, s00_o (by omega)⟩, fun p hp => by omega⟩, ⟨⟨0, by decide, rfl, Or.inl ⟨rfl, rfl, rfl⟩⟩, by decide, by decide, trivial⟩, ⟨0, by decide, rfl, fun i hi => by omega⟩, ⟨0, by decide, rfl, fun i hi => by omega⟩, ⟨0, by decide, rfl, fun i hi => by omega⟩, ⟨0, by decide, rfl, fun i hi => by omega⟩, ⟨0, by decide, rfl, fun i hi => by omega⟩⟩
theorem rel00 : Rel mu0 1 s00 [] 30 := by
  refine ⟨⟨rfl, rfl, rfl, rfl, fun x hx => (s00_o (by omega)).symm, fun p hp => ⟨(s00_o (by omega)).symm, (s00_o (by omega)).symm, (s00_o (by omega)).symm, (s00_o (by omega)).symm⟩, fun j hj => (s00_o (by omega)).symm⟩, ⟨⟨rfl, by decide, fun i c h => by simp at h⟩, rfl⟩, ⟨rfl, rfl, fun i hi => (s00_o (by omega)).symm⟩, ⟨rfl, rfl, fun i hi => ⟨(s00_o (by omega)).symm, (s00_o (by omega)).symm⟩⟩, ⟨rfl, rfl, fun i hi => ⟨(s00_o (by omega)).symm, (s00_o (by omega)).symm, (s00_o (by omega)).symm⟩⟩, ⟨rfl, rfl, fun i hi => ⟨(s00_o (by omega)).symm, (s00_o (by omega)).symm⟩⟩, ⟨rfl, rfl, fun i hi => ⟨(s00_o (by omega)).symm, (s00_o (by omega)).symm⟩⟩, rfl⟩
theorem gi00 : GI mu0 := ⟨⟨0, [], 30, inv00, rel00⟩, ⟨rfl, rfl, rfl, rfl, rfl⟩, Or.inl ⟨rfl, rfl⟩, [], tr_nil rfl, tr_nil rfl⟩
set_option maxHeartbeats 20000000 in
set_option maxRecDepth 100000 in
theorem whole_start {p : Program} {e : Env} {s : State} {m : MethodId} {below : List Frame} {meth : Method} {c : Code} (l : Launch) (hflags : l.flags = flags0) {b L : Nat} {xs : Nat → Int32} (hL : L ≤ 2048) (C0 : lw_At p s m meth c b L xs) : W p l e room_1 s m #[Value.ref b] below meth c s.heap [] 0 0 (lw_Z below #[Value.ref b] s) (entryFrame m ([Value.ref b] : List Value).toArray 4) := by
  obtain ⟨hx, hb, hr, hml, hown, hts, hX, hbl, hlocks, hgv⟩ := id C0
  have htg : ∀ w ∈ lw_good, w.before #[Value.ref b] s = true := fun w hw => hts w (good_in hw).1
  obtain ⟨c0, iS0, hKn0⟩ := u_known (C := RX0) (T := TX0) (N := 7) (n := 7) hts inX0 (hts (.instantiable RX0 7) (mT 212 (by decide +kernel)))
  obtain ⟨c1, iS1, hKn1⟩ := u_known (C := RX1) (T := TX1) (N := 5) (n := 5) hts inX1 (hts (.instantiable RX1 5) (mT 265 (by decide +kernel)))
  obtain ⟨c2, iS2, hKn2⟩ := u_known (C := RX2) (T := TX2) (N := 10) (n := 10) hts inX2 (hts (.instantiable RX2 10) (mT 34 (by decide +kernel)))
  obtain ⟨c3, iS3, hKn3⟩ := u_known (C := RX3) (T := TX3) (N := 4) (n := 4) hts inX3 (hts (.instantiable RX3 4) (mT 96 (by decide +kernel)))
  obtain ⟨c4, iS4, hKn4⟩ := u_known (C := RX4) (T := TX4) (N := 7) (n := 7) hts inX4 (hts (.instantiable RX4 7) (mT 177 (by decide +kernel)))
  obtain ⟨c5, iS5, hKn5⟩ := u_known (C := RX5) (T := TX5) (N := 5) (n := 5) hts inX5 (hts (.instantiable RX5 5) (mT 240 (by decide +kernel)))
  obtain ⟨c6, iS6, hKn6⟩ := u_known (C := RX6) (T := TX6) (N := 3) (n := 3) hts inX6 (hts (.instantiable RX6 3) (mT 119 (by decide +kernel)))
  obtain ⟨c7, iS7, hKn7⟩ := u_known (C := RX7) (T := TX7) (N := 8) (n := 8) hts inX7 (hts (.instantiable RX7 8) (mT 28 (by decide +kernel)))
  obtain ⟨c8, iS8, hKn8⟩ := u_known (C := RX8) (T := TX8) (N := 10) (n := 10) hts inX8 (hts (.instantiable RX8 10) (mT 20 (by decide +kernel)))
  obtain ⟨c9, iS9, hKn9⟩ := u_known (C := RX9) (T := TX9) (N := 22) (n := 22) hts inX9 (hts (.instantiable RX9 22) (mT 787 (by decide +kernel)))
  obtain ⟨dC, dI, hKc⟩ : ∃ (dC : Nat → ClassId) (dI : Nat → Nat → Nat), ∀ (k : Nat) (q : vw_C), vwCl[k]? = some q → u_Kn s q.1 q.2.1 q.2.2 (dC k) (dI k) := by
    refine ⟨fun k => if k = 0 then c0 else if k = 1 then c1 else if k = 2 then c2 else if k = 3 then c3 else if k = 4 then c4 else if k = 5 then c5 else if k = 6 then c6 else if k = 7 then c7 else if k = 8 then c8 else c9, fun k => if k = 0 then iS0 else if k = 1 then iS1 else if k = 2 then iS2 else if k = 3 then iS3 else if k = 4 then iS4 else if k = 5 then iS5 else if k = 6 then iS6 else if k = 7 then iS7 else if k = 8 then iS8 else iS9, ?_⟩
    intro k q hq
    match k, hq with
    | 0, hq => cases hq; exact hKn0
    | 1, hq => cases hq; exact hKn1
    | 2, hq => cases hq; exact hKn2
    | 3, hq => cases hq; exact hKn3
    | 4, hq => cases hq; exact hKn4
    | 5, hq => cases hq; exact hKn5
    | 6, hq => cases hq; exact hKn6
    | 7, hq => cases hq; exact hKn7
    | 8, hq => cases hq; exact hKn8
    | 9, hq => cases hq; exact hKn9
    | k + 10, hq => simp [vwCl] at hq
  obtain ⟨cI, aI, fI⟩ := arr_start (hts (.arrayClass .int) (mT 94 (by decide +kernel)))
  obtain ⟨cZ, aZ, fZ⟩ := arr_start (hts (.arrayClass .boolean) (mT 858 (by decide +kernel)))
  have hK : va_K (dC, dI) vwCl [(cI, .int), (cZ, .boolean)] s := ⟨hKc, fun k q h => by
    match k, h with
    | 0, h => cases h; exact ⟨aI, fI⟩
    | 1, h => cases h; exact ⟨aZ, fZ⟩
    | k + 2, h => simp at h⟩
  have hNW : NW s := ⟨fun own idx y host hw => va_Nw.of rfl (hts _ hw), fun own idx x y z host hw => va_Nw.of rfl (hts _ hw)⟩
  obtain ⟨sa, hsb, hST⟩ := sta_start hts hgv
  have hA : ∀ q : Nat, s.heap.size ≤ q → (fun q : Nat => s.heap.size ≤ q) q := fun _ h => h
  have hl := lv_entry ([.ref b]) (n := 4) (Nat.le_of_ble_eq_true rfl)
  rw [lg_entry_eq]
  generalize (lg_sl ([.ref b]) ++ List.replicate (4 - (lg_sl ([.ref b])).length) Slot.unset).toArray = ls at hl ⊢
  have hlh : lh ls 4 [.ref b, .null, .null, .null] := ⟨hl.1, hl.2.1, fun i v h1 h2 => by
    match i, h1 with
    | 0, h1 => cases h1; exact hl.2.2 (0, .ref b) (by simp [lv_args])
    | 1, h1 => cases h1; exact absurd rfl h2
    | 2, h1 => cases h1; exact absurd rfl h2
    | 3, h1 => cases h1; exact absurd rfl h2
    | i + 4, h1 => simp at h1⟩
  obtain ⟨X, hXe⟩ : ∃ X : Kx, X = ((dC, dI), (cI, cZ), l) := ⟨_, rfl⟩
  obtain ⟨Γ, hΓe⟩ : ∃ Γ : Cx, Γ = (p, e, room_1, s, m, #[Value.ref b], below, meth, c, (fun q : Nat => s.heap.size ≤ q), 600000, 7302250, lw_Z below #[Value.ref b] s) := ⟨_, rfl⟩
  suffices key : KW X Γ cL_law 4 RL room_1 0 0 0 [.ref b, .null, .null, .null] [] [] by
    subst hXe; subst hΓe
    exact key ⟨hx, hb, hml, hown, htg, rfl, hK, hA, hNW⟩ s.heap [] ls (fun k q h => by simp at h) ⟨fun i j p q h => by simp at h, fun k q h => by simp at h⟩ va_S.rf hlh
  refine kw_new (ci := 8) (fs := [.null, .null, .int 0, .null, .null, .null, .null, .null, .null, .null]) (pc := 0) dL_law_0 gX8 tyX8 tyX8_ok (mg (mT 19 (by decide +kernel)) rfl) (mg (mT 20 (by decide +kernel)) rfl) (mg (mT 1 (by decide +kernel)) rfl) rfl (fun j hj => by rcases (show j = 0 ∨ j = 1 ∨ j = 2 ∨ j = 3 ∨ j = 4 ∨ j = 5 ∨ j = 6 ∨ j = 7 ∨ j = 8 ∨ j = 9 by omega) with rfl | rfl | rfl | rfl | rfl | rfl | rfl | rfl | rfl | rfl <;> rfl) (Nat.le_of_ble_eq_true rfl) (Nat.le_of_ble_eq_true rfl) (fun q0 => ?_)
  refine kw_dup (pc := 3) dL_law_3 rfl ?_
  refine kw_init (n := 0) (As := []) (wr := []) (pc := 4) dL_law_4 iL_9 (k_X8_init X q0) rfl rfl (Nat.le_of_ble_eq_true rfl) [0] [] rfl rfl rfl rfl (by decide) (Nat.le_of_ble_eq_true rfl) (Nat.le_of_ble_eq_true rfl) (Nat.le_of_ble_eq_true rfl) (Nat.le_of_ble_eq_true rfl) (fun w4 hw4 => ?_)
  obtain ⟨q5_4, q5z9_4, q7z9z9_4, q15z9z9_4, q23z9z9_4, q31z9z9_4, q39z9z9_4, q47z9z9_4, q16z9_4, q7z20z9_4, q15z20z9_4, q27z9_4, q28z34z9_4, q41z9_4, q28z47z9_4, q54z9_4, q28z60z9_4, q67z9_4, q28z74z9_4, q81z9_4, q28z88z9_4, q16_4, q5z20_4, q7z9z20_4, q15z9z20_4, q23z9z20_4, q31z9z20_4, q39z9z20_4, q47z9z20_4, q16z20_4, q7z20z20_4, q15z20z20_4, q27z20_4, q28z34z20_4, q41z20_4, q28z47z20_4, q54z20_4, q28z60z20_4, q67z20_4, q28z74z20_4, q81z20_4, q28z88z20_4, q63_4, q7z67_4, q15z67_4, q23z67_4, q31z67_4, q39z67_4, q47z67_4, q38_4, q7z56_4, q15z56_4, q23z56_4, q74_4, q7z89_4, q15z89_4, q23z89_4, q96_4, q7z100_4, q15z100_4, q107_4, q5z118_4, q7z9z118_4, q15z9z118_4, q125_4, q7z129_4, rfl⟩ := hw4
  refine kw_astore_n (L' := [.ref b, .ref q0, .null, .null]) (pc := 7) dL_law_7 rfl (by decide) rfl rfl ?_
  refine kw_new (ci := 9) (fs := [.int 0, .null, .null, .null, .int 0, .int 0, .int 0, .int 0, .int 0, .int 0, .null, .null, .null, .int 0, .int 0, .null, .null, .null, .int 0, .int 0, .int 0, .int 0]) (pc := 8) dL_law_8 gX9 tyX9 tyX9_ok (mg (mT 786 (by decide +kernel)) rfl) (mg (mT 787 (by decide +kernel)) rfl) (mg (mT 11 (by decide +kernel)) rfl) rfl (fun j hj => by rcases (show j = 0 ∨ j = 1 ∨ j = 2 ∨ j = 3 ∨ j = 4 ∨ j = 5 ∨ j = 6 ∨ j = 7 ∨ j = 8 ∨ j = 9 ∨ j = 10 ∨ j = 11 ∨ j = 12 ∨ j = 13 ∨ j = 14 ∨ j = 15 ∨ j = 16 ∨ j = 17 ∨ j = 18 ∨ j = 19 ∨ j = 20 ∨ j = 21 by omega) with rfl | rfl | rfl | rfl | rfl | rfl | rfl | rfl | rfl | rfl | rfl | rfl | rfl | rfl | rfl | rfl | rfl | rfl | rfl | rfl | rfl | rfl <;> rfl) (Nat.le_of_ble_eq_true rfl) (Nat.le_of_ble_eq_true rfl) (fun q8 => ?_)
  refine kw_dup (pc := 11) dL_law_11 rfl ?_
  refine kw_init (n := 0) (As := []) (wr := [(q0, .inr (8, [.ref q5_4, .ref q16_4, .int 0, .ref q5z9_4, .ref q38_4, .ref q63_4, .ref q74_4, .ref q96_4, .ref q107_4, .ref q125_4])), (q5_4, .inr (7, [.ref q5z9_4, .ref q16z9_4, .ref q27z9_4, .ref q41z9_4, .ref q54z9_4, .ref q67z9_4, .ref q81z9_4, .int 0])), (q5z9_4, .inr (2, [.int 0, .int 0, .int 0, .int 0, .ref q7z9z9_4, .ref q15z9z9_4, .ref q23z9z9_4, .ref q31z9z9_4, .ref q39z9z9_4, .ref q47z9z9_4])), (q7z9z9_4, .inl (k_cI X, 12, .inl (fun _ => 0))), (q15z9z9_4, .inl (k_cI X, 6, .inl (fun _ => 0))), (q23z9z9_4, .inl (k_cI X, 6, .inl (fun _ => 0))), (q31z9z9_4, .inl (k_cI X, 6, .inl (fun _ => 0))), (q39z9z9_4, .inl (k_cI X, 6, .inl (fun _ => 0))), (q47z9z9_4, .inl (k_cI X, 24, .inl (fun _ => 0))), (q16z9_4, .inr (3, [.ref q7z20z9_4, .ref q15z20z9_4, .int 0, .int 30])), (q7z20z9_4, .inl (k_cI X, 100, .inl (fun _ => 0))), (q15z20z9_4, .inl (k_cI X, 100, .inl (fun _ => 0))), (q27z9_4, .inr (6, [.int 1, .ref q28z34z9_4, .int 0])), (q28z34z9_4, .inl (k_cI X, 100, .inl (fun _ => 0))), (q41z9_4, .inr (6, [.int 2, .ref q28z47z9_4, .int 0])), (q28z47z9_4, .inl (k_cI X, 10, .inl (fun _ => 0))), (q54z9_4, .inr (6, [.int 3, .ref q28z60z9_4, .int 0])), (q28z60z9_4, .inl (k_cI X, 15, .inl (fun _ => 0))), (q67z9_4, .inr (6, [.int 2, .ref q28z74z9_4, .int 0])), (q28z74z9_4, .inl (k_cI X, 16, .inl (fun _ => 0))), (q81z9_4, .inr (6, [.int 2, .ref q28z88z9_4, .int 0])), (q28z88z9_4, .inl (k_cI X, 16, .inl (fun _ => 0))), (q16_4, .inr (7, [.ref q5z20_4, .ref q16z20_4, .ref q27z20_4, .ref q41z20_4, .ref q54z20_4, .ref q67z20_4, .ref q81z20_4, .int 0])), (q5z20_4, .inr (2, [.int 0, .int 0, .int 0, .int 0, .ref q7z9z20_4, .ref q15z9z20_4, .ref q23z9z20_4, .ref q31z9z20_4, .ref q39z9z20_4, .ref q47z9z20_4])), (q7z9z20_4, .inl (k_cI X, 12, .inl (fun _ => 0))), (q15z9z20_4, .inl (k_cI X, 6, .inl (fun _ => 0))), (q23z9z20_4, .inl (k_cI X, 6, .inl (fun _ => 0))), (q31z9z20_4, .inl (k_cI X, 6, .inl (fun _ => 0))), (q39z9z20_4, .inl (k_cI X, 6, .inl (fun _ => 0))), (q47z9z20_4, .inl (k_cI X, 24, .inl (fun _ => 0))), (q16z20_4, .inr (3, [.ref q7z20z20_4, .ref q15z20z20_4, .int 0, .int 30])), (q7z20z20_4, .inl (k_cI X, 100, .inl (fun _ => 0))), (q15z20z20_4, .inl (k_cI X, 100, .inl (fun _ => 0))), (q27z20_4, .inr (6, [.int 1, .ref q28z34z20_4, .int 0])), (q28z34z20_4, .inl (k_cI X, 100, .inl (fun _ => 0))), (q41z20_4, .inr (6, [.int 2, .ref q28z47z20_4, .int 0])), (q28z47z20_4, .inl (k_cI X, 10, .inl (fun _ => 0))), (q54z20_4, .inr (6, [.int 3, .ref q28z60z20_4, .int 0])), (q28z60z20_4, .inl (k_cI X, 15, .inl (fun _ => 0))), (q67z20_4, .inr (6, [.int 2, .ref q28z74z20_4, .int 0])), (q28z74z20_4, .inl (k_cI X, 16, .inl (fun _ => 0))), (q81z20_4, .inr (6, [.int 2, .ref q28z88z20_4, .int 0])), (q28z88z20_4, .inl (k_cI X, 16, .inl (fun _ => 0))), (q63_4, .inr (2, [.int 0, .int 0, .int 0, .int 0, .ref q7z67_4, .ref q15z67_4, .ref q23z67_4, .ref q31z67_4, .ref q39z67_4, .ref q47z67_4])), (q7z67_4, .inl (k_cI X, 12, .inl (fun _ => 0))), (q15z67_4, .inl (k_cI X, 6, .inl (fun _ => 0))), (q23z67_4, .inl (k_cI X, 6, .inl (fun _ => 0))), (q31z67_4, .inl (k_cI X, 6, .inl (fun _ => 0))), (q39z67_4, .inl (k_cI X, 6, .inl (fun _ => 0))), (q47z67_4, .inl (k_cI X, 24, .inl (fun _ => 0))), (q38_4, .inr (4, [.ref q5z9_4, .ref q16z9_4, .ref q7z56_4, .ref q15z56_4, .ref q23z56_4, .int 0, .int 0])), (q7z56_4, .inl (k_cI X, 6, .inl (fun _ => 0))), (q15z56_4, .inl (k_cI X, 6, .inl (fun _ => 0))), (q23z56_4, .inl (k_cI X, 13, .inl (fun _ => 0))), (q74_4, .inr (4, [.ref q63_4, .ref q16z9_4, .ref q7z89_4, .ref q15z89_4, .ref q23z89_4, .int 0, .int 0])), (q7z89_4, .inl (k_cI X, 6, .inl (fun _ => 0))), (q15z89_4, .inl (k_cI X, 6, .inl (fun _ => 0))), (q23z89_4, .inl (k_cI X, 13, .inl (fun _ => 0))), (q96_4, .inr (0, [.ref q7z100_4, .ref q15z100_4, .int 0, .int 0, .int 0, .int 0, .int 0])), (q7z100_4, .inl (k_cI X, 108, .inl (fun _ => 0))), (q15z100_4, .inl (k_cI X, 108, .inl (fun _ => 0))), (q107_4, .inr (5, [.ref q5z118_4, .ref q27z9_4, .int 0, .int 0, .int 0])), (q5z118_4, .inr (3, [.ref q7z9z118_4, .ref q15z9z118_4, .int 0, .int 30])), (q7z9z118_4, .inl (k_cI X, 100, .inl (fun _ => 0))), (q15z9z118_4, .inl (k_cI X, 100, .inl (fun _ => 0))), (q125_4, .inr (1, [.ref q7z129_4, .int 0, .int 0, .int 0, .int 0])), (q7z129_4, .inl (k_cI X, 20, .inl (fun _ => 0)))]) (pc := 12) dL_law_12 iL_12 (k_X9_init X q8) rfl rfl (Nat.le_of_ble_eq_true rfl) [67] [0, 1, 2, 3, 4, 5, 6, 7, 8, 9, 10, 11, 12, 13, 14, 15, 16, 17, 18, 19, 20, 21, 22, 23, 24, 25, 26, 27, 28, 29, 30, 31, 32, 33, 34, 35, 36, 37, 38, 39, 40, 41, 42, 43, 44, 45, 46, 47, 48, 49, 50, 51, 52, 53, 54, 55, 56, 57, 58, 59, 60, 61, 62, 63, 64, 65, 66] rfl rfl rfl rfl (by decide) (Nat.le_of_ble_eq_true rfl) (Nat.le_of_ble_eq_true rfl) (Nat.le_of_ble_eq_true rfl) (Nat.le_of_ble_eq_true rfl) (fun w12 hw12 => ?_)
  obtain ⟨q8_12, q17_12, q25_12, q33_12, q41_12, q49_12, q57_12, q65_12, q73_12, rfl⟩ := hw12
  refine kw_astore_n (L' := [.ref b, .ref q0, .ref q8, .null]) (pc := 15) dL_law_15 rfl (by decide) rfl rfl ?_
  refine kw_iconst (v := 0) (pc := 16) dL_law_16 (by decide) ?_
  refine kw_istore_n (L' := [.ref b, .ref q0, .ref q8, .int 0]) (pc := 17) dL_law_17 rfl (by decide) rfl rfl ?_
  refine kw_wide (k' := 600000) (sl' := 7302250) (Nat.le_of_ble_eq_true rfl) (Nat.le_of_ble_eq_true rfl) ?_
  obtain ⟨E, hEe⟩ : ∃ E : Ev, E = (l, (dC, dI), (fun k => if k < 77 then ([q0, q5_4, q5z9_4, q7z9z9_4, q15z9z9_4, q23z9z9_4, q31z9z9_4, q39z9z9_4, q47z9z9_4, q16z9_4, q7z20z9_4, q15z20z9_4, q27z9_4, q28z34z9_4, q41z9_4, q28z47z9_4, q54z9_4, q28z60z9_4, q67z9_4, q28z74z9_4, q81z9_4, q28z88z9_4, q16_4, q5z20_4, q7z9z20_4, q15z9z20_4, q23z9z20_4, q31z9z20_4, q39z9z20_4, q47z9z20_4, q16z20_4, q7z20z20_4, q15z20z20_4, q27z20_4, q28z34z20_4, q41z20_4, q28z47z20_4, q54z20_4, q28z60z20_4, q67z20_4, q28z74z20_4, q81z20_4, q28z88z20_4, q63_4, q7z67_4, q15z67_4, q23z67_4, q31z67_4, q39z67_4, q47z67_4, q38_4, q7z56_4, q15z56_4, q23z56_4, q74_4, q7z89_4, q15z89_4, q23z89_4, q96_4, q7z100_4, q15z100_4, q107_4, q5z118_4, q7z9z118_4, q15z9z118_4, q125_4, q7z129_4, q8, q8_12, q17_12, q25_12, q33_12, q41_12, q49_12, q57_12, q65_12, q73_12] : List Nat).getD k 0 else sa k), (cI, cZ)) := ⟨_, rfl⟩
  have hsE : ∀ k, 77 ≤ k → e_ad E k = sa k := fun k hk => by subst hEe; exact if_neg (by omega)
  have hE100 : e_ad E 100 = b := (hsE 100 (by decide)).trans hsb
  refine kw_cw (E := E) (μ := mu0) (L0 := [.ref 100, .ref 0, .ref 67, .int (nI (4 * 0))]) (S0 := []) (d := 100) (by subst hEe; subst hXe; rfl) (by subst hEe; subst hXe; rfl) (fun hEO hEA => ?_) (by subst hEe; subst hXe; rfl) ?_ rfl (by subst hΓe; rfl) (by subst hΓe; rfl) ?_
  · have hSs := hST E hsE
    subst hEe; subst hΓe
    exact ⟨hx, hb, hml, hown, htg, ⟨Nat.le_of_ble_eq_true rfl, Nat.le_of_ble_eq_true rfl, Nat.le_refl _, Nat.le_refl _⟩, ⟨hK, hNW, hSs⟩, hEO, hEA⟩
  · rw [← hE100]; subst hEe; rfl
  have hSX : SX E Γ L xs := by
    unfold SX
    rw [hE100]
    subst hΓe
    exact ⟨hX, hbl, Nat.not_le.mpr hbl⟩
  refine law_loop hL hSX (fun L0 μ => ?_) 0 () mu0 (Nat.zero_le _) gi00
  refine cw_iconst (v := 1) (pc := 1200) dL_law_1200 (by decide) ?_
  intro C H locs ls0 hP hS hl0
  subst hΓe; subst hEe
  exact va_forget hS.2.2 (lw_ret (pc := 1201) hx hb hr hlocks dL_law_1201)
