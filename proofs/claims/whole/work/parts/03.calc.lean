/-! ===== the calculus: a world of fixed shape (positions), memory Nat -> Nat -> Int32; CW: a method's walk from a pc; AM: a call's weakest precondition ===== -/
abbrev Mem : Type := Nat → Nat → Int32
def st (μ : Mem) (k i : Nat) (v : Int32) : Mem := fun a b => if a = k ∧ b = i then v else μ a b
abbrev Ev : Type := Launch × va_G × (Nat → Nat) × (ClassId × ClassId)
def e_l (E : Ev) : Launch := E.1
def e_D (E : Ev) : va_G := E.2.1
def e_ad (E : Ev) : Nat → Nat := E.2.2.1
def e_cI (E : Ev) : ClassId := E.2.2.2.1
def e_cZ (E : Ev) : ClassId := E.2.2.2.2
/-- class (100: int[], 101: boolean[]), length, fields (a reference: whither) -/
abbrev SH : Type := Nat × Nat × List (Option Nat)
def landS (k : Nat) : List SH := [(2, 0, [none, none, none, none, some (k + 1), some (k + 2), some (k + 3), some (k + 4), some (k + 5), some (k + 6)]), (100, 12, []), (100, 6, []), (100, 6, []), (100, 6, []), (100, 6, []), (100, 24, [])]
def parS (k : Nat) : List SH := [(3, 0, [some (k + 1), some (k + 2), none, none]), (100, 100, []), (100, 100, [])]
def rowS (k n : Nat) : List SH := [(6, 0, [none, some (k + 1), none]), (100, n, [])]
def ploS (k land par : Nat) : List SH := [(4, 0, [some land, some par, some (k + 1), some (k + 2), some (k + 3), none, none]), (100, 6, []), (100, 6, []), (100, 13, [])]
def staS (k : Nat) : List SH := (7, 0, [some (k + 1), some (k + 8), some (k + 11), some (k + 13), some (k + 15), some (k + 17), some (k + 19), none]) :: (landS (k + 1) ++ parS (k + 8) ++ rowS (k + 11) 100 ++ rowS (k + 13) 10 ++ rowS (k + 15) 15 ++ rowS (k + 17) 16 ++ rowS (k + 19) 16)
def shape : List SH := (8, 0, [some 1, some 22, none, some 2, some 50, some 43, some 54, some 58, some 61, some 65]) :: (staS 1 ++ staS 22 ++ landS 43 ++ ploS 50 2 9 ++ ploS 54 43 9
  ++ [(0, 0, [some 59, some 60, none, none, none, none, none]), (100, 108, []), (100, 108, [])]
  ++ ((5, 0, [some 62, some 12, none, none, none]) :: parS 62)
  ++ [(1, 0, [some 66, none, none, none, none]), (100, 20, [])]
  ++ [(9, 0, [none, some 68, some 69, some 70, none, none, none, none, none, none, some 71, some 72, some 73, none, none, some 74, some 75, some 76, none, none, none, none]), (100, 948, []), (100, 948, []), (100, 31, []), (100, 6, []), (101, 64, []), (100, 13, []), (100, 108, []), (100, 108, []), (100, 20, [])])
theorem shape_len : shape.length = 77 := rfl
def fv (E : Ev) (o : Option Nat) (x : Int32) : Value := match o with
  | some t => .ref (e_ad E t)
  | none => .int x
def flds (E : Ev) (fs : List (Option Nat)) (f : Nat → Int32) : List Value := fs.zipIdx.map fun q => match q.1 with
  | some t => .ref (e_ad E t)
  | none => .int (f q.2)
def ent (E : Ev) (sh : SH) (f : Nat → Int32) : va_E := if sh.1 = 100 then .inl (e_cI E, sh.2.1, .inl f) else if sh.1 = 101 then .inl (e_cZ E, sh.2.1, .inl f) else .inr (sh.1, flds E sh.2.2 f)
def wsOf (E : Ev) (μ : Mem) : va_W := shape.zipIdx.map fun q => (e_ad E q.2, ent E q.1 (μ q.2))
def tysOf (E : Ev) : List (ClassId × FieldType) := [(e_cI E, .int), (e_cZ E, .boolean)]
/-- which cells methods may write -/
def AE (E : Ev) : Nat → Prop := fun q => ∃ k, k < 77 ∧ q = e_ad E k
def cv (E : Ev) : Value → Value
  | .ref k => .ref (e_ad E k)
  | v => v
theorem cv_cat (E : Ev) (v : Value) : (cv E v).category = v.category := by cases v <;> rfl
theorem st_eq (μ : Mem) (k i : Nat) (v : Int32) : st μ k i v k i = v := by simp [st]
theorem st_row (μ : Mem) (k i : Nat) (v : Int32) : st μ k i v k = upd (μ k) i v := by funext j; simp [st, upd]
theorem st_ne (μ : Mem) {k i k' : Nat} (v : Int32) (h : k' ≠ k) : st μ k i v k' = μ k' := by funext j; simp [st, h]
theorem ws_get {E : Ev} {μ : Mem} {k : Nat} {sh : SH} (h : shape[k]? = some sh) : (wsOf E μ)[k]? = some (e_ad E k, ent E sh (μ k)) := by
  simp [wsOf, List.getElem?_map, List.getElem?_zipIdx, h]
theorem ws_set {E : Ev} {μ : Mem} {k i : Nat} {v : Int32} {sh : SH} (h : shape[k]? = some sh) : (wsOf E μ).set k (e_ad E k, ent E sh (upd (μ k) i v)) = wsOf E (st μ k i v) := by
  apply List.ext_getElem?
  intro j
  by_cases hj : j = k
  · subst hj
    have hl : j < (wsOf E μ).length := (List.getElem?_eq_some_iff.mp (ws_get (E := E) (μ := μ) h)).1
    rw [List.getElem?_set_self hl, ws_get h, st_row]
  · rw [List.getElem?_set_ne (Ne.symm hj)]
    simp only [wsOf, List.getElem?_map, List.getElem?_zipIdx]
    cases shape[j]? with
    | none => rfl
    | some q => simp [st_ne μ v hj]
/-- a whole row -/
def str (μ : Mem) (k : Nat) (f : Nat → Int32) : Mem := fun a => if a = k then f else μ a
theorem ws_setr {E : Ev} {μ : Mem} {k : Nat} {f : Nat → Int32} {sh : SH} (h : shape[k]? = some sh) : (wsOf E μ).set k (e_ad E k, ent E sh f) = wsOf E (str μ k f) := by
  apply List.ext_getElem?
  intro j
  by_cases hj : j = k
  · subst hj
    have hl : j < (wsOf E μ).length := (List.getElem?_eq_some_iff.mp (ws_get (E := E) (μ := μ) h)).1
    rw [List.getElem?_set_self hl, ws_get h]; simp [str]
  · rw [List.getElem?_set_ne (Ne.symm hj)]
    simp only [wsOf, List.getElem?_map, List.getElem?_zipIdx]
    cases shape[j]? with
    | none => rfl
    | some q => simp [str, hj]
theorem ws_addr {E : Ev} {μ : Mem} {k : Nat} {q : Nat × va_E} (h : (wsOf E μ)[k]? = some q) : k < 77 ∧ q.1 = e_ad E k := by
  have hl := (List.getElem?_eq_some_iff.mp h).1
  have h2 : (wsOf E μ).length = 77 := by simp [wsOf, shape_len]
  simp only [wsOf, List.getElem?_map, List.getElem?_zipIdx] at h
  cases hs : shape[k]? with
  | none => simp [hs] at h
  | some x => simp [hs] at h; exact ⟨by omega, by rw [← h]⟩
theorem ws_D {E : Ev} {μ : Mem} {A : Nat → Prop} (hi : ∀ i j, i < 77 → j < 77 → e_ad E i = e_ad E j → i = j) (hA : ∀ k, k < 77 → A (e_ad E k)) : va_D A (wsOf E μ) :=
  ⟨fun i j p q hp hq h => hi i j (ws_addr hp).1 (ws_addr hq).1 (by rw [← (ws_addr hp).2, ← (ws_addr hq).2]; exact h), fun k q hk => by rw [(ws_addr hk).2]; exact hA k (ws_addr hk).1⟩
theorem flds_get {E : Ev} {fs : List (Option Nat)} {f : Nat → Int32} {i : Nat} {o : Option Nat} (h : fs[i]? = some o) : (flds E fs f)[i]? = some (fv E o (f i)) := by
  simp [flds, List.getElem?_map, List.getElem?_zipIdx, h]
  cases o <;> rfl
theorem flds_set {E : Ev} {fs : List (Option Nat)} {f : Nat → Int32} {i : Nat} {v : Int32} (h : fs[i]? = some none) : (flds E fs f).set i (.int v) = flds E fs (upd f i v) := by
  apply List.ext_getElem?
  intro j
  have hl : i < (flds E fs f).length := (List.getElem?_eq_some_iff.mp (flds_get (E := E) (f := f) h)).1
  by_cases hj : j = i
  · subst hj
    rw [List.getElem?_set_self hl, flds_get h]; simp [upd, fv]
  · rw [List.getElem?_set_ne (Ne.symm hj)]
    simp only [flds, List.getElem?_map, List.getElem?_zipIdx]
    cases fs[j]? with
    | none => rfl
    | some q => cases q <;> simp [upd, hj]
def lw_good : List Cond := lw_tbl.filter goodWord
theorem mg {w : Cond} (h : w ∈ lw_tbl) (g : goodWord w = true) : w ∈ lw_good := List.mem_filter.mpr ⟨h, g⟩
theorem good_in {w : Cond} (h : w ∈ lw_good) : w ∈ lw_tbl ∧ goodWord w = true := List.mem_filter.mp h
def isNest : Cond → Bool
  | .methodLinkNest .. => true
  | _ => false
/-- the tables' words for calls of a nest mate's private members -/
def NW (s : State) : Prop := (∀ own idx y host, Cond.methodLinkNest own idx y host ∈ lw_tbl → va_Nw (.methodLinkNest own idx y host) s) ∧ ∀ own idx a b c host, Cond.fieldLinkNest own idx a b c host ∈ lw_tbl → va_Nw (.fieldLinkNest own idx a b c host) s
theorem NW.warm {s U : State} (hW : s.WarmedH U.vm) (h : NW s) : NW U := ⟨fun own idx y host hw => va_Nw.warmM hW (h.1 own idx y host hw), fun own idx a b c host hw => va_Nw.warmF hW (h.2 own idx a b c host hw)⟩
theorem NW.same {s U : State} (hv : s.vm = U.vm) (h : NW s) : NW U := ⟨fun own idx y host hw => va_Nw.same rfl hv (h.1 own idx y host hw), fun own idx a b c host hw => va_Nw.same rfl hv (h.2 own idx a b c host hw)⟩

/-! statics: the tables ABOVE (77), BODIES (78), String constants (80 + i; their bytes 90 + i) -/
def tabA : Nat → Int32 := fun j => ([-1, 0, 0, 0, 1, 2, 3] : List Int32).getD j 0
def tabB : Nat → Int32 := fun j => ([1, 2, 3, 11, 0, 0, 0, 21, 0, 0, 0, 31, 0, 0, 41, 51, 0, 0, 0, 61, 0] : List Int32).getD j 0

def lenS : List Nat := [4, 4, 4, 6, 3, 5, 5, 5]
def bytS : List (List Int32) := [[112, 97, 115, 115], [100, 114, 97, 119], [104, 111, 108, 100], [112, 107, 120, 108, 102, 121], [60, 61, 62], [112, 97, 115, 115, 32], [100, 114, 97, 119, 32], [104, 111, 108, 100, 32]]
def refS : List (String × Nat × String × Nat) := [(RX5, 35, "pass", 0), (RX5, 37, "draw", 1), (RX5, 39, "hold", 2), (RX5, 85, "pkxlfy", 3), (RX5, 91, "<=>", 4), (RX9, 108, "pass ", 5), (RX9, 114, "draw ", 6), (RX9, 119, "hold ", 7), (RX9, 90, "pkxlfy", 3), (RX9, 96, "<=>", 4)]
def STa (E : Ev) (A : Nat → Prop) (s : State) (H : Heap) : Prop :=
  va_Z RX8 "ABOVE" "[I" (.ref (e_ad E 77)) A s H ∧ va_T .int (e_ad E 77) 7 (fun j => .int (tabA j)) A s H ∧
  va_Z RX1 "BODIES" "[I" (.ref (e_ad E 78)) A s H ∧ va_T .int (e_ad E 78) 21 (fun j => .int (tabB j)) A s H ∧
  va_Z "java/lang/String" "COMPACT_STRINGS" "Z" (.int 1) A s H ∧
  (va_Z "jdk/internal/util/Preconditions" "SIOOBE_FORMATTER" "Ljava/util/function/BiFunction;" .null A s H ∨ va_Z "jdk/internal/util/Preconditions" "SIOOBE_FORMATTER" "Ljava/util/function/BiFunction;" (.ref (e_ad E 79)) A s H) ∧
  vk_S 8 lenS bytS (fun i => e_ad E (80 + i)) (fun i => e_ad E (90 + i)) A s H ∧ ∀ q ∈ refS, vk_R q.1 q.2.1 q.2.2.1 (e_ad E (80 + q.2.2.2)) s
theorem STa.mv {E : Ev} {A : Nat → Prop} {s U : State} {H : Heap} (hv : s.vm.Alike U.vm) (hk : ∀ own k tx a, vk_R own k tx a s → vk_R own k tx a U) (h : STa E A s H) : STa E A U H := by
  obtain ⟨h1, h2, h3, h4, h5, h6, h7, h8⟩ := h
  exact ⟨h1.moved hv, h2.moved hv, h3.moved hv, h4.moved hv, h5.moved hv, h6.imp (fun h => h.moved hv) (fun h => h.moved hv), h7.moved hv, fun q hq => hk _ _ _ _ (h8 q hq)⟩
theorem STa.warm {E : Ev} {A : Nat → Prop} {s U : State} {H : Heap} (hW : s.WarmedH U.vm) (h : STa E A s H) : STa E A U H := h.mv hW.alike (fun _ _ _ _ h => h.warm hW)
theorem STa.same {E : Ev} {A : Nat → Prop} {s U : State} {H : Heap} (hv : U.vm = s.vm) (h : STa E A s H) : STa E A U H := h.mv (by rw [hv]; exact Vm.Alike.refl _) (fun _ _ _ _ h => h.same hv)
theorem STa.kept {E : Ev} {A : Nat → Prop} {s : State} {H H1 : Heap} (h : STa E A s H) (hq : ∀ a : Nat, a < H.size → ¬ A a → H1[a]? = H[a]?) : STa E A s H1 := by
  obtain ⟨h1, h2, h3, h4, h5, h6, h7, h8⟩ := h
  exact ⟨h1.kept hq, h2.kept hq, h3.kept hq, h4.kept hq, h5.kept hq, h6.imp (fun h => h.kept hq) (fun h => h.kept hq), h7.kept hq, h8⟩
theorem STa.narrow {E : Ev} {A B : Nat → Prop} {s : State} {H : Heap} (h : STa E A s H) (hAB : ∀ q, B q → A q) : STa E B s H := by
  obtain ⟨h1, h2, h3, h4, h5, h6, h7, h8⟩ := h
  exact ⟨h1.narrow hAB, h2.narrow hAB, h3.narrow hAB, h4.narrow hAB, h5.narrow hAB, h6.imp (fun h => h.narrow hAB) (fun h => h.narrow hAB), h7.narrow hAB, h8⟩

/-- what the tables and the statics give at a state -/
def KX (E : Ev) (A : Nat → Prop) (s : State) (H : Heap) : Prop := va_K (e_D E) vwCl (tysOf E) s ∧ NW s ∧ STa E A s H
theorem KX.moved {E : Ev} {A : Nat → Prop} {s U : State} {H : Heap} (hW : s.WarmedH U.vm) (h : KX E A s H) : KX E A U H := ⟨va_K.moved hW.alike h.1, h.2.1.warm hW, h.2.2.warm hW⟩
theorem KX.same {E : Ev} {A : Nat → Prop} {s U : State} {H : Heap} (hv : U.vm = s.vm) (h : KX E A s H) : KX E A U H := ⟨va_K.moved (u := s) (U := U) (by rw [hv]; exact Vm.Alike.refl _) h.1, h.2.1.same hv.symm, h.2.2.same hv⟩
theorem KX.kept {E : Ev} {A : Nat → Prop} {s : State} {H H1 : Heap} (h : KX E A s H) (hq : ∀ a : Nat, a < H.size → ¬ A a → H1[a]? = H[a]?) : KX E A s H1 := ⟨h.1, h.2.1, h.2.2.kept hq⟩
theorem KX.narrow {E : Ev} {A B : Nat → Prop} {s : State} {H : Heap} (h : KX E A s H) (hAB : ∀ q, B q → A q) : KX E B s H := ⟨h.1, h.2.1, h.2.2.narrow hAB⟩
/-- E: its addresses are apart -/
def EOK (E : Ev) : Prop := ∀ i j, i < 77 → j < 77 → e_ad E i = e_ad E j → i = j
abbrev Cx : Type := Program × Env × Room × State × MethodId × Array Value × List Frame × Method × Code × (Addr → Prop) × Nat × Nat × (State → Prop)
def g_p (Γ : Cx) := Γ.1
def g_e (Γ : Cx) := Γ.2.1
def g_R (Γ : Cx) := Γ.2.2.1
def g_s (Γ : Cx) := Γ.2.2.2.1
def g_m (Γ : Cx) := Γ.2.2.2.2.1
def g_args (Γ : Cx) := Γ.2.2.2.2.2.1
def g_below (Γ : Cx) := Γ.2.2.2.2.2.2.1
def g_meth (Γ : Cx) := Γ.2.2.2.2.2.2.2.1
def g_c (Γ : Cx) := Γ.2.2.2.2.2.2.2.2.1
def g_A (Γ : Cx) := Γ.2.2.2.2.2.2.2.2.2.1
def g_cells (Γ : Cx) := Γ.2.2.2.2.2.2.2.2.2.2.1
def g_slots (Γ : Cx) := Γ.2.2.2.2.2.2.2.2.2.2.2.1
def g_Z (Γ : Cx) := Γ.2.2.2.2.2.2.2.2.2.2.2.2
def OKc (E : Ev) (Γ : Cx) (cc : ByteArray) (nL : Nat) (own : String) (d : Nat) : Prop :=
  (g_p Γ).tables.exec = Jvm.exec ∧ (g_c Γ).code = cc ∧ (g_c Γ).maxLocals = nL ∧ (g_s Γ).vm.findClass own = some (g_m Γ).cls ∧ (∀ w ∈ lw_good, w.before (g_args Γ) (g_s Γ) = true) ∧ (d ≤ (g_R Γ).frames ∧ 64 * d ≤ (g_R Γ).locals ∧ g_cells Γ ≤ (g_R Γ).cells ∧ g_slots Γ ≤ (g_R Γ).slots) ∧ KX E (g_A Γ) (g_s Γ) (g_s Γ).heap ∧ EOK E ∧ ∀ k, k < 77 → g_A Γ (e_ad E k)
def lh (ls : Array Slot) (nL : Nat) (L : List Value) : Prop := ls.size = nL ∧ lv_wf ls ∧ ∀ (i : Nat) (v : Value), L[i]? = some v → v ≠ .null → ls[i]? = some (.val v)
def CW (E : Ev) (Γ : Cx) (cc : ByteArray) (nL : Nat) (own : String) (d pc : Nat) (L S : List Value) (μ : Mem) : Prop :=
  OKc E Γ cc nL own d → ∀ (H : Heap) (locs : List Loc) (ls : Array Slot), va_P (e_D E) vwCl (wsOf E μ) H → va_S (g_A Γ) (g_s Γ).heap H locs → lh ls nL (L.map (cv E)) →
    W (g_p Γ) (e_l E) (g_e Γ) (g_R Γ) (g_s Γ) (g_m Γ) (g_args Γ) (g_below Γ) (g_meth Γ) (g_c Γ) H locs (g_cells Γ) (g_slots Γ) (g_Z Γ) (F0 (g_m Γ) pc ls (S.map (cv E)))
def PcOf (E : Ev) (vs : List Value) (μ : Mem) : Array Value → State → Prop := va_Pc (vs.map (cv E)) (fun U => KX E (AE E) U U.heap ∧ va_P (e_D E) vwCl (wsOf E μ) U.heap ∧ EOK E)
def QcOf (E : Ev) (Q : Option Value → Mem → Prop) : Array Value → State → Outcome → State → Prop := fun _ s0 oc t => (∃ (r : Option Value) (μ' : Mem), oc = .returned (r.map (cv E)) ∧ Q r μ' ∧ va_P (e_D E) vwCl (wsOf E μ') t.heap) ∧ va_F (AE E) s0 t
def rmOf (d : Nat) : Room := { frames := d, cells := 0, slots := 0, locals := 64 * d }
/-- y, from these arguments and this memory, returns what Q says (its calls nest at most d deep) -/
def AM (E : Ev) (y : MethodName) (cc : ByteArray) (nL : Nat) (ret : Option FieldType) (d : Nat) (vs : List Value) (μ : Mem) (Q : Option Value → Mem → Prop) : Prop :=
  Met (e_l E) y (.code y cc nL ret :: lw_good) (rmOf d) (PcOf E vs μ) (QcOf E Q) 0 0 (AE E)
theorem AM.mono {E : Ev} {y : MethodName} {cc : ByteArray} {nL : Nat} {ret : Option FieldType} {d : Nat} {vs : List Value} {μ : Mem} {Q Q' : Option Value → Mem → Prop} (h : AM E y cc nL ret d vs μ Q) (hQ : ∀ r μ', Q r μ' → Q' r μ') : AM E y cc nL ret d vs μ Q' :=
by
  unfold AM Met at h ⊢
  refine MetFree.mono h (fun _ _ x => x) (fun _ _ _ _ _ x => x) (fun a s o t _ hq => ?_)
  obtain ⟨⟨⟨r, μ', h1, h2, h3⟩, h4⟩, h5⟩ := hq
  exact ⟨⟨⟨r, μ', h1, hQ r μ' h2, h3⟩, h4⟩, h5⟩
/-- the method's end -/
def RT (E : Ev) (Γ : Cx) (ret : Option FieldType) (Q : Option Value → Mem → Prop) : Prop :=
  (g_meth Γ).sig.returnType = ret ∧ (g_meth Γ).locks = false ∧ g_A Γ = AE E ∧ g_cells Γ = 0 ∧ g_slots Γ = 0 ∧ g_Z Γ = MQ (g_below Γ) (QcOf E Q) (g_args Γ) (g_s Γ) 0 0 (AE E)
def argL : List Value → List Value
  | [] => []
  | v :: vs => if v.category = 2 then v :: .null :: argL vs else v :: argL vs
theorem argL_lh (vs : List Value) : ∀ (i : Nat) (ls : Array Slot), (∀ q ∈ lv_args i vs, ls[q.1]? = some (.val q.2)) → ∀ (j : Nat) (v : Value), (argL vs)[j]? = some v → v ≠ .null → ls[i + j]? = some (.val v) := by
  induction vs with
  | nil => intro i ls _ j v h; simp [argL] at h
  | cons a vs ih =>
    intro i ls h j v hj hv
    have h0 := h (i, a) (by simp [lv_args])
    by_cases hc : a.category = 2
    · simp only [lv_args, hc, if_true] at h
      have h1 := ih (i + 2) ls (fun q hq => h q (List.mem_cons_of_mem _ hq))
      simp only [argL, hc, if_true] at hj
      match j, hj with
      | 0, hj => simp at hj; subst hj; exact h0
      | 1, hj => simp at hj; exact absurd hj.symm hv
      | j + 2, hj =>
        have := h1 j v (by simpa using hj) hv
        rw [show i + (j + 2) = i + 2 + j by omega]; exact this
    · simp only [lv_args, hc, if_false] at h
      have h1 := ih (i + 1) ls (fun q hq => h q (List.mem_cons_of_mem _ hq))
      simp only [argL, hc, if_false] at hj
      match j, hj with
      | 0, hj => simp at hj; subst hj; exact h0
      | j + 1, hj =>
        have := h1 j v (by simpa using hj) hv
        rw [show i + (j + 1) = i + 1 + j by omega]; exact this
theorem argL_cv (E : Ev) (vs : List Value) : argL (vs.map (cv E)) = (argL vs).map (cv E) := by
  induction vs with
  | nil => rfl
  | cons a vs ih =>
    simp only [List.map_cons, argL, cv_cat]
    by_cases hc : a.category = 2
    · simp [hc, ih, cv]
    · simp [hc, ih]
theorem sl_len (vs : List Value) : (lg_sl vs).length = (argL vs).length := by
  induction vs with
  | nil => rfl
  | cons a vs ih =>
    have e : lg_sl (a :: vs) = (if a.category = 2 then [.val a, .second] else [.val a]) ++ lg_sl vs := by simp [lg_sl]
    rw [e]
    by_cases hc : a.category = 2
    · simp [hc, argL, ih]
    · simp [hc, argL, ih]
theorem am_of {E : Ev} {y : MethodName} {cc : ByteArray} {nL : Nat} {ret : Option FieldType} {own : String} {d : Nat} {vs : List Value} {L : List Value} {μ : Mem} {Q : Option Value → Mem → Prop}
    (hy : plainName y.cls = true) (hown : y.cls = own) (hn : (argL vs).length ≤ nL) (hL : argL vs ++ List.replicate (nL - (argL vs).length) .null = L)
    (k : ∀ Γ, RT E Γ ret Q → CW E Γ cc nL own d 0 L [] μ) : AM E y cc nL ret d vs μ Q := by
  refine Met.ofW (cc := cc) (maxL := nL) (ret := ret) hy rfl ?_
  intro p e s m args below meth c s₁ B hml hv
  obtain ⟨rfl, hKX, hP, hE⟩ := hv
  have hts := atoms_spec B.pre
  have C := k (p, e, rmOf d, s, m, (vs.map (cv E)).toArray, below, meth, c, AE E, 0, 0, MQ below (QcOf E Q) (vs.map (cv E)).toArray s 0 0 (AE E)) ⟨B.returns, B.notSynchronized, rfl, rfl, rfl, rfl⟩
    ⟨B.exec, B.bytes, hml, by rw [← hown]; exact findClass_of_methodNamed B.named, fun w hw => hts w (List.mem_cons_of_mem _ hw), ⟨Nat.le_refl _, Nat.le_refl _, Nat.le_refl _, Nat.le_refl _⟩, hKX, hE, fun k hk => ⟨k, hk, rfl⟩⟩
    s.heap []
  rw [lg_entry_eq]
  have hlen : (lg_sl (vs.map (cv E))).length ≤ nL := by rw [sl_len, argL_cv, List.length_map]; exact hn
  have hl := lv_entry (vs.map (cv E)) (n := nL) hlen
  refine C _ hP va_S.rf ⟨hl.1, hl.2.1, fun i v h1 h2 => ?_⟩
  rw [← hL, List.map_append, ← argL_cv] at h1
  by_cases hi : i < (argL (vs.map (cv E))).length
  · rw [List.getElem?_append_left hi] at h1
    have := argL_lh (vs.map (cv E)) 0 _ hl.2.2 i v h1 h2
    simpa using this
  · rw [List.getElem?_append_right (by omega)] at h1
    simp only [List.map_replicate] at h1
    rw [List.getElem?_replicate] at h1
    split at h1
    · cases h1; exact absurd rfl h2
    · cases h1

section CWrows
variable {E : Ev} {Γ : Cx} {cc : ByteArray} {nL : Nat} {own : String} {d pc : Nat} {L S : List Value} {μ : Mem} {ret : Option FieldType} {Q : Option Value → Mem → Prop}
theorem lh.at {ls : Array Slot} (h : lh ls nL (L.map (cv E))) {i : Nat} {v : Value} (hi : L[i]? = some v) (hv : cv E v ≠ .null) : ls[i]? = some (.val (cv E v)) := h.2.2 i _ (by rw [List.getElem?_map, hi]; rfl) hv
/-- no long stands just ahead of i -/
def noL (L : List Value) (i : Nat) : Bool := match i with
  | 0 => true
  | i + 1 => match L[i]? with
    | some (.long _) => false
    | some (.double _) => false
    | _ => true
theorem lh.set1 {ls : Array Slot} (h : lh ls nL (L.map (cv E))) {i : Nat} {v : Value} (hi : i < nL) (hc : v.category = 1) (hno : noL L i = true) : ∃ ls', setAt ls i (.val (cv E v)) = some ls' ∧ True := by
  obtain ⟨l', h1, -⟩ := lv_set (.val (cv E v)) (l := ls) (i := i) (by rw [h.1]; exact hi)
  exact ⟨l', h1, trivial⟩

theorem cw_iadd {x y : Int32} (hd : decode cc pc = .ok (.iadd, 1)) (k : CW E Γ cc nL own d (pc + 1) L (.int (x + y) :: S) μ) : CW E Γ cc nL own d pc L (.int y :: .int x :: S) μ :=
  fun C H locs ls hP hS hl => lv_iadd C.1 C.2.1 hd (k C H locs ls hP hS hl)
theorem cw_isub {x y : Int32} (hd : decode cc pc = .ok (.isub, 1)) (k : CW E Γ cc nL own d (pc + 1) L (.int (x - y) :: S) μ) : CW E Γ cc nL own d pc L (.int y :: .int x :: S) μ :=
  fun C H locs ls hP hS hl => lv_isub C.1 C.2.1 hd (k C H locs ls hP hS hl)
theorem cw_imul {x y : Int32} (hd : decode cc pc = .ok (.imul, 1)) (k : CW E Γ cc nL own d (pc + 1) L (.int (x * y) :: S) μ) : CW E Γ cc nL own d pc L (.int y :: .int x :: S) μ :=
  fun C H locs ls hP hS hl => lv_imul C.1 C.2.1 hd (k C H locs ls hP hS hl)
theorem cw_iand {x y : Int32} (hd : decode cc pc = .ok (.iand, 1)) (k : CW E Γ cc nL own d (pc + 1) L (.int (x &&& y) :: S) μ) : CW E Γ cc nL own d pc L (.int y :: .int x :: S) μ :=
  fun C H locs ls hP hS hl => lv_iand C.1 C.2.1 hd (k C H locs ls hP hS hl)
theorem cw_ior {x y : Int32} (hd : decode cc pc = .ok (.ior, 1)) (k : CW E Γ cc nL own d (pc + 1) L (.int (x ||| y) :: S) μ) : CW E Γ cc nL own d pc L (.int y :: .int x :: S) μ :=
  fun C H locs ls hP hS hl => lv_ior C.1 C.2.1 hd (k C H locs ls hP hS hl)
theorem cw_ixor {x y : Int32} (hd : decode cc pc = .ok (.ixor, 1)) (k : CW E Γ cc nL own d (pc + 1) L (.int (x ^^^ y) :: S) μ) : CW E Γ cc nL own d pc L (.int y :: .int x :: S) μ :=
  fun C H locs ls hP hS hl => lv_ixor C.1 C.2.1 hd (k C H locs ls hP hS hl)
theorem cw_ishl {x y : Int32} (hd : decode cc pc = .ok (.ishl, 1)) (k : CW E Γ cc nL own d (pc + 1) L (.int (x <<< (y &&& 31)) :: S) μ) : CW E Γ cc nL own d pc L (.int y :: .int x :: S) μ :=
  fun C H locs ls hP hS hl => lv_ishl C.1 C.2.1 hd (k C H locs ls hP hS hl)
theorem cw_ishr {x y : Int32} (hd : decode cc pc = .ok (.ishr, 1)) (k : CW E Γ cc nL own d (pc + 1) L (.int (x >>> (y &&& 31)) :: S) μ) : CW E Γ cc nL own d pc L (.int y :: .int x :: S) μ :=
  fun C H locs ls hP hS hl => lv_ishr C.1 C.2.1 hd (k C H locs ls hP hS hl)
theorem cw_iushr {x y : Int32} (hd : decode cc pc = .ok (.iushr, 1)) (k : CW E Γ cc nL own d (pc + 1) L (.int ((x.toUInt32 >>> (y.toUInt32 &&& Int32.toUInt32 31)).toInt32) :: S) μ) : CW E Γ cc nL own d pc L (.int y :: .int x :: S) μ :=
  fun C H locs ls hP hS hl => lv_iushr C.1 C.2.1 hd rfl (k C H locs ls hP hS hl)
theorem cw_idiv {x y : Int32} (hd : decode cc pc = .ok (.idiv, 1)) (hne : ¬ y = 0) (k : CW E Γ cc nL own d (pc + 1) L (.int (x / y) :: S) μ) : CW E Γ cc nL own d pc L (.int y :: .int x :: S) μ :=
  fun C H locs ls hP hS hl => lv_idiv C.1 C.2.1 hd hne (k C H locs ls hP hS hl)
theorem cw_irem {x y : Int32} (hd : decode cc pc = .ok (.irem, 1)) (hne : ¬ y = 0) (k : CW E Γ cc nL own d (pc + 1) L (.int (x - x / y * y) :: S) μ) : CW E Γ cc nL own d pc L (.int y :: .int x :: S) μ :=
  fun C H locs ls hP hS hl => lv_irem C.1 C.2.1 hd hne (k C H locs ls hP hS hl)
theorem cw_ineg {x : Int32} (hd : decode cc pc = .ok (.ineg, 1)) (k : CW E Γ cc nL own d (pc + 1) L (.int (-x) :: S) μ) : CW E Γ cc nL own d pc L (.int x :: S) μ :=
  fun C H locs ls hP hS hl => lv_ineg C.1 C.2.1 hd (k C H locs ls hP hS hl)
theorem cw_ladd {x y : Int64} (hd : decode cc pc = .ok (.ladd, 1)) (k : CW E Γ cc nL own d (pc + 1) L (.long (x + y) :: S) μ) : CW E Γ cc nL own d pc L (.long y :: .long x :: S) μ :=
  fun C H locs ls hP hS hl => lv_ladd C.1 C.2.1 hd (k C H locs ls hP hS hl)
theorem cw_ldiv {x y : Int64} (hd : decode cc pc = .ok (.ldiv, 1)) (hne : ¬ y = 0) (k : CW E Γ cc nL own d (pc + 1) L (.long (x / y) :: S) μ) : CW E Γ cc nL own d pc L (.long y :: .long x :: S) μ :=
  fun C H locs ls hP hS hl => lv_ldiv C.1 C.2.1 hd hne (k C H locs ls hP hS hl)
theorem cw_lrem {x y : Int64} (hd : decode cc pc = .ok (.lrem, 1)) (hne : ¬ y = 0) (k : CW E Γ cc nL own d (pc + 1) L (.long (x - x / y * y) :: S) μ) : CW E Γ cc nL own d pc L (.long y :: .long x :: S) μ :=
  fun C H locs ls hP hS hl => lv_lrem C.1 C.2.1 hd hne (k C H locs ls hP hS hl)
theorem cw_lneg {x : Int64} (hd : decode cc pc = .ok (.lneg, 1)) (k : CW E Γ cc nL own d (pc + 1) L (.long (-x) :: S) μ) : CW E Γ cc nL own d pc L (.long x :: S) μ :=
  fun C H locs ls hP hS hl => lv_lneg C.1 C.2.1 hd (k C H locs ls hP hS hl)
theorem cw_lcmp {x y : Int64} (hd : decode cc pc = .ok (.lcmp, 1)) (k : CW E Γ cc nL own d (pc + 1) L (.int (lg_cmp x y) :: S) μ) : CW E Γ cc nL own d pc L (.long y :: .long x :: S) μ :=
  fun C H locs ls hP hS hl => W.lcmp C.1 C.2.1 hd (k C H locs ls hP hS hl)
theorem cw_i2l {x : Int32} (hd : decode cc pc = .ok (.i2l, 1)) (k : CW E Γ cc nL own d (pc + 1) L (.long x.toInt64 :: S) μ) : CW E Γ cc nL own d pc L (.int x :: S) μ :=
  fun C H locs ls hP hS hl => lv_i2l C.1 C.2.1 hd rfl (k C H locs ls hP hS hl)
theorem cw_iconst {n : Int} {v : Int32} (hd : decode cc pc = .ok (.iconst n, 1)) (hv : Int32.ofInt n = v) (k : CW E Γ cc nL own d (pc + 1) L (.int v :: S) μ) : CW E Γ cc nL own d pc L (S) μ :=
  fun C H locs ls hP hS hl => lv_iconst C.1 C.2.1 hd hv (k C H locs ls hP hS hl)
theorem cw_bipush {n : Int} {v : Int32} (hd : decode cc pc = .ok (.bipush n, 2)) (hv : (Int8.ofInt n).toInt32 = v) (k : CW E Γ cc nL own d (pc + 2) L (.int v :: S) μ) : CW E Γ cc nL own d pc L (S) μ :=
  fun C H locs ls hP hS hl => lv_bipush C.1 C.2.1 hd hv (k C H locs ls hP hS hl)
theorem cw_sipush {n : Int} {v : Int32} (hd : decode cc pc = .ok (.sipush n, 3)) (hv : (Int16.ofInt n).toInt32 = v) (k : CW E Γ cc nL own d (pc + 3) L (.int v :: S) μ) : CW E Γ cc nL own d pc L (S) μ :=
  fun C H locs ls hP hS hl => lv_sipush C.1 C.2.1 hd hv (k C H locs ls hP hS hl)
theorem cw_lconst {n : Fin 2} {v : Int64} (hd : decode cc pc = .ok (.lconst n, 1)) (hv : Int64.ofNat (n : Nat) = v) (k : CW E Γ cc nL own d (pc + 1) L (.long v :: S) μ) : CW E Γ cc nL own d pc L (S) μ :=
  fun C H locs ls hP hS hl => lv_lconst C.1 C.2.1 hd hv (k C H locs ls hP hS hl)
theorem cw_dup {v : Value} (hd : decode cc pc = .ok (.dup, 1)) (hv : v.category = 1) (k : CW E Γ cc nL own d (pc + 1) L (v :: v :: S) μ) : CW E Γ cc nL own d pc L (v :: S) μ :=
  fun C H locs ls hP hS hl => lv_dup C.1 C.2.1 hd (by rw [cv_cat]; exact hv) (k C H locs ls hP hS hl)
theorem cw_pop {v : Value} (hd : decode cc pc = .ok (.pop, 1)) (hv : v.category = 1) (k : CW E Γ cc nL own d (pc + 1) L (S) μ) : CW E Γ cc nL own d pc L (v :: S) μ :=
  fun C H locs ls hP hS hl => lv_pop C.1 C.2.1 hd (by rw [cv_cat]; exact hv) (k C H locs ls hP hS hl)
theorem cw_dup2 {v w : Value} (hd : decode cc pc = .ok (.dup2, 1)) (hv : v.category = 1) (hw : w.category = 1) (k : CW E Γ cc nL own d (pc + 1) L (v :: w :: v :: w :: S) μ) : CW E Γ cc nL own d pc L (v :: w :: S) μ :=
  fun C H locs ls hP hS hl => lv_dup2_11 C.1 C.2.1 hd (by rw [cv_cat]; exact hv) (by rw [cv_cat]; exact hw) (k C H locs ls hP hS hl)
theorem cw_dup_x1 {v w : Value} (hd : decode cc pc = .ok (.dup_x1, 1)) (hv : v.category = 1) (hw : w.category = 1) (k : CW E Γ cc nL own d (pc + 1) L (v :: w :: v :: S) μ) : CW E Γ cc nL own d pc L (v :: w :: S) μ :=
  fun C H locs ls hP hS hl => lv_dup_x1 C.1 C.2.1 hd (by rw [cv_cat]; exact hv) (by rw [cv_cat]; exact hw) (k C H locs ls hP hS hl)
theorem cw_dup_x2 {v w z : Value} (hd : decode cc pc = .ok (.dup_x2, 1)) (hv : v.category = 1) (hw : w.category = 1) (hz : z.category = 1) (k : CW E Γ cc nL own d (pc + 1) L (v :: w :: z :: v :: S) μ) : CW E Γ cc nL own d pc L (v :: w :: z :: S) μ :=
  fun C H locs ls hP hS hl => lv_dup_x2 C.1 C.2.1 hd (by rw [cv_cat]; exact hv) (by rw [cv_cat]; exact hw) (by rw [cv_cat]; exact hz) (k C H locs ls hP hS hl)
theorem cw_iload_n {n : Fin 4} {i : Nat} {x : Int32} (hd : decode cc pc = .ok (.iload_n n, 1)) (hi : (n : Nat) = i) (hv : L[i]? = some (.int x)) (k : CW E Γ cc nL own d (pc + 1) L (.int x :: S) μ) : CW E Γ cc nL own d pc L S μ :=
  fun C H locs ls hP hS hl => lv_iload_n C.1 C.2.1 hd hi (hl.at hv (fun h => by cases h)) (k C H locs ls hP hS hl)
theorem cw_iload {i : Nat} {x : Int32} (hd : decode cc pc = .ok (.iload i, 2)) (hv : L[i]? = some (.int x)) (k : CW E Γ cc nL own d (pc + 2) L (.int x :: S) μ) : CW E Γ cc nL own d pc L S μ :=
  fun C H locs ls hP hS hl => lv_iload C.1 C.2.1 hd (hl.at hv (fun h => by cases h)) (k C H locs ls hP hS hl)
theorem cw_lload_n {n : Fin 4} {i : Nat} {x : Int64} (hd : decode cc pc = .ok (.lload_n n, 1)) (hi : (n : Nat) = i) (hv : L[i]? = some (.long x)) (k : CW E Γ cc nL own d (pc + 1) L (.long x :: S) μ) : CW E Γ cc nL own d pc L S μ :=
  fun C H locs ls hP hS hl => lv_lload_n C.1 C.2.1 hd hi (hl.at hv (fun h => by cases h)) (k C H locs ls hP hS hl)
theorem cw_lload {i : Nat} {x : Int64} (hd : decode cc pc = .ok (.lload i, 2)) (hv : L[i]? = some (.long x)) (k : CW E Γ cc nL own d (pc + 2) L (.long x :: S) μ) : CW E Γ cc nL own d pc L S μ :=
  fun C H locs ls hP hS hl => lv_lload C.1 C.2.1 hd (hl.at hv (fun h => by cases h)) (k C H locs ls hP hS hl)
theorem cw_aload_n {n : Fin 4} {i : Nat} {x : Nat} (hd : decode cc pc = .ok (.aload_n n, 1)) (hi : (n : Nat) = i) (hv : L[i]? = some (.ref x)) (k : CW E Γ cc nL own d (pc + 1) L (.ref x :: S) μ) : CW E Γ cc nL own d pc L S μ :=
  fun C H locs ls hP hS hl => lv_aload_n C.1 C.2.1 hd hi (hl.at hv (fun h => by cases h)) (k C H locs ls hP hS hl)
theorem cw_aload {i : Nat} {x : Nat} (hd : decode cc pc = .ok (.aload i, 2)) (hv : L[i]? = some (.ref x)) (k : CW E Γ cc nL own d (pc + 2) L (.ref x :: S) μ) : CW E Γ cc nL own d pc L S μ :=
  fun C H locs ls hP hS hl => lv_aload C.1 C.2.1 hd (hl.at hv (fun h => by cases h)) (k C H locs ls hP hS hl)
/-- the locals as the kit lists them -/
def prs (L : List Value) : List (Nat × Value) := (L.zipIdx.filter (fun q => q.1 != .null)).map (fun q => (q.2, q.1))
theorem prs_mem {L : List Value} {i : Nat} {v : Value} : (i, v) ∈ prs L ↔ L[i]? = some v ∧ v ≠ .null := by
  simp only [prs, List.mem_map, List.mem_filter]
  constructor
  · rintro ⟨q, ⟨h1, h2⟩, h3⟩
    cases h3
    exact ⟨List.mem_zipIdx_iff_getElem?.mp h1, by simpa using h2⟩
  · rintro ⟨h1, h2⟩
    exact ⟨(v, i), ⟨List.mem_zipIdx_iff_getElem?.mpr h1, by simpa using h2⟩, rfl⟩
theorem lh_has {ls : Array Slot} : lh ls nL L ↔ lv_has ls nL (prs L) := by
  constructor
  · rintro ⟨h1, h2, h3⟩
    refine ⟨h1, h2, fun q hq => ?_⟩
    obtain ⟨i, v⟩ := q
    exact h3 i v (prs_mem.mp hq).1 (prs_mem.mp hq).2
  · rintro ⟨h1, h2, h3⟩
    exact ⟨h1, h2, fun i v hi hv => h3 (i, v) (prs_mem.mpr ⟨hi, hv⟩)⟩
theorem noL_cat {L : List Value} {i : Nat} (h : noL L i = true) {j : Nat} {v : Value} (hj : j + 1 = i) (hv : L[j]? = some v) : v.category = 1 := by
  subst hj
  simp only [noL, hv] at h
  cases v <;> simp_all [Value.category]
theorem lh.st1 {ls : Array Slot} {i : Nat} {v : Value} (hno : noL L i = true) (h : lv_has ls nL ((i, cv E v) :: (prs (L.map (cv E))).filter (fun q => !(q.1 == i) && !(q.1 + 1 == i && q.2.category == 2)))) : lh ls nL ((L.set i v).map (cv E)) := by
  refine ⟨h.1, h.2.1, fun j w hj hw => ?_⟩
  rw [List.getElem?_map] at hj
  by_cases hji : j = i
  · subst hji
    cases hx : (L.set j v)[j]? with
    | none => rw [hx] at hj; cases hj
    | some z =>
      rw [hx] at hj
      have hl : j < (L.set j v).length := (List.getElem?_eq_some_iff.mp hx).1
      rw [List.getElem?_set_self (by simpa using hl)] at hx
      cases hx; cases hj
      exact h.2.2 (j, cv E v) List.mem_cons_self
  · rw [List.getElem?_set_ne (fun q => hji q.symm)] at hj
    refine h.2.2 (j, w) (List.mem_cons_of_mem _ (List.mem_filter.mpr ⟨prs_mem.mpr ⟨by rw [List.getElem?_map]; exact hj, hw⟩, ?_⟩))
    have h1 : (j == i) = false := by simpa using hji
    simp only [h1, Bool.not_false, Bool.true_and]
    by_cases hj1 : j + 1 = i
    · cases hx : L[j]? with
      | none => rw [hx] at hj; cases hj
      | some z =>
        rw [hx] at hj; cases hj
        have := noL_cat hno hj1 hx
        simp [cv_cat, this]
    · simp [hj1]

theorem cw_istore_n {n : Fin 4} {i : Nat} {x : Int32} {L' : List Value} (hd : decode cc pc = .ok (.istore_n n, 1)) (hi : (n : Nat) = i) (hn : i < nL) (hno : noL L i = true) (hL : L.set i (.int x) = L') (k : CW E Γ cc nL own d (pc + 1) L' S μ) : CW E Γ cc nL own d pc L (.int x :: S) μ :=
  fun C H locs ls hP hS hl => lv_istore_n C.1 C.2.1 hd hi (lh_has.mp hl) hn rfl (fun ls' hl' => k C H locs ls' hP hS (by rw [← hL]; exact lh.st1 (v := .int x) hno hl'))
theorem cw_istore {i : Nat} {x : Int32} {L' : List Value} (hd : decode cc pc = .ok (.istore i, 2)) (hn : i < nL) (hno : noL L i = true) (hL : L.set i (.int x) = L') (k : CW E Γ cc nL own d (pc + 2) L' S μ) : CW E Γ cc nL own d pc L (.int x :: S) μ :=
  fun C H locs ls hP hS hl => lv_istore C.1 C.2.1 hd (lh_has.mp hl) hn rfl (fun ls' hl' => k C H locs ls' hP hS (by rw [← hL]; exact lh.st1 (v := .int x) hno hl'))
theorem cw_astore_n {n : Fin 4} {i : Nat} {x : Nat} {L' : List Value} (hd : decode cc pc = .ok (.astore_n n, 1)) (hi : (n : Nat) = i) (hn : i < nL) (hno : noL L i = true) (hL : L.set i (.ref x) = L') (k : CW E Γ cc nL own d (pc + 1) L' S μ) : CW E Γ cc nL own d pc L (.ref x :: S) μ :=
  fun C H locs ls hP hS hl => lv_astore_n C.1 C.2.1 hd hi (lh_has.mp hl) hn rfl (fun ls' hl' => k C H locs ls' hP hS (by rw [← hL]; exact lh.st1 (v := .ref x) hno hl'))
theorem cw_astore {i : Nat} {x : Nat} {L' : List Value} (hd : decode cc pc = .ok (.astore i, 2)) (hn : i < nL) (hno : noL L i = true) (hL : L.set i (.ref x) = L') (k : CW E Γ cc nL own d (pc + 2) L' S μ) : CW E Γ cc nL own d pc L (.ref x :: S) μ :=
  fun C H locs ls hP hS hl => lv_astore C.1 C.2.1 hd (lh_has.mp hl) hn rfl (fun ls' hl' => k C H locs ls' hP hS (by rw [← hL]; exact lh.st1 (v := .ref x) hno hl'))
theorem lh.st2 {ls : Array Slot} {i : Nat} {x : Int64} (hno : noL L i = true) (h : lv_has ls nL ((i, .long x) :: (prs (L.map (cv E))).filter (fun q => !(q.1 == i) && (!(q.1 == i + 1) && !(q.1 + 1 == i && q.2.category == 2))))) : lh ls nL (((L.set i (.long x)).set (i + 1) .null).map (cv E)) := by
  refine ⟨h.1, h.2.1, fun j w hj hw => ?_⟩
  rw [List.getElem?_map] at hj
  by_cases hj1 : j = i + 1
  · subst hj1
    cases hx : ((L.set i (.long x)).set (i + 1) .null)[i + 1]? with
    | none => rw [hx] at hj; cases hj
    | some z =>
      rw [hx] at hj
      have hl := (List.getElem?_eq_some_iff.mp hx).1
      rw [List.getElem?_set_self (by simpa using hl)] at hx
      cases hx; cases hj
      exact absurd rfl hw
  · rw [List.getElem?_set_ne (fun q => hj1 q.symm)] at hj
    by_cases hji : j = i
    · subst hji
      cases hx : (L.set j (.long x))[j]? with
      | none => rw [hx] at hj; cases hj
      | some z =>
        rw [hx] at hj
        have hl := (List.getElem?_eq_some_iff.mp hx).1
        rw [List.getElem?_set_self (by simpa using hl)] at hx
        cases hx; cases hj
        exact h.2.2 (j, .long x) List.mem_cons_self
    · rw [List.getElem?_set_ne (fun q => hji q.symm)] at hj
      refine h.2.2 (j, w) (List.mem_cons_of_mem _ (List.mem_filter.mpr ⟨prs_mem.mpr ⟨by rw [List.getElem?_map]; exact hj, hw⟩, ?_⟩))
      have h1 : (j == i) = false := by simpa using hji
      have h2 : (j == i + 1) = false := by simpa using hj1
      simp only [h1, h2, Bool.not_false, Bool.true_and]
      by_cases hj1 : j + 1 = i
      · cases hx : L[j]? with
        | none => rw [hx] at hj; cases hj
        | some z =>
          rw [hx] at hj; cases hj
          have := noL_cat hno hj1 hx
          simp [cv_cat, this]
      · simp [hj1]
theorem cw_lstore_n {n : Fin 4} {i : Nat} {x : Int64} {L' : List Value} (hd : decode cc pc = .ok (.lstore_n n, 1)) (hi : (n : Nat) = i) (hn : i + 1 < nL) (hno : noL L i = true) (hL : (L.set i (.long x)).set (i + 1) .null = L') (k : CW E Γ cc nL own d (pc + 1) L' S μ) : CW E Γ cc nL own d pc L (.long x :: S) μ :=
  fun C H locs ls hP hS hl => lv_lstore_n C.1 C.2.1 hd hi (lh_has.mp hl) hn rfl (fun ls' hl' => k C H locs ls' hP hS (by rw [← hL]; exact lh.st2 hno hl'))
theorem cw_lstore {i : Nat} {x : Int64} {L' : List Value} (hd : decode cc pc = .ok (.lstore i, 2)) (hn : i + 1 < nL) (hno : noL L i = true) (hL : (L.set i (.long x)).set (i + 1) .null = L') (k : CW E Γ cc nL own d (pc + 2) L' S μ) : CW E Γ cc nL own d pc L (.long x :: S) μ :=
  fun C H locs ls hP hS hl => lv_lstore C.1 C.2.1 hd (lh_has.mp hl) hn rfl (fun ls' hl' => k C H locs ls' hP hS (by rw [← hL]; exact lh.st2 hno hl'))
theorem cw_iinc {i : Nat} {n : Int} {x v : Int32} {L' : List Value} (hd : decode cc pc = .ok (.iinc i n, 3)) (hx : L[i]? = some (.int x)) (hv : x + Int32.ofInt n = v) (hn : i < nL) (hno : noL L i = true) (hL : L.set i (.int v) = L') (k : CW E Γ cc nL own d (pc + 3) L' S μ) : CW E Γ cc nL own d pc L S μ := by
  intro C H locs ls hP hS hl
  have hm : (i, Value.int x) ∈ prs (L.map (cv E)) := prs_mem.mpr ⟨by rw [List.getElem?_map, hx]; rfl, fun h => by cases h⟩
  obtain ⟨j, hj⟩ := List.getElem?_of_mem hm
  exact lv_iinc C.1 C.2.1 hd (lh_has.mp hl) hj hv hn rfl (fun ls' hl' => k C H locs ls' hP hS (by rw [← hL]; exact lh.st1 (v := .int v) hno hl'))

theorem cw_if_eq {x : Int32} {off : Int} {tgt : Nat} (hd : decode cc pc = .ok (.ifCond .eq off, 3)) (ht : (pc : Int) + off = (tgt : Int)) (kt : x = 0 → CW E Γ cc nL own d tgt L S μ) (kf : ¬ x = 0 → CW E Γ cc nL own d (pc + 3) L S μ) : CW E Γ cc nL own d pc L (.int x :: S) μ :=
  fun C H locs ls hP hS hl => lv_if_eq C.1 C.2.1 hd ht (fun h => kt h C H locs ls hP hS hl) (fun h => kf h C H locs ls hP hS hl)
theorem cw_icmp_eq {x y : Int32} {off : Int} {tgt : Nat} (hd : decode cc pc = .ok (.if_icmp .eq off, 3)) (ht : (pc : Int) + off = (tgt : Int)) (kt : x = y → CW E Γ cc nL own d tgt L S μ) (kf : ¬ x = y → CW E Γ cc nL own d (pc + 3) L S μ) : CW E Γ cc nL own d pc L (.int y :: .int x :: S) μ :=
  fun C H locs ls hP hS hl => lv_icmp_eq C.1 C.2.1 hd ht (fun h => kt h C H locs ls hP hS hl) (fun h => kf h C H locs ls hP hS hl)
theorem cw_if_ne {x : Int32} {off : Int} {tgt : Nat} (hd : decode cc pc = .ok (.ifCond .ne off, 3)) (ht : (pc : Int) + off = (tgt : Int)) (kt : ¬ x = 0 → CW E Γ cc nL own d tgt L S μ) (kf : x = 0 → CW E Γ cc nL own d (pc + 3) L S μ) : CW E Γ cc nL own d pc L (.int x :: S) μ :=
  fun C H locs ls hP hS hl => lv_if_ne C.1 C.2.1 hd ht (fun h => kt h C H locs ls hP hS hl) (fun h => kf h C H locs ls hP hS hl)
theorem cw_icmp_ne {x y : Int32} {off : Int} {tgt : Nat} (hd : decode cc pc = .ok (.if_icmp .ne off, 3)) (ht : (pc : Int) + off = (tgt : Int)) (kt : ¬ x = y → CW E Γ cc nL own d tgt L S μ) (kf : x = y → CW E Γ cc nL own d (pc + 3) L S μ) : CW E Γ cc nL own d pc L (.int y :: .int x :: S) μ :=
  fun C H locs ls hP hS hl => lv_icmp_ne C.1 C.2.1 hd ht (fun h => kt h C H locs ls hP hS hl) (fun h => kf h C H locs ls hP hS hl)
theorem cw_if_lt {x : Int32} {off : Int} {tgt : Nat} (hd : decode cc pc = .ok (.ifCond .lt off, 3)) (ht : (pc : Int) + off = (tgt : Int)) (kt : x < 0 → CW E Γ cc nL own d tgt L S μ) (kf : ¬ x < 0 → CW E Γ cc nL own d (pc + 3) L S μ) : CW E Γ cc nL own d pc L (.int x :: S) μ :=
  fun C H locs ls hP hS hl => lv_if_lt C.1 C.2.1 hd ht (fun h => kt h C H locs ls hP hS hl) (fun h => kf h C H locs ls hP hS hl)
theorem cw_icmp_lt {x y : Int32} {off : Int} {tgt : Nat} (hd : decode cc pc = .ok (.if_icmp .lt off, 3)) (ht : (pc : Int) + off = (tgt : Int)) (kt : x < y → CW E Γ cc nL own d tgt L S μ) (kf : ¬ x < y → CW E Γ cc nL own d (pc + 3) L S μ) : CW E Γ cc nL own d pc L (.int y :: .int x :: S) μ :=
  fun C H locs ls hP hS hl => lv_icmp_lt C.1 C.2.1 hd ht (fun h => kt h C H locs ls hP hS hl) (fun h => kf h C H locs ls hP hS hl)
theorem cw_if_ge {x : Int32} {off : Int} {tgt : Nat} (hd : decode cc pc = .ok (.ifCond .ge off, 3)) (ht : (pc : Int) + off = (tgt : Int)) (kt : 0 ≤ x → CW E Γ cc nL own d tgt L S μ) (kf : ¬ 0 ≤ x → CW E Γ cc nL own d (pc + 3) L S μ) : CW E Γ cc nL own d pc L (.int x :: S) μ :=
  fun C H locs ls hP hS hl => lv_if_ge C.1 C.2.1 hd ht (fun h => kt h C H locs ls hP hS hl) (fun h => kf h C H locs ls hP hS hl)
theorem cw_icmp_ge {x y : Int32} {off : Int} {tgt : Nat} (hd : decode cc pc = .ok (.if_icmp .ge off, 3)) (ht : (pc : Int) + off = (tgt : Int)) (kt : y ≤ x → CW E Γ cc nL own d tgt L S μ) (kf : ¬ y ≤ x → CW E Γ cc nL own d (pc + 3) L S μ) : CW E Γ cc nL own d pc L (.int y :: .int x :: S) μ :=
  fun C H locs ls hP hS hl => lv_icmp_ge C.1 C.2.1 hd ht (fun h => kt h C H locs ls hP hS hl) (fun h => kf h C H locs ls hP hS hl)
theorem cw_if_gt {x : Int32} {off : Int} {tgt : Nat} (hd : decode cc pc = .ok (.ifCond .gt off, 3)) (ht : (pc : Int) + off = (tgt : Int)) (kt : 0 < x → CW E Γ cc nL own d tgt L S μ) (kf : ¬ 0 < x → CW E Γ cc nL own d (pc + 3) L S μ) : CW E Γ cc nL own d pc L (.int x :: S) μ :=
  fun C H locs ls hP hS hl => lv_if_gt C.1 C.2.1 hd ht (fun h => kt h C H locs ls hP hS hl) (fun h => kf h C H locs ls hP hS hl)
theorem cw_icmp_gt {x y : Int32} {off : Int} {tgt : Nat} (hd : decode cc pc = .ok (.if_icmp .gt off, 3)) (ht : (pc : Int) + off = (tgt : Int)) (kt : y < x → CW E Γ cc nL own d tgt L S μ) (kf : ¬ y < x → CW E Γ cc nL own d (pc + 3) L S μ) : CW E Γ cc nL own d pc L (.int y :: .int x :: S) μ :=
  fun C H locs ls hP hS hl => lv_icmp_gt C.1 C.2.1 hd ht (fun h => kt h C H locs ls hP hS hl) (fun h => kf h C H locs ls hP hS hl)
theorem cw_if_le {x : Int32} {off : Int} {tgt : Nat} (hd : decode cc pc = .ok (.ifCond .le off, 3)) (ht : (pc : Int) + off = (tgt : Int)) (kt : x ≤ 0 → CW E Γ cc nL own d tgt L S μ) (kf : ¬ x ≤ 0 → CW E Γ cc nL own d (pc + 3) L S μ) : CW E Γ cc nL own d pc L (.int x :: S) μ :=
  fun C H locs ls hP hS hl => lv_if_le C.1 C.2.1 hd ht (fun h => kt h C H locs ls hP hS hl) (fun h => kf h C H locs ls hP hS hl)
theorem cw_icmp_le {x y : Int32} {off : Int} {tgt : Nat} (hd : decode cc pc = .ok (.if_icmp .le off, 3)) (ht : (pc : Int) + off = (tgt : Int)) (kt : x ≤ y → CW E Γ cc nL own d tgt L S μ) (kf : ¬ x ≤ y → CW E Γ cc nL own d (pc + 3) L S μ) : CW E Γ cc nL own d pc L (.int y :: .int x :: S) μ :=
  fun C H locs ls hP hS hl => lv_icmp_le C.1 C.2.1 hd ht (fun h => kt h C H locs ls hP hS hl) (fun h => kf h C H locs ls hP hS hl)
theorem cw_goto {off : Int} {tgt : Nat} (hd : decode cc pc = .ok (.goto off, 3)) (ht : (pc : Int) + off = (tgt : Int)) (k : CW E Γ cc nL own d tgt L S μ) : CW E Γ cc nL own d pc L S μ :=
  fun C H locs ls hP hS hl => lv_goto C.1 C.2.1 hd ht (k C H locs ls hP hS hl)
theorem cw_tabOut {dflt lo hi : Int} {offs : Array Int} {len : Nat} {x : Int32} {tgt : Nat} (hd : decode cc pc = .ok (.tableswitch dflt lo hi offs, len)) (h : x.toInt < lo ∨ hi < x.toInt) (ht : (pc : Int) + dflt = (tgt : Int)) (k : CW E Γ cc nL own d tgt L S μ) : CW E Γ cc nL own d pc L (.int x :: S) μ :=
  fun C H locs ls hP hS hl => lv_tableOut C.1 C.2.1 hd h ht (k C H locs ls hP hS hl)
theorem cw_tabIn {dflt lo hi : Int} {offs : Array Int} {len : Nat} {x : Int32} {off : Int} {tgt : Nat} (hd : decode cc pc = .ok (.tableswitch dflt lo hi offs, len)) (h1 : ¬ x.toInt < lo) (h2 : ¬ hi < x.toInt) (ho : offs[(x.toInt - lo).toNat]? = some off) (ht : (pc : Int) + off = (tgt : Int)) (k : CW E Γ cc nL own d tgt L S μ) : CW E Γ cc nL own d pc L (.int x :: S) μ :=
  fun C H locs ls hP hS hl => lv_tableIn C.1 C.2.1 hd h1 h2 ho ht (k C H locs ls hP hS hl)
theorem cw_lookup {dflt : Int} {ps : Array (Int × Int)} {len : Nat} {x : Int32} {off : Int} {tgt : Nat} (hd : decode cc pc = .ok (.lookupswitch dflt ps, len)) (hp : (ps.toList.zip (ps.toList.drop 1)).all (fun (a, next) => a.1 < next.1) = true) (ho : Op.lookupswitch.offset ps.toList dflt x.toInt = off) (ht : (pc : Int) + off = (tgt : Int)) (k : CW E Γ cc nL own d tgt L S μ) : CW E Γ cc nL own d pc L (.int x :: S) μ :=
  fun C H locs ls hP hS hl => lv_lookup C.1 C.2.1 hd hp ho ht (k C H locs ls hP hS hl)
theorem cw_ldc {idx : Nat} {v : Int32} (hd : decode cc pc = .ok (.ldc idx, 2)) (hw : Jvm.Cond.constant own idx v ∈ lw_good) (k : CW E Γ cc nL own d (pc + 2) L (.int v :: S) μ) : CW E Γ cc nL own d pc L S μ :=
  fun C H locs ls hP hS hl => lv_ldc C.1 C.2.1 C.2.2.2.1 (C.2.2.2.2.1 _ hw) hd (k C H locs ls hP hS hl)
theorem cw_ldc2 {idx : Nat} {v : Int64} (hd : decode cc pc = .ok (.ldc2_w idx, 3)) (hw : Jvm.Cond.constantLong own idx v ∈ lw_good) (k : CW E Γ cc nL own d (pc + 3) L (.long v :: S) μ) : CW E Γ cc nL own d pc L S μ :=
  fun C H locs ls hP hS hl => lv_ldc2 C.1 C.2.1 C.2.2.2.1 (C.2.2.2.2.1 _ hw) hd (k C H locs ls hP hS hl)
/-- field i of class ci, by entry idx of own's pool -/
def FOK (own : String) (idx ci i : Nat) : Prop := ∃ (C : String) (T : u_T) (N : Nat), vwCl[ci]? = some (C, T, N) ∧ i < N ∧ (∀ w ∈ u_ws C T N, w ∈ lw_good) ∧ Cond.fieldLink own idx (T i).1 (T i).2.1 (T i).2.2.1 ∈ lw_good
theorem ent_obj {E : Ev} {sh : SH} {f : Nat → Int32} (h : sh.1 < 100) : ent E sh f = .inr (sh.1, flds E sh.2.2 f) := by
  simp [ent, show sh.1 ≠ 100 by omega, show sh.1 ≠ 101 by omega]
theorem cw_getf {q idx ci i n : Nat} {fs : List (Option Nat)} {o : Option Nat} (hd : decode cc pc = .ok (.getfield idx, 3)) (hF : FOK own idx ci i) (hs : shape[q]? = some (ci, n, fs)) (hc : ci < 100) (ho : fs[i]? = some o) (k : CW E Γ cc nL own d (pc + 3) L ((match o with | some t => .ref t | none => .int (μ q i)) :: S) μ) : CW E Γ cc nL own d pc L (.ref q :: S) μ := by
  intro C H locs ls hP hS hl
  obtain ⟨Cn, T, N, h1, h2, h3, h4⟩ := hF
  have hw := ws_get (E := E) (μ := μ) hs
  rw [ent_obj hc] at hw
  have kk := k C H locs ls hP hS hl
  refine va_get C.1 C.2.1 C.2.2.2.2.1 h3 C.2.2.2.1 C.2.2.2.2.2.2.1.1 hP q hw h1 i h2 (C.2.2.2.2.1 _ h4) (fun _ h9 => h9) (flds_get ho) hd ?_
  cases o with
  | none => exact kk
  | some t => exact kk
def FNK (own : String) (idx ci i : Nat) : Prop := ∃ (C : String) (T : u_T) (N : Nat) (host : String), vwCl[ci]? = some (C, T, N) ∧ i < N ∧ (∀ w ∈ u_ws C T N, w ∈ lw_good) ∧ Cond.fieldLinkNest own idx (T i).1 (T i).2.1 (T i).2.2.1 host ∈ lw_tbl
theorem cw_getNR {q idx ci i n t : Nat} {fs : List (Option Nat)} (hd : decode cc pc = .ok (.getfield idx, 3)) (hF : FNK own idx ci i) (hs : shape[q]? = some (ci, n, fs)) (hc : ci < 100) (ho : fs[i]? = some (some t)) (k : CW E Γ cc nL own d (pc + 3) L (.ref t :: S) μ) : CW E Γ cc nL own d pc L (.ref q :: S) μ := by
  intro C H locs ls hP hS hl
  obtain ⟨Cn, T, N, host, h1, h2, h3, h4⟩ := hF
  have hw := ws_get (E := E) (μ := μ) hs
  rw [ent_obj hc] at hw
  exact va_getN C.1 C.2.1 C.2.2.2.2.1 h3 C.2.2.2.1 C.2.2.2.2.2.2.1.1 hP q hw h1 i h2 (va_Nw.use rfl (C.2.2.2.2.2.2.1.2.1.2 _ _ _ _ _ _ h4)) (fun _ h9 => h9) (flds_get ho) hd (k C H locs ls hP hS hl)
theorem cw_getI {q idx ci i n : Nat} {fs : List (Option Nat)} (hd : decode cc pc = .ok (.getfield idx, 3)) (hF : FOK own idx ci i) (hs : shape[q]? = some (ci, n, fs)) (hc : ci < 100) (ho : fs[i]? = some none) (k : CW E Γ cc nL own d (pc + 3) L (.int (μ q i) :: S) μ) : CW E Γ cc nL own d pc L (.ref q :: S) μ := cw_getf hd hF hs hc ho k
theorem cw_getR {q idx ci i n t : Nat} {fs : List (Option Nat)} (hd : decode cc pc = .ok (.getfield idx, 3)) (hF : FOK own idx ci i) (hs : shape[q]? = some (ci, n, fs)) (hc : ci < 100) (ho : fs[i]? = some (some t)) (k : CW E Γ cc nL own d (pc + 3) L (.ref t :: S) μ) : CW E Γ cc nL own d pc L (.ref q :: S) μ := cw_getf hd hF hs hc ho k
def POK (own : String) (idx ci i : Nat) (ty : FieldType) : Prop := ∃ (C : String) (T : u_T) (N : Nat) (ty0 : Nat → FieldType), vwCl[ci]? = some (C, T, N) ∧ i < N ∧ (∀ w ∈ u_ws C T N, w ∈ lw_good) ∧ (∀ k, k < N → parseFieldDescriptor (T k).2.2.1 = some (ty0 k)) ∧ (∀ a, a < N → ∀ b, b < N → a ≠ b → (T a).2.1 ≠ (T b).2.1) ∧ Cond.fieldLink own idx (T i).1 (T i).2.1 (T i).2.2.1 ∈ lw_good ∧ (T i).2.2.2 = false ∧ parseFieldDescriptor (T i).2.2.1 = some ty
theorem cw_putf {q idx ci i n : Nat} {fs : List (Option Nat)} {ty : FieldType} {v : Int32} (hd : decode cc pc = .ok (.putfield idx, 3)) (hF : POK own idx ci i ty) (hs : shape[q]? = some (ci, n, fs)) (hc : ci < 100) (ho : fs[i]? = some none) (hn : narrow ty (.int v) = .int v) (hfit : fits ty (.int v) = true) (k : CW E Γ cc nL own d (pc + 3) L S (st μ q i v)) : CW E Γ cc nL own d pc L (.int v :: .ref q :: S) μ := by
  intro C H locs ls hP hS hl
  obtain ⟨Cn, T, N, ty0, h1, h2, h3, h4, h5, h6, h7, h8⟩ := hF
  have hw := ws_get (E := E) (μ := μ) hs
  rw [ent_obj hc] at hw
  refine va_put (v := .int v) C.1 C.2.1 C.2.2.2.2.1 h3 ty0 h4 h5 C.2.2.2.1 C.2.2.2.2.2.2.1.1 hP (ws_D C.2.2.2.2.2.2.2.1 C.2.2.2.2.2.2.2.2) hS q hw h1 i h2 (C.2.2.2.2.1 _ h6) (fun _ h9 => h9) h7 h8 hn hfit (by have := flds_get (E := E) (f := μ q) ho; exact (List.getElem?_eq_some_iff.mp this).1) hd (fun H1 locs1 hP1 hD1 hS1 => ?_)
  rw [flds_set ho] at hP1
  have e : (Sum.inr (ci, flds E fs (upd (μ q) i v)) : va_E) = ent E (ci, n, fs) (upd (μ q) i v) := (ent_obj (sh := (ci, n, fs)) hc).symm
  rw [e, ws_set hs] at hP1
  exact k C H1 locs1 ls hP1 hS1 hl
theorem cw_putI {q idx ci i n : Nat} {fs : List (Option Nat)} {v : Int32} (hd : decode cc pc = .ok (.putfield idx, 3)) (hF : POK own idx ci i .int) (hs : shape[q]? = some (ci, n, fs)) (hc : ci < 100) (ho : fs[i]? = some none) (k : CW E Γ cc nL own d (pc + 3) L S (st μ q i v)) : CW E Γ cc nL own d pc L (.int v :: .ref q :: S) μ := cw_putf hd hF hs hc ho rfl rfl k
theorem cw_iald {q n : Nat} {x : List (Option Nat)} {j : Int32} (hd : decode cc pc = .ok (.iaload, 1)) (hs : shape[q]? = some (100, n, x)) (hj : vp_in j n) (k : CW E Γ cc nL own d (pc + 1) L (.int (μ q j.toNatClampNeg) :: S) μ) : CW E Γ cc nL own d pc L (.int j :: .ref q :: S) μ :=
  fun C H locs ls hP hS hl => va_iald C.1 C.2.1 C.2.2.2.2.2.2.1.1 hP q 0 (ws_get hs) rfl hj hd (k C H locs ls hP hS hl)
theorem cw_bald {q n : Nat} {x : List (Option Nat)} {j : Int32} (hd : decode cc pc = .ok (.baload, 1)) (hs : shape[q]? = some (101, n, x)) (hj : vp_in j n) (k : CW E Γ cc nL own d (pc + 1) L (.int (μ q j.toNatClampNeg) :: S) μ) : CW E Γ cc nL own d pc L (.int j :: .ref q :: S) μ :=
  fun C H locs ls hP hS hl => va_zald C.1 C.2.1 C.2.2.2.2.2.2.1.1 hP q 1 (ws_get hs) rfl hj hd (k C H locs ls hP hS hl)
theorem cw_iast {q n : Nat} {x : List (Option Nat)} {j v : Int32} (hd : decode cc pc = .ok (.iastore, 1)) (hs : shape[q]? = some (100, n, x)) (hj : vp_in j n) (k : CW E Γ cc nL own d (pc + 1) L S (st μ q j.toNatClampNeg v)) : CW E Γ cc nL own d pc L (.int v :: .int j :: .ref q :: S) μ :=
  fun C H locs ls hP hS hl => va_iast C.1 C.2.1 C.2.2.2.2.2.2.1.1 hP (ws_D C.2.2.2.2.2.2.2.1 C.2.2.2.2.2.2.2.2) hS q 0 (ws_get hs) rfl hj hd (fun H1 locs1 hP1 hD1 hS1 => k C H1 locs1 ls (by rw [← ws_set hs]; exact hP1) hS1 hl)
theorem cw_bast {q n : Nat} {x : List (Option Nat)} {j v : Int32} (hd : decode cc pc = .ok (.bastore, 1)) (hs : shape[q]? = some (101, n, x)) (hj : vp_in j n) (k : CW E Γ cc nL own d (pc + 1) L S (st μ q j.toNatClampNeg (vp_nar .boolean v))) : CW E Γ cc nL own d pc L (.int v :: .int j :: .ref q :: S) μ :=
  fun C H locs ls hP hS hl => va_zast C.1 C.2.1 C.2.2.2.2.2.2.1.1 hP (ws_D C.2.2.2.2.2.2.2.1 C.2.2.2.2.2.2.2.2) hS q 1 (ws_get hs) rfl hj hd (fun H1 locs1 hP1 hD1 hS1 => k C H1 locs1 ls (by rw [← ws_set hs]; exact hP1) hS1 hl)
theorem cw_alen {q n : Nat} {x : List (Option Nat)} {v : Int32} (hd : decode cc pc = .ok (.arraylength, 1)) (hs : shape[q]? = some (100, n, x)) (hv : Int32.ofNat n = v) (k : CW E Γ cc nL own d (pc + 1) L (.int v :: S) μ) : CW E Γ cc nL own d pc L (.ref q :: S) μ :=
  fun C H locs ls hP hS hl => va_alen C.1 C.2.1 C.2.2.2.2.2.2.1.1 hP q 0 (ws_get hs) rfl hv hd (k C H locs ls hP hS hl)
/-! statics, String constants -/
theorem c_sta (C : OKc E Γ cc nL own d) : STa E (g_A Γ) (g_s Γ) (g_s Γ).heap := C.2.2.2.2.2.2.1.2.2
theorem cw_above {idx : Nat} (hd : decode cc pc = .ok (.getstatic idx, 3)) (hw : Cond.fieldLink own idx RX8 "ABOVE" "[I" ∈ lw_good) (k : CW E Γ cc nL own d (pc + 3) L (.ref 77 :: S) μ) : CW E Γ cc nL own d pc L S μ :=
  fun C H locs ls hP hS hl => va_gets C.1 C.2.1 (c_sta C).1 hS C.2.2.2.1 (C.2.2.2.2.1 _ hw) (fun _ h => h) hd (k C H locs ls hP hS hl)
theorem cw_aboveN {idx : Nat} {host : String} (hd : decode cc pc = .ok (.getstatic idx, 3)) (hw : Cond.fieldLinkNest own idx RX8 "ABOVE" "[I" host ∈ lw_tbl) (k : CW E Γ cc nL own d (pc + 3) L (.ref 77 :: S) μ) : CW E Γ cc nL own d pc L S μ :=
  fun C H locs ls hP hS hl => va_getsN C.1 C.2.1 (c_sta C).1 hS C.2.2.2.1 (va_Nw.use rfl (C.2.2.2.2.2.2.1.2.1.2 _ _ _ _ _ _ hw)) (fun _ h => h) hd (k C H locs ls hP hS hl)
theorem cw_bodies {idx : Nat} (hd : decode cc pc = .ok (.getstatic idx, 3)) (hw : Cond.fieldLink own idx RX1 "BODIES" "[I" ∈ lw_good) (k : CW E Γ cc nL own d (pc + 3) L (.ref 78 :: S) μ) : CW E Γ cc nL own d pc L S μ :=
  fun C H locs ls hP hS hl => va_gets C.1 C.2.1 (c_sta C).2.2.1 hS C.2.2.2.1 (C.2.2.2.2.1 _ hw) (fun _ h => h) hd (k C H locs ls hP hS hl)
theorem cw_compact {idx : Nat} (hd : decode cc pc = .ok (.getstatic idx, 3)) (hw : Cond.fieldLink own idx "java/lang/String" "COMPACT_STRINGS" "Z" ∈ lw_good) (k : CW E Γ cc nL own d (pc + 3) L (.int 1 :: S) μ) : CW E Γ cc nL own d pc L S μ :=
  fun C H locs ls hP hS hl => va_gets C.1 C.2.1 (c_sta C).2.2.2.2.1 hS C.2.2.2.1 (C.2.2.2.2.1 _ hw) (fun _ h => h) hd (k C H locs ls hP hS hl)
theorem cw_sioobe {idx : Nat} (hd : decode cc pc = .ok (.getstatic idx, 3)) (hw : Cond.fieldLink own idx "jdk/internal/util/Preconditions" "SIOOBE_FORMATTER" "Ljava/util/function/BiFunction;" ∈ lw_good) (k : ∀ v : Value, v = .null ∨ v = .ref 79 → CW E Γ cc nL own d (pc + 3) L (v :: S) μ) : CW E Γ cc nL own d pc L S μ := by
  intro C H locs ls hP hS hl
  rcases (c_sta C).2.2.2.2.2.1 with h | h
  · exact va_gets C.1 C.2.1 h hS C.2.2.2.1 (C.2.2.2.2.1 _ hw) (fun _ h => h) hd (k _ (Or.inl rfl) C H locs ls hP hS hl)
  · exact va_gets C.1 C.2.1 h hS C.2.2.2.1 (C.2.2.2.2.1 _ hw) (fun _ h => h) hd (k _ (Or.inr rfl) C H locs ls hP hS hl)
theorem cw_tabA {j : Int32} (hd : decode cc pc = .ok (.iaload, 1)) (hj : vp_in j 7) (k : CW E Γ cc nL own d (pc + 1) L (.int (tabA j.toNatClampNeg) :: S) μ) : CW E Γ cc nL own d pc L (.int j :: .ref 77 :: S) μ :=
  fun C H locs ls hP hS hl => va_ti C.1 C.2.1 (c_sta C).2.1 hS hj rfl hd (k C H locs ls hP hS hl)
theorem cw_tabB {j : Int32} (hd : decode cc pc = .ok (.iaload, 1)) (hj : vp_in j 21) (k : CW E Γ cc nL own d (pc + 1) L (.int (tabB j.toNatClampNeg) :: S) μ) : CW E Γ cc nL own d pc L (.int j :: .ref 78 :: S) μ :=
  fun C H locs ls hP hS hl => va_ti C.1 C.2.1 (c_sta C).2.2.2.1 hS hj rfl hd (k C H locs ls hP hS hl)
theorem c_str (C : OKc E Γ cc nL own d) : vk_S 8 lenS bytS (fun i => e_ad E (80 + i)) (fun i => e_ad E (90 + i)) (g_A Γ) (g_s Γ) (g_s Γ).heap := C.2.2.2.2.2.2.1.2.2.2.2.2.2.2.2.1
theorem cw_ldcS {idx i : Nat} {tx : String} (hd : decode cc pc = .ok (.ldc idx, 2)) (hw : (own, idx, tx, i) ∈ refS) (k : CW E Γ cc nL own d (pc + 2) L (.ref (80 + i) :: S) μ) : CW E Γ cc nL own d pc L S μ :=
  fun C H locs ls hP hS hl => va_ldcS C.1 C.2.1 C.2.2.2.1 (C.2.2.2.2.2.2.1.2.2.2.2.2.2.2.2.2 _ hw) hd (k C H locs ls hP hS hl)
theorem cw_strVal {idx i : Nat} (hi : i < 8) (hd : decode cc pc = .ok (.getfield idx, 3)) (hw : Cond.fieldLink own idx "java/lang/String" "value" "[B" ∈ lw_good) (k : CW E Γ cc nL own d (pc + 3) L (.ref (90 + i) :: S) μ) : CW E Γ cc nL own d pc L (.ref (80 + i) :: S) μ :=
  fun C H locs ls hP hS hl => vk_getf C.1 C.2.1 ((c_str C).1 i hi).2.2.1 hS C.2.2.2.1 (C.2.2.2.2.1 _ hw) (fun _ h => h) hd (k C H locs ls hP hS hl)
theorem cw_strCod {idx i : Nat} (hi : i < 8) (hd : decode cc pc = .ok (.getfield idx, 3)) (hw : Cond.fieldLink own idx "java/lang/String" "coder" "B" ∈ lw_good) (k : CW E Γ cc nL own d (pc + 3) L (.int 0 :: S) μ) : CW E Γ cc nL own d pc L (.ref (80 + i) :: S) μ :=
  fun C H locs ls hP hS hl => vk_getf C.1 C.2.1 ((c_str C).1 i hi).2.1 hS C.2.2.2.1 (C.2.2.2.2.1 _ hw) (fun _ h => h) hd (k C H locs ls hP hS hl)
theorem cw_strLen {i : Nat} (hi : i < 8) (hd : decode cc pc = .ok (.arraylength, 1)) (k : CW E Γ cc nL own d (pc + 1) L (.int (nI (lenS.getD i 0)) :: S) μ) : CW E Γ cc nL own d pc L (.ref (90 + i) :: S) μ :=
  fun C H locs ls hP hS hl => va_tlen C.1 C.2.1 ((c_str C).1 i hi).2.2.2 hS rfl hd (k C H locs ls hP hS hl)
theorem cw_strByt {i : Nat} {j : Int32} (hi : i < 8) (hj : vp_in j (lenS.getD i 0)) (hd : decode cc pc = .ok (.baload, 1)) (k : CW E Γ cc nL own d (pc + 1) L (.int ((bytS.getD i []).getD j.toNatClampNeg 0) :: S) μ) : CW E Γ cc nL own d pc L (.int j :: .ref (90 + i) :: S) μ :=
  fun C H locs ls hP hS hl => va_tb C.1 C.2.1 ((c_str C).1 i hi).2.2.2 hS hj rfl hd (k C H locs ls hP hS hl)
/-! ends -/
theorem qc_end {C : OKc E Γ cc nL own d} {r : Option Value} {H : Heap} {locs : List Loc} (hA : g_A Γ = AE E) (hq : Q r μ) (hP : va_P (e_D E) vwCl (wsOf E μ) H) (hS : va_S (g_A Γ) (g_s Γ).heap H locs) (t : State) (ht : t.heap = H) : QcOf E Q (g_args Γ) (g_s Γ) (.returned (r.map (cv E))) t :=
  ⟨⟨r, μ, rfl, hq, by rw [ht]; exact hP⟩, by rw [hA] at hS; exact hS.F ht⟩
theorem cw_iret {v : Int32} (hd : decode cc pc = .ok (.ireturn, 1)) (hR : RT E Γ (some .int) Q) (hq : Q (some (.int v)) μ) : CW E Γ cc nL own d pc L [.int v] μ := by
  intro C H locs ls hP hS hl
  rw [hR.2.2.2.2.2, hR.2.2.2.1, hR.2.2.2.2.1]
  exact W.iret (v := v) C.1 C.2.1 hR.1 (fun t ht _ => qc_end (C := C) (r := some (.int v)) hR.2.2.1 hq hP hS t ht) (by have := hS.2.2; rw [hR.2.2.1] at this; exact this) hd hR.2.1
theorem cw_zret {v : Int32} {ty : FieldType} (hd : decode cc pc = .ok (.ireturn, 1)) (hR : RT E Γ (some ty) Q) (hn : narrow ty (.int v) = .int v) (hq : Q (some (.int v)) μ) : CW E Γ cc nL own d pc L [.int v] μ := by
  intro C H locs ls hP hS hl
  rw [hR.2.2.2.2.2, hR.2.2.2.1, hR.2.2.2.2.1]
  exact W.zret (v := v) C.1 C.2.1 hR.1 hn (fun t ht _ => qc_end (C := C) (r := some (.int v)) hR.2.2.1 hq hP hS t ht) (by have := hS.2.2; rw [hR.2.2.1] at this; exact this) hd hR.2.1
theorem cw_lret {v : Int64} (hd : decode cc pc = .ok (.lreturn, 1)) (hR : RT E Γ (some .long) Q) (hq : Q (some (.long v)) μ) : CW E Γ cc nL own d pc L [.long v] μ := by
  intro C H locs ls hP hS hl
  rw [hR.2.2.2.2.2, hR.2.2.2.1, hR.2.2.2.2.1]
  exact W.lret (v := v) C.1 C.2.1 hR.1 (fun t ht _ => qc_end (C := C) (r := some (.long v)) hR.2.2.1 hq hP hS t ht) (by have := hS.2.2; rw [hR.2.2.1] at this; exact this) hd hR.2.1
theorem cw_vret (hd : decode cc pc = .ok (.return_, 1)) (hR : RT E Γ none Q) (hq : Q none μ) : CW E Γ cc nL own d pc L [] μ := by
  intro C H locs ls hP hS hl
  rw [hR.2.2.2.2.2, hR.2.2.2.1, hR.2.2.2.2.1]
  exact W.vret C.1 C.2.1 hR.1 (fun t ht _ => qc_end (C := C) (r := none) hR.2.2.1 hq hP hS t ht) (by have := hS.2.2; rw [hR.2.2.1] at this; exact this) hd hR.2.1
/-! calls -/
theorem pc_blind {vs : List Value} : FrameBlind (PcOf E vs μ) := by
  intro a U g mk q
  obtain ⟨h1, h2, h3, h4⟩ := q
  exact ⟨h1, KX.same (s := U) (U := U.calling g mk a) rfl h2, h3, h4⟩
theorem pc_pre (C : OKc E Γ cc nL own d) {vs : List Value} {H : Heap} {locs : List Loc} (hP : va_P (e_D E) vwCl (wsOf E μ) H) (hS : va_S (g_A Γ) (g_s Γ).heap H locs) (U : State) (hU : U.heap = H) (hW : (g_s Γ).WarmedH U.vm) : PcOf E vs μ (vs.map (cv E)).toArray U := by
  have hK : KX E (g_A Γ) (g_s Γ) H := C.2.2.2.2.2.2.1.kept (fun a h1 h2 => hS.2.1 a h1 h2)
  refine ⟨rfl, ?_, by rw [hU]; exact hP, C.2.2.2.2.2.2.2.1⟩
  rw [hU]
  exact (hK.moved hW).narrow (fun q ⟨k, hk, e⟩ => by rw [e]; exact C.2.2.2.2.2.2.2.2 k hk)
theorem cw_behind {a : Array Value} {ls : Array Slot} {st0 : List Value} {H : Heap} {locs : List Loc} (C : OKc E Γ cc nL own d)
    (hr : va_Run (g_p Γ) (e_l E) (g_e Γ) (g_R Γ) (g_s Γ) (g_m Γ) (g_args Γ) (g_below Γ) (g_meth Γ) (g_c Γ) H locs (g_cells Γ) (g_slots Γ) 0 0 (F0 (g_m Γ) pc ls st0) (S.map (cv E)) (QcOf E (fun r μ' => CW E Γ cc nL own d (pc + 3) L (r.toList ++ S) μ') a) (AE E))
    (hS : va_S (g_A Γ) (g_s Γ).heap H locs) (hl : lh ls nL (L.map (cv E))) : W (g_p Γ) (e_l E) (g_e Γ) (g_R Γ) (g_s Γ) (g_m Γ) (g_args Γ) (g_below Γ) (g_meth Γ) (g_c Γ) H locs (g_cells Γ) (g_slots Γ) (g_Z Γ) (F0 (g_m Γ) pc ls st0) := by
  intro T hT X
  obtain ⟨v, st₀, t, T', Lc, h0, X', hLc, e1, e2, ⟨⟨r, μ', hv, hp, hb⟩, hz, hk⟩, sg⟩ := hr T hT X
  cases hv
  rw [h0] at hz hk
  have hA : ∀ q, AE E q → g_A Γ q := fun q ⟨k, hk, e⟩ => by rw [e]; exact C.2.2.2.2.2.2.2.2 k hk
  have hS1 : va_S (g_A Γ) (g_s Γ).heap T'.heap (locs ++ Lc) := ⟨Nat.le_trans hS.1 (by rw [e1]; exact hz), fun q h1 h2 => by rw [e1, hk q (Nat.lt_of_lt_of_le h1 hS.1) (fun z => h2 (hA q z))]; exact hS.2.1 q h1 h2, fun q hq => by
      rcases List.mem_append.mp hq with h | h
      · exact hS.2.2 q h
      · exact hA _ (hLc q h)⟩
  obtain ⟨t2, a1, b1⟩ := hp C T'.heap (locs ++ Lc) ls (by rw [e1]; exact hb) hS1 hl T' rfl X'
  refine ⟨t2, sg t2 ?_, b1⟩
  cases r <;> exact a1
/-- a method's own words -/
def MOK (y : MethodName) (cc' : ByteArray) (nL' : Nat) (ret' : Option FieldType) (n : Nat) : Prop := (Cond.initialized y.cls ∈ lw_good ∧ Cond.code y cc' nL' ret' ∈ lw_good) ∧ y.cls ≠ "java/lang/invoke/MethodHandle" ∧ y.cls ≠ "java/lang/invoke/VarHandle" ∧ (parseMethodDescriptor y.desc).map (fun d => d.parameters.length) = some n ∧ nL' ≤ 30
def VOK (own : String) (idx : Nat) (C : String) (y : MethodName) (cc' : ByteArray) (nL' : Nat) (ret' : Option FieldType) (n : Nat) : Prop :=
  (Cond.methodLink own idx y ∈ lw_good ∧ Cond.instanceMethod y ∈ lw_good ∧ Cond.selects C y y ∈ lw_good ∧ Cond.initialized C ∈ lw_good ∧ Cond.code y cc' nL' ret' ∈ lw_good) ∧ y.cls = C ∧ y.cls ≠ "java/lang/invoke/MethodHandle" ∧ y.cls ≠ "java/lang/invoke/VarHandle" ∧ (parseMethodDescriptor y.desc).map (fun d => d.parameters.length) = some n ∧ nL' ≤ 30
theorem vok {own : String} {idx : Nat} {C : String} {y : MethodName} {cc' : ByteArray} {nL' : Nat} {ret' : Option FieldType} {n : Nat} (h1 : Cond.methodLink own idx y ∈ lw_good) (h2 : Cond.instanceMethod y ∈ lw_good ∧ Cond.selects y.cls y y ∈ lw_good) (hM : MOK y cc' nL' ret' n) (hC : y.cls = C) : VOK own idx C y cc' nL' ret' n := by
  subst hC
  exact ⟨⟨h1, h2.1, h2.2, hM.1.1, hM.1.2⟩, rfl, hM.2⟩
theorem gi_good {w : Cond} {l : List Cond} (h : w ∈ lw_good) (hl : GoodIn lw_good l) : GoodIn lw_good (w :: l) := by
  intro z hz
  rcases List.mem_cons.mp hz with rfl | hz
  · exact ⟨h, good_of_word (good_in h).2⟩
  · exact hl z hz
theorem gi_all : GoodIn lw_good lw_good := fun w h => ⟨h, good_of_word (good_in h).2⟩
theorem S_cat {S : List Value} (h : (S.map Value.category).sum ≤ 8) : ((S.map (cv E)).map fun v => v.category).sum ≤ 8 := by
  rw [List.map_map]
  have : ((fun v : Value => v.category) ∘ cv E) = Value.category := by funext v; exact cv_cat E v
  rw [this]; exact h
theorem cw_inv {y : MethodName} {cc' : ByteArray} {nL' n ci idx q dd m' : Nat} {ret' : Option FieldType} {fs : List (Option Nat)} {As rest st0 : List Value} {rq : vw_C} (hd : decode cc pc = .ok (.invokevirtual idx, 3)) (hq : vwCl[ci]? = some rq) (hV : VOK own idx rq.1 y cc' nL' ret' n) (hs : shape[q]? = some (ci, m', fs)) (hc : ci < 100) (hn : As.length = n) (hst : st0 = As.reverse ++ .ref q :: S) (hcat : (S.map Value.category).sum ≤ 8) (hdd : dd < d)
    (k : AM E y cc' nL' ret' dd (.ref q :: As) μ (fun r μ' => CW E Γ cc nL own d (pc + 3) L (r.toList ++ S) μ')) : CW E Γ cc nL own d pc L st0 μ := by
  intro C H locs ls hP hS hl
  obtain ⟨⟨v1, v2, v3, v4, v5⟩, v6, v7, v8, v9, v10⟩ := hV
  have hw := ws_get (E := E) (μ := μ) hs
  rw [ent_obj hc] at hw
  have hcw : CallW (g_R Γ) (g_s Γ) (g_args Γ) own rq.1 idx y cc' nL' ret' (.code y cc' nL' ret' :: lw_good) (rmOf dd) 0 0 n :=
    cwV (Ts := lw_good) n C.2.2.2.2.1 (gi_good v1 (gi_good v2 (gi_good v3 (gi_good v4 (gi_good v5 gi_all))))) rfl rfl rfl ⟨v6, v7, v8, v9⟩ (by
      obtain ⟨f1, f2, -, -⟩ := C.2.2.2.2.2.1
      show dd + 1 ≤ _ ∧ 8 + (nL' + 11) + 64 * dd ≤ _
      omega)
  refine cw_behind C (va_runV (As := As.map (cv E)) (rest := S.map (cv E)) ⟨C.1, C.2.1, C.2.2.1, C.2.2.2.1, C.2.2.2.2.1⟩ k hcw ⟨pc_blind, va_recv C.2.2.2.2.2.2.1.1 hP hq hw, fun U hU hW => by have := pc_pre (vs := .ref q :: As) C hP hS U hU hW; exact this⟩ rfl (by rw [List.length_map]; exact hn) hl.1 ?_ (lv_room (S_cat hcat)) hd ?_) hS hl
  · show st0.map (cv E) = _
    rw [hst, List.map_append, List.map_cons, List.map_reverse]; rfl
  · obtain ⟨-, -, f3, f4⟩ := C.2.2.2.2.2.1
    exact ⟨f3, f4⟩
theorem cw_invS {y : MethodName} {cc' : ByteArray} {nL' n idx i dd : Nat} {ret' : Option FieldType} {As st0 : List Value} (hi : i < 8) (hd : decode cc pc = .ok (.invokevirtual idx, 3)) (hV : VOK own idx "java/lang/String" y cc' nL' ret' n) (hn : As.length = n) (hst : st0 = As.reverse ++ .ref (80 + i) :: S) (hcat : (S.map Value.category).sum ≤ 8) (hdd : dd < d)
    (k : AM E y cc' nL' ret' dd (.ref (80 + i) :: As) μ (fun r μ' => CW E Γ cc nL own d (pc + 3) L (r.toList ++ S) μ')) : CW E Γ cc nL own d pc L st0 μ := by
  intro C H locs ls hP hS hl
  obtain ⟨⟨v1, v2, v3, v4, v5⟩, v6, v7, v8, v9, v10⟩ := hV
  have hcw : CallW (g_R Γ) (g_s Γ) (g_args Γ) own "java/lang/String" idx y cc' nL' ret' (.code y cc' nL' ret' :: lw_good) (rmOf dd) 0 0 n :=
    cwV (Ts := lw_good) n C.2.2.2.2.1 (gi_good v1 (gi_good v2 (gi_good v3 (gi_good v4 (gi_good v5 gi_all))))) rfl rfl rfl ⟨v6, v7, v8, v9⟩ (by
      obtain ⟨f1, f2, -, -⟩ := C.2.2.2.2.2.1
      show dd + 1 ≤ _ ∧ 8 + (nL' + 11) + 64 * dd ≤ _
      omega)
  refine cw_behind C (va_runV (As := As.map (cv E)) (rest := S.map (cv E)) ⟨C.1, C.2.1, C.2.2.1, C.2.2.2.1, C.2.2.2.2.1⟩ k hcw ⟨pc_blind, vk_recv (c_str C) hi hS, fun U hU hW => by have := pc_pre (vs := .ref (80 + i) :: As) C hP hS U hU hW; exact this⟩ rfl (by rw [List.length_map]; exact hn) hl.1 ?_ (lv_room (S_cat hcat)) hd ?_) hS hl
  · show st0.map (cv E) = _
    rw [hst, List.map_append, List.map_cons, List.map_reverse]; rfl
  · obtain ⟨-, -, f3, f4⟩ := C.2.2.2.2.2.1
    exact ⟨f3, f4⟩
/-- System.arraycopy of ints -/
def AOK (own : String) (idx : Nat) : Prop := Cond.methodLink own idx arraycopyName ∈ lw_good ∧ Cond.native arraycopyName ∈ lw_good ∧ Cond.static arraycopyName ∈ lw_good ∧ Cond.initialized "java/lang/System" ∈ lw_good
theorem cw_acopy {idx q0 q1 n0 n1 : Nat} {x0 x1 : List (Option Nat)} {sp dp n : Int32} (hd : decode cc pc = .ok (.invokestatic idx, 3)) (hV : AOK own idx) (hs0 : shape[q0]? = some (100, n0, x0)) (hs1 : shape[q1]? = some (100, n1, x1)) (hcat : (S.map Value.category).sum ≤ 8) (hdd : 0 < d)
    (h1 : ¬ sp < 0) (h2 : ¬ dp < 0) (h3 : ¬ n < 0) (h4 : sp.toNatClampNeg + n.toNatClampNeg ≤ n0) (h5 : dp.toNatClampNeg + n.toNatClampNeg ≤ n1)
    (k : CW E Γ cc nL own d (pc + 3) L S (str μ q1 (va_cpy (μ q0) (μ q1) sp.toNatClampNeg dp.toNatClampNeg n.toNatClampNeg))) : CW E Γ cc nL own d pc L (.int n :: .int dp :: .ref q1 :: .int sp :: .ref q0 :: S) μ := by
  intro C H locs ls hP hS hl
  obtain ⟨f1, f2, f3, f4⟩ := C.2.2.2.2.2.1
  have hz := S_cat (E := E) hcat
  have hw : nativeFrameWords "java/lang/System" "arraycopy" 5 + 11 ≤ 56 := by decide +kernel
  exact va_copyi C.1 C.2.1 (C.2.2.1.trans hl.1.symm) C.2.2.2.1 (C.2.2.2.2.1 _ hV.1) (C.2.2.2.2.1 _ hV.2.1) (C.2.2.2.2.1 _ hV.2.2.1) (C.2.2.2.2.1 _ hV.2.2.2) C.2.2.2.2.2.2.1.1 hP (ws_D C.2.2.2.2.2.2.2.1 C.2.2.2.2.2.2.2.2) hS q0 q1 0 0 (ty := .int) (ws_get hs0) (ws_get hs1) rfl rfl rfl h1 h2 h3 h4 h5 (fun _ _ => rfl) (by omega) (by omega) hd
    (fun H1 locs1 hP1 hD1 hS1 => k C H1 locs1 ls (by rw [← ws_setr hs1]; exact hP1) hS1 hl)
def SOK (own : String) (idx : Nat) (y : MethodName) (cc' : ByteArray) (nL' : Nat) (ret' : Option FieldType) (n : Nat) : Prop :=
  (Cond.methodLink own idx y ∈ lw_good ∧ Cond.static y ∈ lw_good ∧ Cond.initialized y.cls ∈ lw_good ∧ Cond.code y cc' nL' ret' ∈ lw_good) ∧ y.cls ≠ "java/lang/invoke/MethodHandle" ∧ y.cls ≠ "java/lang/invoke/VarHandle" ∧ (parseMethodDescriptor y.desc).map (fun d => d.parameters.length) = some n ∧ nL' ≤ 30
theorem cw_ins {y : MethodName} {cc' : ByteArray} {nL' n idx dd : Nat} {ret' : Option FieldType} {As st0 : List Value} (hd : decode cc pc = .ok (.invokestatic idx, 3)) (hV : SOK own idx y cc' nL' ret' n) (hn : As.length = n) (hst : st0 = As.reverse ++ S) (hcat : (S.map Value.category).sum ≤ 8) (hdd : dd < d)
    (k : AM E y cc' nL' ret' dd As μ (fun r μ' => CW E Γ cc nL own d (pc + 3) L (r.toList ++ S) μ')) : CW E Γ cc nL own d pc L st0 μ := by
  intro C H locs ls hP hS hl
  obtain ⟨⟨v1, v2, v4, v5⟩, v7, v8, v9, v10⟩ := hV
  have hcw : CallB (g_R Γ) (g_s Γ) (g_args Γ) own idx y cc' nL' ret' (.code y cc' nL' ret' :: lw_good) (rmOf dd) 0 0 n ∧ (Cond.static y).before (g_args Γ) (g_s Γ) = true :=
    va_cwS (Ts := lw_good) n C.2.2.2.2.1 (gi_good v1 (gi_good v2 (gi_good v4 (gi_good v5 gi_all)))) rfl rfl rfl ⟨v7, v8, v9⟩ (by
      obtain ⟨f1, f2, -, -⟩ := C.2.2.2.2.2.1
      show dd + 1 ≤ _ ∧ 8 + (nL' + 11) + 64 * dd ≤ _
      omega)
  refine cw_behind C (va_runS (As := As.map (cv E)) (rest := S.map (cv E)) ⟨C.1, C.2.1, C.2.2.1, C.2.2.2.1, C.2.2.2.2.1⟩ k hcw ⟨pc_blind, fun U hU hW => by have := pc_pre (vs := As) C hP hS U hU hW; exact this⟩ rfl (by rw [List.length_map]; exact hn) hl.1 ?_ (lv_room (S_cat hcat)) hd ?_) hS hl
  · show st0.map (cv E) = _
    rw [hst, List.map_append, List.map_reverse]
  · obtain ⟨-, -, f3, f4⟩ := C.2.2.2.2.2.1
    exact ⟨f3, f4⟩
def NOK (own : String) (idx : Nat) (y : MethodName) (host : String) (cc' : ByteArray) (nL' : Nat) (ret' : Option FieldType) (n : Nat) : Prop :=
  (Cond.methodLinkNest own idx y host ∈ lw_tbl ∧ Cond.static y ∈ lw_good ∧ Cond.initialized y.cls ∈ lw_good ∧ Cond.code y cc' nL' ret' ∈ lw_good) ∧ y.cls ≠ "java/lang/invoke/MethodHandle" ∧ y.cls ≠ "java/lang/invoke/VarHandle" ∧ (parseMethodDescriptor y.desc).map (fun d => d.parameters.length) = some n ∧ nL' ≤ 30
theorem cw_insN {y : MethodName} {host : String} {cc' : ByteArray} {nL' n idx dd : Nat} {ret' : Option FieldType} {As st0 : List Value} (hd : decode cc pc = .ok (.invokestatic idx, 3)) (hV : NOK own idx y host cc' nL' ret' n) (hn : As.length = n) (hst : st0 = As.reverse ++ S) (hcat : (S.map Value.category).sum ≤ 8) (hdd : dd < d)
    (k : AM E y cc' nL' ret' dd As μ (fun r μ' => CW E Γ cc nL own d (pc + 3) L (r.toList ++ S) μ')) : CW E Γ cc nL own d pc L st0 μ := by
  intro C H locs ls hP hS hl
  obtain ⟨⟨v1, v2, v4, v5⟩, v7, v8, v9, v10⟩ := hV
  have hcw : va_CN (g_R Γ) (g_s Γ) (g_args Γ) own idx y host cc' nL' ret' (.code y cc' nL' ret' :: lw_good) (rmOf dd) 0 0 n :=
    va_cnB (Ts := lw_good) n C.2.2.2.2.1 (gi_good v5 gi_all) rfl rfl rfl (C.2.2.2.2.2.2.1.2.1.1 _ _ _ _ v1) (C.2.2.2.2.1 _ v4) ⟨v7, v8, v9⟩ (by
      obtain ⟨f1, f2, -, -⟩ := C.2.2.2.2.2.1
      show dd + 1 ≤ _ ∧ 8 + (nL' + 11) + 64 * dd ≤ _
      omega)
  refine cw_behind C (va_runSN (As := As.map (cv E)) (rest := S.map (cv E)) ⟨C.1, C.2.1, C.2.2.1, C.2.2.2.1, C.2.2.2.2.1⟩ k ⟨hcw, C.2.2.2.2.1 _ v2, trivial⟩ ⟨pc_blind, fun U hU hW => by have := pc_pre (vs := As) C hP hS U hU hW; exact this⟩ rfl (by rw [List.length_map]; exact hn) hl.1 ?_ (lv_room (S_cat hcat)) hd ?_) hS hl
  · show st0.map (cv E) = _
    rw [hst, List.map_append, List.map_reverse]
  · obtain ⟨-, -, f3, f4⟩ := C.2.2.2.2.2.1
    exact ⟨f3, f4⟩
end CWrows

