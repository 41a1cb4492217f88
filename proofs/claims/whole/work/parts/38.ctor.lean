/-! ===== the constructors' calculus: the world grows ===== -/
abbrev Kx : Type := va_G × (ClassId × ClassId) × Launch
def k_D (X : Kx) : va_G := X.1
def k_cI (X : Kx) : ClassId := X.2.1.1
def k_cZ (X : Kx) : ClassId := X.2.1.2
def k_l (X : Kx) : Launch := X.2.2
def kTy (X : Kx) : List (ClassId × FieldType) := [(k_cI X, .int), (k_cZ X, .boolean)]
def KC (X : Kx) (Γ : Cx) (cc : ByteArray) (nL : Nat) (own : String) (rm : Room) : Prop :=
  (g_p Γ).tables.exec = Jvm.exec ∧ (g_c Γ).code = cc ∧ (g_c Γ).maxLocals = nL ∧ (g_s Γ).vm.findClass own = some (g_m Γ).cls ∧ (∀ w ∈ lw_good, w.before (g_args Γ) (g_s Γ) = true) ∧ g_R Γ = rm ∧ va_K (k_D X) vwCl (kTy X) (g_s Γ) ∧ (∀ q : Nat, (g_s Γ).heap.size ≤ q → g_A Γ q) ∧ NW (g_s Γ)
def KW (X : Kx) (Γ : Cx) (cc : ByteArray) (nL : Nat) (own : String) (rm : Room) (k sl pc : Nat) (L S : List Value) (ws : va_W) : Prop :=
  KC X Γ cc nL own rm → ∀ (H : Heap) (locs : List Loc) (ls : Array Slot), va_P (k_D X) vwCl ws H → va_D (g_A Γ) ws → va_S (g_A Γ) (g_s Γ).heap H locs → lh ls nL L →
    W (g_p Γ) (k_l X) (g_e Γ) (g_R Γ) (g_s Γ) (g_m Γ) (g_args Γ) (g_below Γ) (g_meth Γ) (g_c Γ) H locs k sl (g_Z Γ) (F0 (g_m Γ) pc ls S)
def KB (X : Kx) (ws0 : va_W) (sz : Nat) (ws1 : va_W) (t : State) : Prop := va_P (k_D X) vwCl ws1 t.heap ∧ va_D (va_A ws0 sz) ws1
def KPc (X : Kx) (as : List Value) (ws0 : va_W) (sz : Nat) : Array Value → State → Prop := va_Pc as (fun U => U.heap.size = sz ∧ va_P (k_D X) vwCl ws0 U.heap ∧ va_K (k_D X) vwCl (kTy X) U ∧ va_D (fun _ => True) ws0 ∧ NW U)
/-- a constructor: from the world ws0 a world that P says -/
def CM (X : Kx) (y : MethodName) (cc : ByteArray) (nL : Nat) (rm : Room) (as : List Value) (ws0 : va_W) (P : va_W → Prop) : Prop :=
  ∀ sz : Nat, Met (k_l X) y (.code y cc nL none :: lw_good) rm (KPc X as ws0 sz) (va_Qv P (KB X ws0 sz) (va_A ws0 sz)) rm.cells rm.slots (va_A ws0 sz)
def KR (X : Kx) (Γ : Cx) (rm : Room) (ws0 : va_W) (sz : Nat) (P : va_W → Prop) : Prop :=
  (g_meth Γ).sig.returnType = none ∧ (g_meth Γ).locks = false ∧ (g_meth Γ).name = "<init>" ∧ g_A Γ = va_A ws0 sz ∧ g_Z Γ = MQ (g_below Γ) (va_Qv P (KB X ws0 sz) (va_A ws0 sz)) (g_args Γ) (g_s Γ) rm.cells rm.slots (va_A ws0 sz)
theorem cm_of {X : Kx} {y : MethodName} {cc : ByteArray} {nL : Nat} {own : String} {rm : Room} {as L : List Value} {ws0 : va_W} {P : va_W → Prop}
    (hy : plainName y.cls = true) (hown : y.cls = own) (hy1 : y.name = "<init>") (hn : (argL as).length ≤ nL) (hL : argL as ++ List.replicate (nL - (argL as).length) .null = L)
    (k : ∀ Γ sz, KR X Γ rm ws0 sz P → KW X Γ cc nL own rm 0 0 0 L [] ws0) : CM X y cc nL rm as ws0 P := by
  intro sz
  refine Met.ofW (cc := cc) (maxL := nL) (ret := none) hy rfl ?_
  intro p e s m args below meth c s₁ B hml hv
  obtain ⟨rfl, hsz, hP, hK, hD0, hNW⟩ := hv
  have hts := atoms_spec B.pre
  subst hsz
  have hD := hD0.self (sz := s.heap.size)
  have hin : meth.name = "<init>" := (name_of_methodNamed B.named B.method).1.trans hy1
  have C := k (p, e, rm, s, m, as.toArray, below, meth, c, va_A ws0 s.heap.size, rm.cells, rm.slots, MQ below (va_Qv P (KB X ws0 s.heap.size) (va_A ws0 s.heap.size)) as.toArray s rm.cells rm.slots (va_A ws0 s.heap.size)) s.heap.size ⟨B.returns, B.notSynchronized, hin, rfl, rfl⟩
    ⟨B.exec, B.bytes, hml, by rw [← hown]; exact findClass_of_methodNamed B.named, fun w hw => hts w (List.mem_cons_of_mem _ hw), rfl, hK, fun q h => Or.inr h, hNW⟩
    s.heap []
  rw [lg_entry_eq]
  have hlen : (lg_sl as).length ≤ nL := by rw [sl_len]; exact hn
  have hl := lv_entry as (n := nL) hlen
  refine C _ hP hD va_S.rf ⟨hl.1, hl.2.1, fun i v h1 h2 => ?_⟩
  rw [← hL] at h1
  by_cases hi : i < (argL as).length
  · rw [List.getElem?_append_left hi] at h1
    have := argL_lh as 0 _ hl.2.2 i v h1 h2
    simpa using this
  · rw [List.getElem?_append_right (by omega)] at h1
    rw [List.getElem?_replicate] at h1
    split at h1
    · cases h1; exact absurd rfl h2
    · cases h1
theorem fm_of {α : Type} {is : List Nat} {ws ws' : List α} (h : is.map (fun i => ws[i]?) = ws'.map some) : is.filterMap (fun i => ws[i]?) = ws' := by
  have h2 := congrArg (List.filterMap id) h
  rw [List.filterMap_map, List.filterMap_map] at h2
  simpa using h2
section KWrows
variable {X : Kx} {Γ : Cx} {cc : ByteArray} {nL : Nat} {own : String} {rm : Room} {k sl pc : Nat} {L S : List Value} {ws : va_W}
theorem kw_aload_n {n : Fin 4} {i a : Nat} (hd : decode cc pc = .ok (.aload_n n, 1)) (hi : (n : Nat) = i) (hv : L[i]? = some (.ref a)) (kk : KW X Γ cc nL own rm k sl (pc + 1) L (.ref a :: S) ws) : KW X Γ cc nL own rm k sl pc L S ws :=
  fun C H locs ls hP hD hS hl => lv_aload_n C.1 C.2.1 hd hi (hl.2.2 i _ hv (fun h => by cases h)) (kk C H locs ls hP hD hS hl)
theorem kw_iload_n {n : Fin 4} {i : Nat} {a : Int32} (hd : decode cc pc = .ok (.iload_n n, 1)) (hi : (n : Nat) = i) (hv : L[i]? = some (.int a)) (kk : KW X Γ cc nL own rm k sl (pc + 1) L (.int a :: S) ws) : KW X Γ cc nL own rm k sl pc L S ws :=
  fun C H locs ls hP hD hS hl => lv_iload_n C.1 C.2.1 hd hi (hl.2.2 i _ hv (fun h => by cases h)) (kk C H locs ls hP hD hS hl)
theorem kw_bipush {n : Int} {v : Int32} (hd : decode cc pc = .ok (.bipush n, 2)) (hv : (Int8.ofInt n).toInt32 = v) (kk : KW X Γ cc nL own rm k sl (pc + 2) L (.int v :: S) ws) : KW X Γ cc nL own rm k sl pc L S ws :=
  fun C H locs ls hP hD hS hl => lv_bipush C.1 C.2.1 hd hv (kk C H locs ls hP hD hS hl)
theorem kw_sipush {n : Int} {v : Int32} (hd : decode cc pc = .ok (.sipush n, 3)) (hv : (Int16.ofInt n).toInt32 = v) (kk : KW X Γ cc nL own rm k sl (pc + 3) L (.int v :: S) ws) : KW X Γ cc nL own rm k sl pc L S ws :=
  fun C H locs ls hP hD hS hl => lv_sipush C.1 C.2.1 hd hv (kk C H locs ls hP hD hS hl)
theorem kw_iconst {n : Int} {v : Int32} (hd : decode cc pc = .ok (.iconst n, 1)) (hv : Int32.ofInt n = v) (kk : KW X Γ cc nL own rm k sl (pc + 1) L (.int v :: S) ws) : KW X Γ cc nL own rm k sl pc L S ws :=
  fun C H locs ls hP hD hS hl => lv_iconst C.1 C.2.1 hd hv (kk C H locs ls hP hD hS hl)
theorem kw_imul {x y : Int32} (hd : decode cc pc = .ok (.imul, 1)) (kk : KW X Γ cc nL own rm k sl (pc + 1) L (.int (x * y) :: S) ws) : KW X Γ cc nL own rm k sl pc L (.int y :: .int x :: S) ws :=
  fun C H locs ls hP hD hS hl => lv_imul C.1 C.2.1 hd (kk C H locs ls hP hD hS hl)
theorem kw_dup {v : Value} (hd : decode cc pc = .ok (.dup, 1)) (hv : v.category = 1) (kk : KW X Γ cc nL own rm k sl (pc + 1) L (v :: v :: S) ws) : KW X Γ cc nL own rm k sl pc L (v :: S) ws :=
  fun C H locs ls hP hD hS hl => lv_dup C.1 C.2.1 hd hv (kk C H locs ls hP hD hS hl)
theorem kw_objInit {idx a : Nat} (hd : decode cc pc = .ok (.invokespecial idx, 3)) (hlink : Cond.methodLink own idx objectInit ∈ lw_good) (hinst : Cond.instanceMethod objectInit ∈ lw_good) (hcode : Cond.code objectInit ⟨#[0xb1]⟩ 1 none ∈ lw_good) (hS0 : (S.map fun v => v.category).sum = 0) (hfr : 1 ≤ rm.frames) (hlo : 12 ≤ rm.locals) (kk : KW X Γ cc nL own rm k sl (pc + 3) L S ws) : KW X Γ cc nL own rm k sl pc L (.ref a :: S) ws := by
  intro C H locs ls hP hD hS hl
  have hr := C.2.2.2.2.2.1
  refine W.objInit C.1 C.2.1 C.2.2.2.1 (C.2.2.2.2.1 _ hlink) (C.2.2.2.2.1 _ hinst) (C.2.2.2.2.1 _ hcode) rfl (by rw [C.2.2.1]; exact hl.1) rfl hd (by rw [hr]; exact hfr) (by rw [hr, hS0]; exact hlo) ?_
  exact kk C H locs ls hP hD hS hl
theorem kw_newI {n : Int32} {N' : Nat} (hd : decode cc pc = .ok (.newarray .int, 2)) (harr : Cond.arrayClass .int ∈ lw_good) (hn : ¬ n < 0) (hN : n.toNatClampNeg = N') (hb : N' * 4 ≤ 536870912) (hk : k + 1 ≤ rm.cells) (hs : sl + N' ≤ rm.slots) (kk : ∀ q, KW X Γ cc nL own rm (k + 1) (sl + N') (pc + 2) L (.ref q :: S) (ws ++ [(q, .inl (k_cI X, N', .inl (fun _ => 0)))])) : KW X Γ cc nL own rm k sl pc L (.int n :: S) ws := by
  intro C H locs ls hP hD hS hl
  have hr := C.2.2.2.2.2.1
  refine va_newa (atype := .int) (ty := .int) (a0 := (N', .inl (fun _ => 0))) C.1 C.2.1 (C.2.2.2.2.1 _ harr) rfl C.2.2.2.2.2.2.1 hP hD hS C.2.2.2.2.2.2.2.1 (fun _ => rfl) hn hN hb (by rw [hr]; exact hk) (by rw [hr]; exact hs) hd (fun q cA H1 hK1 hP1 hD1 hS1 => ?_)
  have h1 := va_nm_int (C.2.2.2.2.2.2.1.2 0 (k_cI X, .int) rfl).2
  have h2 := va_nm_int (hK1.2 2 (cA, .int) rfl).2
  have e : cA = k_cI X := Option.some.inj (h2.symm.trans h1)
  subst e
  exact kk q C H1 locs ls hP1 hD1 hS1 hl
theorem kw_newZ {n : Int32} {N' : Nat} (hd : decode cc pc = .ok (.newarray .boolean, 2)) (harr : Cond.arrayClass .boolean ∈ lw_good) (hn : ¬ n < 0) (hN : n.toNatClampNeg = N') (hb : N' * 1 ≤ 536870912) (hk : k + 1 ≤ rm.cells) (hs : sl + N' ≤ rm.slots) (kk : ∀ q, KW X Γ cc nL own rm (k + 1) (sl + N') (pc + 2) L (.ref q :: S) (ws ++ [(q, .inl (k_cZ X, N', .inl (fun _ => 0)))])) : KW X Γ cc nL own rm k sl pc L (.int n :: S) ws := by
  intro C H locs ls hP hD hS hl
  have hr := C.2.2.2.2.2.1
  refine va_newa (atype := .boolean) (ty := .boolean) (a0 := (N', .inl (fun _ => 0))) C.1 C.2.1 (C.2.2.2.2.1 _ harr) rfl C.2.2.2.2.2.2.1 hP hD hS C.2.2.2.2.2.2.2.1 (fun _ => rfl) hn hN hb (by rw [hr]; exact hk) (by rw [hr]; exact hs) hd (fun q cA H1 hK1 hP1 hD1 hS1 => ?_)
  have h1 := va_nm_boolean (C.2.2.2.2.2.2.1.2 1 (k_cZ X, .boolean) rfl).2
  have h2 := va_nm_boolean (hK1.2 2 (cA, .boolean) rfl).2
  have e : cA = k_cZ X := Option.some.inj (h2.symm.trans h1)
  subst e
  exact kk q C H1 locs ls hP1 hD1 hS1 hl
theorem kw_new {idx ci N : Nat} {Cn : String} {T : u_T} {fs : List Value} (hd : decode cc pc = .ok (.new idx, 3)) (hF : ∀ w ∈ u_ws Cn T N, w ∈ lw_good) (ty : Nat → FieldType) (hty : ∀ k, k < N → parseFieldDescriptor (T k).2.2.1 = some (ty k)) (hcl : Cond.classLink own idx Cn ∈ lw_good) (hinst : Cond.instantiable Cn N ∈ lw_good) (hini : Cond.initialized Cn ∈ lw_good) (hc : vwCl[ci]? = some (Cn, T, N)) (hfs : ∀ j, j < N → defaultValue (ty j) = vp_V fs j) (hk : k + 1 ≤ rm.cells) (hs : sl + N ≤ rm.slots) (kk : ∀ q, KW X Γ cc nL own rm (k + 1) (sl + N) (pc + 3) L (.ref q :: S) (ws ++ [(q, .inr (ci, fs))])) : KW X Γ cc nL own rm k sl pc L S ws := by
  intro C H locs ls hP hD hS hl
  have hr := C.2.2.2.2.2.1
  exact va_new (ci := ci) (fs := fs) C.1 C.2.1 C.2.2.2.2.1 hF ty hty C.2.2.2.1 (C.2.2.2.2.1 _ hcl) (C.2.2.2.2.1 _ hinst) (C.2.2.2.2.1 _ hini) C.2.2.2.2.2.2.1 hP hD hS C.2.2.2.2.2.2.2.1 hc hfs (by rw [hr]; exact hk) (by rw [hr]; exact hs) hd (fun q H1 hP1 hD1 hS1 => kk q C H1 locs ls hP1 hD1 hS1 hl)
theorem kw_putF {idx ci N i q0 a : Nat} {Cn : String} {T : u_T} {fs : List Value} {v : Value} {t : FieldType} {ws' : va_W} (hd : decode cc pc = .ok (.putfield idx, 3)) (hF : ∀ w ∈ u_ws Cn T N, w ∈ lw_good) (ty : Nat → FieldType) (hty : ∀ k, k < N → parseFieldDescriptor (T k).2.2.1 = some (ty k)) (hnm : ∀ a, a < N → ∀ b, b < N → a ≠ b → (T a).2.1 ≠ (T b).2.1) (hc : vwCl[ci]? = some (Cn, T, N)) (hi : i < N) (he : ws[q0]? = some (a, .inr (ci, fs))) (hlink : Cond.fieldLink own idx (T i).1 (T i).2.1 (T i).2.2.1 ∈ lw_good) (hfin : (T i).2.2.2 = true) (hin : (g_meth Γ).name = "<init>") (hdecl : (T i).1 = own) (hp : parseFieldDescriptor (T i).2.2.1 = some t) (hn : narrow t v = v) (hfit : fits t v = true) (hl0 : i < fs.length) (hw : ws.set q0 (a, .inr (ci, fs.set i v)) = ws') (kk : KW X Γ cc nL own rm k sl (pc + 3) L S ws') : KW X Γ cc nL own rm k sl pc L (v :: .ref a :: S) ws := by
  intro C H locs ls hP hD hS hl
  subst hw
  exact va_putF (D := k_D X) (ci := ci) C.1 C.2.1 C.2.2.2.2.1 hF ty hty hnm C.2.2.2.1 C.2.2.2.2.2.2.1 hP hD hS q0 he hc i hi (C.2.2.2.2.1 _ hlink) (fun _ h9 => h9) hfin hin hdecl hp hn hfit hl0 hd (fun H1 locs1 hP1 hD1 hS1 => kk C H1 locs1 ls hP1 hD1 hS1 hl)
theorem kw_put {idx ci N i q0 a : Nat} {Cn : String} {T : u_T} {fs : List Value} {v : Value} {t : FieldType} {ws' : va_W} (hd : decode cc pc = .ok (.putfield idx, 3)) (hF : ∀ w ∈ u_ws Cn T N, w ∈ lw_good) (ty : Nat → FieldType) (hty : ∀ k, k < N → parseFieldDescriptor (T k).2.2.1 = some (ty k)) (hnm : ∀ a, a < N → ∀ b, b < N → a ≠ b → (T a).2.1 ≠ (T b).2.1) (hc : vwCl[ci]? = some (Cn, T, N)) (hi : i < N) (he : ws[q0]? = some (a, .inr (ci, fs))) (hlink : Cond.fieldLink own idx (T i).1 (T i).2.1 (T i).2.2.1 ∈ lw_good) (hfin : (T i).2.2.2 = false) (hp : parseFieldDescriptor (T i).2.2.1 = some t) (hn : narrow t v = v) (hfit : fits t v = true) (hl0 : i < fs.length) (hw : ws.set q0 (a, .inr (ci, fs.set i v)) = ws') (kk : KW X Γ cc nL own rm k sl (pc + 3) L S ws') : KW X Γ cc nL own rm k sl pc L (v :: .ref a :: S) ws := by
  intro C H locs ls hP hD hS hl
  subst hw
  exact va_put (D := k_D X) (ci := ci) C.1 C.2.1 C.2.2.2.2.1 hF ty hty hnm C.2.2.2.1 C.2.2.2.2.2.2.1 hP hD hS q0 he hc i hi (C.2.2.2.2.1 _ hlink) (fun _ h9 => h9) hfin hp hn hfit hl0 hd (fun H1 locs1 hP1 hD1 hS1 => kk C H1 locs1 ls hP1 hD1 hS1 hl)
theorem kw_get {idx ci N i q0 a : Nat} {Cn : String} {T : u_T} {fs : List Value} {v : Value} (hd : decode cc pc = .ok (.getfield idx, 3)) (hF : ∀ w ∈ u_ws Cn T N, w ∈ lw_good) (hc : vwCl[ci]? = some (Cn, T, N)) (hi : i < N) (he : ws[q0]? = some (a, .inr (ci, fs))) (hlink : Cond.fieldLink own idx (T i).1 (T i).2.1 (T i).2.2.1 ∈ lw_good) (hv : fs[i]? = some v) (kk : KW X Γ cc nL own rm k sl (pc + 3) L (v :: S) ws) : KW X Γ cc nL own rm k sl pc L (.ref a :: S) ws := by
  intro C H locs ls hP hD hS hl
  exact va_get (D := k_D X) C.1 C.2.1 C.2.2.2.2.1 hF C.2.2.2.1 C.2.2.2.2.2.2.1 hP q0 he hc i hi (C.2.2.2.2.1 _ hlink) (fun _ h9 => h9) hv hd (kk C H locs ls hP hD hS hl)
theorem kw_iast {q0 a n : Nat} {f : Nat → Int32} {i v : Int32} {ws' : va_W} (hd : decode cc pc = .ok (.iastore, 1)) (he : ws[q0]? = some (a, .inl (k_cI X, n, .inl f))) (hin : vp_in i n) (hw : ws.set q0 (a, .inl (k_cI X, n, .inl (upd f i.toNatClampNeg v))) = ws') (kk : KW X Γ cc nL own rm k sl (pc + 1) L S ws') : KW X Γ cc nL own rm k sl pc L (.int v :: .int i :: .ref a :: S) ws := by
  intro C H locs ls hP hD hS hl
  subst hw
  exact va_iast C.1 C.2.1 C.2.2.2.2.2.2.1 hP hD hS q0 0 he rfl hin hd (fun H1 locs1 hP1 hD1 hS1 => kk C H1 locs1 ls hP1 hD1 hS1 hl)
theorem kw_min {idx : Nat} {x y : Int32} (hd : decode cc pc = .ok (.invokestatic idx, 3)) (hlink : Cond.methodLink own idx Lib.Math.min.name ∈ lw_good) (hstat : Cond.static Lib.Math.min.name ∈ lw_good) (hini : Cond.initialized "java/lang/Math" ∈ lw_good) (hcode : Cond.code Lib.Math.min.name Lib.Math.min.code 2 (some .int) ∈ lw_good) (hfr : 1 ≤ rm.frames) (hlo : (S.map fun v => v.category).sum + 13 ≤ rm.locals) (hk : k ≤ rm.cells) (hs : sl ≤ rm.slots) (kk : KW X Γ cc nL own rm k sl (pc + 3) L (.int (if y < x then y else x) :: S) ws) : KW X Γ cc nL own rm k sl pc L (.int y :: .int x :: S) ws := by
  intro C H locs ls hP hD hS hl
  have hr := C.2.2.2.2.2.1
  exact va_mmin C.1 C.2.1 (C.2.2.1.trans hl.1.symm) C.2.2.2.1 (C.2.2.2.2.1 _ hlink) (C.2.2.2.2.1 _ hstat) (C.2.2.2.2.1 _ hini) (C.2.2.2.2.1 _ hcode) (by rw [hr]; exact hfr) (by rw [hr]; exact hlo) (by rw [hr]; exact hk) (by rw [hr]; exact hs) hd (kk C H locs ls hP hD hS hl)
theorem kw_max {idx : Nat} {x y : Int32} (hd : decode cc pc = .ok (.invokestatic idx, 3)) (hlink : Cond.methodLink own idx Lib.Math.max.name ∈ lw_good) (hstat : Cond.static Lib.Math.max.name ∈ lw_good) (hini : Cond.initialized "java/lang/Math" ∈ lw_good) (hcode : Cond.code Lib.Math.max.name Lib.Math.max.code 2 (some .int) ∈ lw_good) (hfr : 1 ≤ rm.frames) (hlo : (S.map fun v => v.category).sum + 13 ≤ rm.locals) (hk : k ≤ rm.cells) (hs : sl ≤ rm.slots) (kk : KW X Γ cc nL own rm k sl (pc + 3) L (.int (if x < y then y else x) :: S) ws) : KW X Γ cc nL own rm k sl pc L (.int y :: .int x :: S) ws := by
  intro C H locs ls hP hD hS hl
  have hr := C.2.2.2.2.2.1
  exact va_mmax C.1 C.2.1 (C.2.2.1.trans hl.1.symm) C.2.2.2.1 (C.2.2.2.2.1 _ hlink) (C.2.2.2.2.1 _ hstat) (C.2.2.2.2.1 _ hini) (C.2.2.2.2.1 _ hcode) (by rw [hr]; exact hfr) (by rw [hr]; exact hlo) (by rw [hr]; exact hk) (by rw [hr]; exact hs) hd (kk C H locs ls hP hD hS hl)
/-- a constructor's words: its link, and its own -/
def IOK (own : String) (idx : Nat) (y : MethodName) (cc' : ByteArray) (nL' n : Nat) : Prop :=
  (Cond.methodLink own idx y ∈ lw_good ∧ Cond.instanceMethod y ∈ lw_good ∧ Cond.initialized y.cls ∈ lw_good ∧ Cond.code y cc' nL' none ∈ lw_good) ∧ y.name = "<init>" ∧ y.cls ≠ "java/lang/invoke/MethodHandle" ∧ y.cls ≠ "java/lang/invoke/VarHandle" ∧ (parseMethodDescriptor y.desc).map (fun d => d.parameters.length) = some n ∧ nL' ≤ 30
theorem kw_init {y : MethodName} {cc' : ByteArray} {nL' idx n h1 : Nat} {rm' : Room} {As st0 : List Value} {ws0 wr : va_W} {P : va_W → Prop} (hd : decode cc pc = .ok (.invokespecial idx, 3)) (hV : IOK own idx y cc' nL' n) (hM : CM X y cc' nL' rm' (.ref h1 :: As) ws0 P) (hn : As.length = n) (hst : st0 = As.reverse ++ .ref h1 :: S) (hcat : (S.map fun v => v.category).sum ≤ 8)
    (isC isR : List Nat) (hC : isC.map (fun i => ws[i]?) = ws0.map some) (hR : isR.map (fun i => ws[i]?) = wr.map some) (hnC : va_nd isC = true) (hnd : va_nd isR = true) (hdis : ∀ i ∈ isR, i ∉ isC)
    (hk : k + rm'.cells ≤ rm.cells) (hs : sl + rm'.slots ≤ rm.slots) (hfr : rm'.frames + 1 ≤ rm.frames) (hlo : 49 + rm'.locals ≤ rm.locals)
    (kk : ∀ w1, P w1 → KW X Γ cc nL own rm (k + rm'.cells) (sl + rm'.slots) (pc + 3) L S (wr ++ w1)) : KW X Γ cc nL own rm k sl pc L st0 ws := by
  intro C H locs ls hP hD hS hl
  have hr := C.2.2.2.2.2.1
  have hA := C.2.2.2.2.2.2.2.1
  obtain ⟨⟨v1, v2, v3, v4⟩, v5, v6, v7, v8, v9⟩ := hV
  have hPc := hP.sub (ws' := ws0) isC (fm_of hC)
  have hDc := hD.sub (ws' := ws0) isC hnC hC
  have hFc := va_free (wc := ws0) hD hS hA isC hC
  have hcw := cwI (R := g_R Γ) (s := g_s Γ) (args := g_args Γ) (own := own) (index := idx) (y := y) (bytes := cc') (maxL := nL') (ws := .code y cc' nL' none :: lw_good) (rm := rm') (Ts := lw_good) n C.2.2.2.2.1 (gi_good v4 gi_all) rfl rfl rfl (C.2.2.2.2.1 _ v3) (C.2.2.2.2.1 _ v1) (C.2.2.2.2.1 _ v2) v5 ⟨v6, v7, v8⟩ (by rw [hr]; exact ⟨hfr, by omega⟩)
  refine va_callv (va_runI (As := As) (rest := S) ⟨C.1, C.2.1, C.2.2.1, C.2.2.2.1, C.2.2.2.2.1⟩ (hM H.size) hcw ⟨fun a U g mk q => ?_, fun U hU hW => ?_⟩ rfl hn hl.1 hst (lv_room hcat) hd ?_) hS (fun q _ h => hFc q h) hFc (fun u t H1 locs1 ht hvm hu hB hz1 hk1 hS1 => ?_)
  · obtain ⟨q0, q1, qP, qK, qD, qN⟩ := q
    exact ⟨q0, q1, qP, va_K.moved (u := U) (U := U.calling g mk a) (Vm.Alike.refl U.vm) qK, qD, NW.same (s := U) (U := U.calling g mk a) rfl qN⟩
  · exact ⟨rfl, by rw [hU], by rw [hU]; exact hPc, va_K.moved hW.alike C.2.2.2.2.2.2.1, hDc.weaken (fun _ _ _ _ => trivial), NW.warm hW C.2.2.2.2.2.2.2.2⟩
  · rw [hr]; exact ⟨hk, hs⟩
  · obtain ⟨hP1, hD1⟩ := hB
    rw [ht] at hP1
    obtain ⟨hP2, hD2⟩ := va_join (wr := wr) (w1 := u) hP hD isC isR hC hR hnd hdis hk1 hFc hP1 hD1
    exact kk u hu C H1 locs1 ls hP2 hD2 hS1 hl
def INK (own : String) (idx : Nat) (y : MethodName) (host : String) (cc' : ByteArray) (nL' n : Nat) : Prop :=
  (Cond.methodLinkNest own idx y host ∈ lw_tbl ∧ Cond.instanceMethod y ∈ lw_good ∧ Cond.initialized y.cls ∈ lw_good ∧ Cond.code y cc' nL' none ∈ lw_good) ∧ y.name = "<init>" ∧ y.cls ≠ "java/lang/invoke/MethodHandle" ∧ y.cls ≠ "java/lang/invoke/VarHandle" ∧ (parseMethodDescriptor y.desc).map (fun d => d.parameters.length) = some n ∧ nL' ≤ 30
theorem kw_initN {host : String} {y : MethodName} {cc' : ByteArray} {nL' idx n h1 : Nat} {rm' : Room} {As st0 : List Value} {ws0 wr : va_W} {P : va_W → Prop} (hd : decode cc pc = .ok (.invokespecial idx, 3)) (hV : INK own idx y host cc' nL' n) (hM : CM X y cc' nL' rm' (.ref h1 :: As) ws0 P) (hn : As.length = n) (hst : st0 = As.reverse ++ .ref h1 :: S) (hcat : (S.map fun v => v.category).sum ≤ 8)
    (isC isR : List Nat) (hC : isC.map (fun i => ws[i]?) = ws0.map some) (hR : isR.map (fun i => ws[i]?) = wr.map some) (hnC : va_nd isC = true) (hnd : va_nd isR = true) (hdis : ∀ i ∈ isR, i ∉ isC)
    (hk : k + rm'.cells ≤ rm.cells) (hs : sl + rm'.slots ≤ rm.slots) (hfr : rm'.frames + 1 ≤ rm.frames) (hlo : 49 + rm'.locals ≤ rm.locals)
    (kk : ∀ w1, P w1 → KW X Γ cc nL own rm (k + rm'.cells) (sl + rm'.slots) (pc + 3) L S (wr ++ w1)) : KW X Γ cc nL own rm k sl pc L st0 ws := by
  intro C H locs ls hP hD hS hl
  have hr := C.2.2.2.2.2.1
  have hA := C.2.2.2.2.2.2.2.1
  obtain ⟨⟨v1, v2, v3, v4⟩, v5, v6, v7, v8, v9⟩ := hV
  have hPc := hP.sub (ws' := ws0) isC (fm_of hC)
  have hDc := hD.sub (ws' := ws0) isC hnC hC
  have hFc := va_free (wc := ws0) hD hS hA isC hC
  have hcw : va_CN (g_R Γ) (g_s Γ) (g_args Γ) own idx y host cc' nL' none (.code y cc' nL' none :: lw_good) rm' rm'.cells rm'.slots n := va_cnB (Ts := lw_good) n C.2.2.2.2.1 (gi_good v4 gi_all) rfl rfl rfl (C.2.2.2.2.2.2.2.2.1 _ _ _ _ v1) (C.2.2.2.2.1 _ v3) ⟨v6, v7, v8⟩ (by rw [hr]; exact ⟨hfr, by omega⟩)
  refine va_callv (va_runIN (As := As) (rest := S) ⟨C.1, C.2.1, C.2.2.1, C.2.2.2.1, C.2.2.2.2.1⟩ (hM H.size) ⟨hcw, v5, C.2.2.2.2.1 _ v2⟩ ⟨fun a U g mk q => ?_, fun U hU hW => ?_⟩ rfl hn hl.1 hst (lv_room hcat) hd ?_) hS (fun q _ h => hFc q h) hFc (fun u t H1 locs1 ht hvm hu hB hz1 hk1 hS1 => ?_)
  · obtain ⟨q0, q1, qP, qK, qD, qN⟩ := q
    exact ⟨q0, q1, qP, va_K.moved (u := U) (U := U.calling g mk a) (Vm.Alike.refl U.vm) qK, qD, NW.same (s := U) (U := U.calling g mk a) rfl qN⟩
  · exact ⟨rfl, by rw [hU], by rw [hU]; exact hPc, va_K.moved hW.alike C.2.2.2.2.2.2.1, hDc.weaken (fun _ _ _ _ => trivial), NW.warm hW C.2.2.2.2.2.2.2.2⟩
  · rw [hr]; exact ⟨hk, hs⟩
  · obtain ⟨hP1, hD1⟩ := hB
    rw [ht] at hP1
    obtain ⟨hP2, hD2⟩ := va_join (wr := wr) (w1 := u) hP hD isC isR hC hR hnd hdis hk1 hFc hP1 hD1
    exact kk u hu C H1 locs1 ls hP2 hD2 hS1 hl
theorem kw_vret {sz : Nat} {ws0 ws' : va_W} {P : va_W → Prop} (hd : decode cc pc = .ok (.return_, 1)) (hR : KR X Γ rm ws0 sz P) (isE : List Nat) (hE : isE.map (fun i => ws[i]?) = ws'.map some) (hnd : va_nd isE = true) (hk : k ≤ rm.cells) (hs : sl ≤ rm.slots) (hq : P ws') : KW X Γ cc nL own rm k sl pc L [] ws := by
  intro C H locs ls hP hD hS hl
  refine W.widen (k := rm.cells) (n := rm.slots) hk hs ?_
  rw [hR.2.2.2.2]
  have hS' := hS
  rw [hR.2.2.2.1] at hS'
  refine W.vret C.1 C.2.1 hR.1 (fun t ht hW => ⟨⟨ws', rfl, hq, ?_, ?_⟩, hS'.F ht⟩) hS'.2.2 hd hR.2.1
  · rw [ht]; exact hP.sub isE (fm_of hE)
  · have := hD.sub (ws' := ws') isE hnd hE
    rw [hR.2.2.2.1] at this; exact this
theorem kw_wide {k' sl' : Nat} (hk : k ≤ k') (hs : sl ≤ sl') (kk : KW X Γ cc nL own rm k' sl' pc L S ws) : KW X Γ cc nL own rm k sl pc L S ws :=
  fun C H locs ls hP hD hS hl => W.widen hk hs (kk C H locs ls hP hD hS hl)
end KWrows
