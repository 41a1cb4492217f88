/-! ===== what clear and parish answer ===== -/
def cntN2 (m : Nat) : Nat → Nat
  | 0 => 0
  | k + 1 => cntN2 m k + m / 2 ^ k % 2
def gK (s : Row) (code : PCo) (p m : Nat) : Nat → Nat → Int32 := fun x l => strayL code (s 0) p (s (39 + p)) (s (45 + p)) (fun j => s (57 + (p * 4 + j))) x l (if m / 2 ^ x % 2 = 1 then 0 else s (19 + x))
def kS (s : Row) (code : PCo) (p m : Nat) : Int32 := scoreN (lineL (gK s code p m) (pgS s p))
/-- only what lies is taken away -/
def subB (s : Row) (m : Nat) : Bool := allB (fun x => !decide (m / 2 ^ x % 2 = 1) || decide (0 < s (19 + x))) 12
def clrF (ok : Nat → Bool) : Nat → Option Nat
  | 0 => none
  | m + 1 => if ok m && (match clrF ok m with | none => true | some b => decide (cntN2 m 12 < cntN2 b 12)) then some m else clrF ok m
def clrB (s : Row) (code : PCo) (mk p : Nat) : Nat → Bool := fun m => subB s m && decide (nI mk ≤ kS s code p m)
def clrI (o : Option Nat) : Int32 := match o with
  | none => -5
  | some b => nI b
def clearA (s : Row) (code : PCo) (mk : Nat) (x : Int32) : Int32 := if 0 ≤ x ∧ x < s 31 then clrI (clrF (clrB s code mk (nN x)) 4096) else -1
/-! the reader: over the signs nx (-1 behind the last): (is it sound, the place, the code) -/
abbrev Rs : Type := Bool × Nat × PCo
def nxT (s : Row) : Nat → Int32 := fun i => if i < nN (s 37) then s (138 + i) else -1
def isD (x : Int32) : Bool := decide (48 ≤ x ∧ x ≤ 57)
/-- a number: sound, the place behind, the number -/
def numT (nx : Nat → Int32) (i : Nat) : Bool × Nat × Nat :=
  if isD (nx i) then (if nx i ≠ 48 ∧ isD (nx (i + 1)) then (true, i + 2, nN (nx i - 48) * 10 + nN (nx (i + 1) - 48)) else (true, i + 1, nN (nx i - 48))) else (false, i, 0)
/-- the place of a sign among some -/
def amT (x : Int32) : List Int32 → Option Nat
  | [] => none
  | a :: t => if x = a then some 0 else (amT x t).map (· + 1)
def tesT (nx : Nat → Int32) (i : Nat) (c : PCo) : Rs :=
  match amT (nx i) [112, 107, 120, 108, 102, 121] with
  | none => (false, i, c)
  | some a => match amT (nx (i + 1)) [60, 61, 62] with
    | none => (false, i + 1, c)
    | some h => match numT nx (i + 2) with
      | (true, j, v) => (true, j, c ++ [(a * 3 + h, v)])
      | (false, j, _) => (false, j, c)
def lpT (nx : Nat → Int32) (f : Nat → PCo → Rs) (sep : Int32) (op : Nat) : Nat → Rs → Rs
  | 0, r => r
  | n + 1, r => if r.1 = true ∧ nx r.2.1 = sep then (if (f (r.2.1 + 1) r.2.2).1 = true then lpT nx f sep op n (true, (f (r.2.1 + 1) r.2.2).2.1, (f (r.2.1 + 1) r.2.2).2.2 ++ [(op, 0)]) else f (r.2.1 + 1) r.2.2) else r
def bthT (nx : Nat → Int32) (f : Nat → PCo → Rs) (i : Nat) (c : PCo) : Rs := lpT nx f 38 19 100 (f i c)
def eitT (nx : Nat → Int32) (f : Nat → PCo → Rs) (i : Nat) (c : PCo) : Rs := lpT nx (bthT nx f) 124 20 100 (bthT nx f i c)
def facT (nx : Nat → Int32) : Nat → Nat → PCo → Rs
  | 0, i, c => if nx i = 33 ∨ nx i = 40 then (false, i, c) else tesT nx i c
  | D + 1, i, c => if nx i = 33 then (if (facT nx D (i + 1) c).1 = true then (true, (facT nx D (i + 1) c).2.1, (facT nx D (i + 1) c).2.2 ++ [(18, 0)]) else facT nx D (i + 1) c)
    else if nx i = 40 then (if (eitT nx (facT nx D) (i + 1) c).1 = true then (if nx (eitT nx (facT nx D) (i + 1) c).2.1 = 41 then (true, (eitT nx (facT nx D) (i + 1) c).2.1 + 1, (eitT nx (facT nx D) (i + 1) c).2.2) else (false, (eitT nx (facT nx D) (i + 1) c).2.1, c)) else eitT nx (facT nx D) (i + 1) c)
    else tesT nx i c
/-- a word: sound, the place behind -/
def worT (nx : Nat → Int32) : List Int32 → Nat → Bool × Nat
  | [], i => (true, i)
  | a :: t, i => if nx i = a then worT nx t (i + 1) else (false, i)
/-- a clause: sound, the place, the code, PASS -/
def claT (nx : Nat → Int32) (i : Nat) (c : PCo) (mk : Nat) : Bool × Nat × PCo × Nat :=
  if (worT nx (if nx i = 112 then [112, 97, 115, 115, 32] else if nx i = 100 then [100, 114, 97, 119, 32] else [104, 111, 108, 100, 32]) i).1 = true then
    (if (numT nx (i + 5)).1 = true then
      (if nx i = 112 then (true, (numT nx (i + 5)).2.1, c, (numT nx (i + 5)).2.2)
       else if nx (numT nx (i + 5)).2.1 = 32 then
        (if (eitT nx (facT nx 5) ((numT nx (i + 5)).2.1 + 1) c).1 = true then (true, (eitT nx (facT nx 5) ((numT nx (i + 5)).2.1 + 1) c).2.1, (eitT nx (facT nx 5) ((numT nx (i + 5)).2.1 + 1) c).2.2 ++ [(if nx i = 100 then 21 else 22, (numT nx (i + 5)).2.2)], mk)
         else (false, (eitT nx (facT nx 5) ((numT nx (i + 5)).2.1 + 1) c).2.1, c, mk))
       else (false, (numT nx (i + 5)).2.1, c, mk))
     else (false, (numT nx (i + 5)).2.1, c, mk))
  else (false, (worT nx (if nx i = 112 then [112, 97, 115, 115, 32] else if nx i = 100 then [100, 114, 97, 119, 32] else [104, 111, 108, 100, 32]) i).2, c, mk)
def parT (nx : Nat → Int32) : Nat → Nat → PCo → Nat → Bool × Nat × PCo × Nat
  | 0, i, c, pm => (false, i, c, pm)
  | k + 1, i, c, pm => if (claT nx i c pm).1 = true then
      (if nx (claT nx i c pm).2.1 = -1 then claT nx i c pm
       else if k ≠ 0 ∧ nx (claT nx i c pm).2.1 = 59 then parT nx k ((claT nx i c pm).2.1 + 1) (claT nx i c pm).2.2.1 (claT nx i c pm).2.2.2
       else (false, (claT nx i c pm).2))
    else claT nx i c pm
def rdS (s : Row) : Bool × Nat × PCo × Nat := parT (nxT s) 10 0 [] 30
def parA (s : Row) : Int32 := if s 32 = 5 then -4 else if (rdS s).1 = true then s 32 else -10 - nI (rdS s).2.1
def parR (s : Row) : Row := if s 32 = 5 then s else if (rdS s).1 = true then upd (upd s 37 0) 32 (s 32 + 1) else upd s 37 0
def parC (s : Row) (code : PCo) : PCo := if s 32 = 5 then code else if (rdS s).1 = true then (rdS s).2.2.1 else code
def parM (s : Row) (mk : Nat) : Nat := if s 32 = 5 then mk else if (rdS s).1 = true then (rdS s).2.2.2 else mk
/-- the model's row behind parish: as parR says, but where a PARISH that isn't yet (or never) is written -/
def PRow (s t : Row) : Prop := (s 32 = 5 → t = s) ∧ ∀ np, s 32 = nI np → np < 5 → (∀ i, i ≠ 38 → i ≠ 238 + np → i ≠ 243 + np → ¬ (248 + 140 * np ≤ i ∧ i < 248 + 140 * np + 140) → t i = parR s i) ∧ ((rdS s).1 = true → t 38 = nI np ∧ t (243 + np) = nI (rdS s).2.2.1.length ∧ t (238 + np) = nI (rdS s).2.2.2 ∧ ∀ (i : Nat) (q : Nat × Nat), (rdS s).2.2.1[i]? = some q → t (248 + 140 * np + i) = mst q) ∧ (¬ (rdS s).1 = true → t 38 = s 38)
