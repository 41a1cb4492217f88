/-! ===== the fewest to be taken away: both ways find the same ===== -/
theorem bitS (m x : Nat) : m.testBit x = decide (m / 2 ^ x % 2 = 1) := Nat.testBit_eq_decide_div_mod_eq
theorem sh12 : ∀ x, x < 12 → ((nI x &&& 31).toBitVec.smod 32).toNat = x := by decide
theorem m_bit {m x : Nat} (hm : m < 2 ^ 31) (hx : x < 12) : (nI m >>> (nI x &&& 31)) &&& 1 = nI (m / 2 ^ x % 2) := by
  rw [pk_shrN hm _ x (sh12 x hx), pk_andN (Nat.lt_of_le_of_lt (Nat.div_le_self _ _) (by omega)) 1 (by decide)]
theorem shl2 : ∀ x, x < 12 → (1 : Int32) <<< (nI x &&& 31) = nI (2 ^ x) := by decide
theorem nI_or (a b : Nat) : nI a ||| nI b = nI (a ||| b) := by
  apply Int32.toBitVec_inj.mp
  show BitVec.ofNat 32 a ||| BitVec.ofNat 32 b = BitVec.ofNat 32 (a ||| b)
  exact (BitVec.ofNat_or).symm
def lyN (s : Row) : Nat → Nat
  | 0 => 0
  | x + 1 => if 0 < s (19 + x) then lyN s x ||| 2 ^ x else lyN s x
theorem ly_bit (s : Row) (n x : Nat) : (lyN s n).testBit x = (decide (x < n) && decide (0 < s (19 + x))) := by
  induction n with
  | zero => simp [lyN]
  | succ n ih =>
    simp only [lyN]
    by_cases h : 0 < s (19 + n)
    · rw [if_pos h, Nat.testBit_or, ih, Nat.testBit_two_pow]
      by_cases e : n = x
      · subst e; simp [h]
      · have : (x < n + 1) ↔ (x < n) := by omega
        simp [e, this]
    · rw [if_neg h, ih]
      by_cases e : n = x
      · subst e; simp [h]
      · have : (x < n + 1) ↔ (x < n) := by omega
        simp [this]
theorem ly_lt (s : Row) : ∀ n, lyN s n < 2 ^ n := by
  intro n
  induction n with
  | zero => show 0 < 1; decide
  | succ n ih =>
    simp only [lyN]
    split
    · exact Nat.or_lt_two_pow (Nat.lt_of_lt_of_le ih (Nat.pow_le_pow_right (by decide) (by omega))) (Nat.pow_lt_pow_right (by decide) (by omega))
    · exact Nat.lt_of_lt_of_le ih (Nat.pow_le_pow_right (by decide) (by omega))
theorem ly_again {s : Row} {x : Nat} (h : 0 < s (19 + x)) : lyN s (x + 1) ||| 2 ^ x = lyN s (x + 1) := by
  simp only [lyN]; rw [if_pos h, Nat.or_assoc, Nat.or_self]
theorem allB_iff {f : Nat → Bool} {n : Nat} : allB f n = true ↔ ∀ i, i < n → f i = true := by
  induction n with
  | zero => simp [allB]
  | succ n ih =>
    rw [allB_s, Bool.and_eq_true, ih]
    constructor
    · intro h i hi
      by_cases e : i = n
      · subst e; exact h.2
      · exact h.1 i (by omega)
    · intro h; exact ⟨fun i hi => h i (by omega), h n (by omega)⟩
theorem sub_iff {s : Row} {m : Nat} : subB s m = true ↔ ∀ x, x < 12 → m / 2 ^ x % 2 = 1 → 0 < s (19 + x) := by
  unfold subB
  rw [allB_iff]
  constructor
  · intro h x hx hm
    have := h x hx
    simpa [hm] using this
  · intro h x hx
    by_cases hm : m / 2 ^ x % 2 = 1
    · simp [hm, h x hx hm]
    · simp [hm]
theorem big_bit {m i : Nat} (hm : m < 4096) (hi : 12 ≤ i) : m.testBit i = false := Nat.testBit_lt_two_pow (Nat.lt_of_lt_of_le (show m < 2 ^ 12 from hm) (Nat.pow_le_pow_right (by decide) hi))
theorem and_not_0 {s : Row} {m : Nat} (hm : m < 4096) : (nI m &&& (nI (lyN s 12) ^^^ (-1))) = 0 ↔ subB s m = true := by
  rw [sub_iff]
  have hL := ly_lt s 12
  have e : (nI m &&& (nI (lyN s 12) ^^^ (-1))) = 0 ↔ (BitVec.ofNat 32 m &&& (BitVec.ofNat 32 (lyN s 12) ^^^ BitVec.allOnes 32)) = 0#32 := by
    rw [← Int32.toBitVec_inj]; exact Iff.rfl
  rw [e]
  constructor
  · intro h x hx hb
    have h2 := congrArg (fun v => v.getLsbD x) h
    have hb' : m.testBit x = true := by rw [bitS]; simp [hb]
    simp only [BitVec.getLsbD_and, BitVec.getLsbD_xor, BitVec.getLsbD_ofNat, BitVec.getLsbD_allOnes, BitVec.getLsbD_zero, ly_bit, hb', show x < 32 by omega, hx] at h2
    simpa using h2
  · intro h
    apply BitVec.eq_of_getLsbD_eq
    intro i hi
    simp only [BitVec.getLsbD_and, BitVec.getLsbD_xor, BitVec.getLsbD_ofNat, BitVec.getLsbD_allOnes, BitVec.getLsbD_zero, ly_bit, hi]
    by_cases h12 : i < 12
    · by_cases hb : m / 2 ^ i % 2 = 1
      · simp [h12, h i h12 hb]
      · simp [bitS, hb]
    · simp [big_bit hm (by omega : 12 ≤ i)]
theorem cnt_le12 (m k : Nat) : cntN2 m k ≤ k := by
  induction k with
  | zero => exact Nat.le_refl _
  | succ k ih => simp only [cntN2]; have := Nat.mod_lt (m / 2 ^ k) (show 0 < 2 by decide); omega
/-- the least of some sets: by how many, then by number -/
def IsMin (S : Nat → Prop) (o : Option Nat) : Prop := (o = none ∧ ∀ m, ¬ S m) ∨ ∃ b, o = some b ∧ S b ∧ ∀ m, S m → cntN2 b 12 < cntN2 m 12 ∨ (cntN2 b 12 = cntN2 m 12 ∧ b ≤ m)
theorem IsMin.uni {S : Nat → Prop} {o o' : Option Nat} (h : IsMin S o) (h' : IsMin S o') : o = o' := by
  rcases h with ⟨h1, h2⟩ | ⟨b, h1, h2, h3⟩
  · rcases h' with ⟨k1, k2⟩ | ⟨c, k1, k2, k3⟩
    · rw [h1, k1]
    · exact absurd k2 (h2 c)
  · rcases h' with ⟨k1, k2⟩ | ⟨c, k1, k2, k3⟩
    · exact absurd h2 (k2 b)
    · have a := h3 c k2
      have d := k3 b h2
      have : b = c := by omega
      rw [h1, k1, this]
theorem IsMin.cg {S S' : Nat → Prop} {o : Option Nat} (h : IsMin S o) (e : ∀ m, S m ↔ S' m) : IsMin S' o := by
  have : S = S' := funext fun m => propext (e m)
  rw [← this]; exact h
/-- takes m, if it is better -/
def upB (ok : Nat → Bool) (o : Option Nat) (m : Nat) : Option Nat := match o with
  | none => if ok m then some m else none
  | some b => if ok m && (decide (cntN2 m 12 < cntN2 b 12) || (decide (cntN2 m 12 = cntN2 b 12) && decide (m < b))) then some m else some b
theorem up_min {ok : Nat → Bool} {S : Nat → Prop} {o : Option Nat} (h : IsMin S o) (m : Nat) : IsMin (fun z => S z ∨ (z = m ∧ ok m = true)) (upB ok o m) := by
  rcases h with ⟨h1, h2⟩ | ⟨b, h1, h2, h3⟩
  · subst h1
    by_cases hk : ok m = true
    · exact Or.inr ⟨m, by simp [upB, hk], Or.inr ⟨rfl, hk⟩, fun z hz => by rcases hz with hz | ⟨rfl, _⟩; exact absurd hz (h2 z); exact Or.inr ⟨rfl, Nat.le_refl _⟩⟩
    · exact Or.inl ⟨by simp [upB, hk], fun z hz => hz.elim (h2 z) (fun h => hk h.2)⟩
  · subst h1
    by_cases hk : ok m = true
    · by_cases hc : cntN2 m 12 < cntN2 b 12 ∨ (cntN2 m 12 = cntN2 b 12 ∧ m < b)
      · refine Or.inr ⟨m, ?_, Or.inr ⟨rfl, hk⟩, fun z hz => ?_⟩
        · rcases hc with hc | hc <;> simp [upB, hk, hc]
        · rcases hz with hz | ⟨rfl, _⟩
          · have := h3 z hz; omega
          · exact Or.inr ⟨rfl, Nat.le_refl _⟩
      · refine Or.inr ⟨b, ?_, Or.inl h2, fun z hz => ?_⟩
        · have c1 : ¬ cntN2 m 12 < cntN2 b 12 := fun h => hc (Or.inl h)
          have c2 : ¬ (cntN2 m 12 = cntN2 b 12 ∧ m < b) := fun h => hc (Or.inr h)
          simp [upB, hk, c1]
          intro h; omega
        · rcases hz with hz | ⟨rfl, _⟩
          · exact h3 z hz
          · omega
    · exact Or.inr ⟨b, by simp [upB, hk], Or.inl h2, fun z hz => by rcases hz with hz | ⟨_, h⟩; exact h3 z hz; exact absurd h hk⟩
theorem clr_min (ok : Nat → Bool) : ∀ n, IsMin (fun z => z < n ∧ ok z = true) (clrF ok n) := by
  intro n
  induction n with
  | zero => exact Or.inl ⟨rfl, fun m h => by omega⟩
  | succ n ih =>
    have e : clrF ok (n + 1) = upB ok (clrF ok n) n := by
      show (if ok n && (match clrF ok n with | none => true | some b => decide (cntN2 n 12 < cntN2 b 12)) then some n else clrF ok n) = _
      rcases ih with ⟨h1, h2⟩ | ⟨b, h1, h2, h3⟩
      · rw [h1]; simp [upB]
      · rw [h1]
        have hb : b < n := h2.1
        have : ¬ n < b := by omega
        simp [upB, this]
    rw [e]
    refine (up_min ih n).cg (fun m => ⟨fun h => ?_, fun h => ?_⟩)
    · rcases h with h | ⟨rfl, h⟩
      · exact ⟨by omega, h.2⟩
      · exact ⟨by omega, h⟩
    · by_cases e : m = n
      · subst e; exact Or.inr ⟨rfl, h.2⟩
      · exact Or.inl ⟨by omega, h.2⟩
/-- the search from step x on, by so many steps -/
def srch (up : Option Nat → Nat → Option Nat) (ly : Nat → Bool) : Nat → Nat → Nat → Option Nat → Option Nat
  | 0, _, m, b => up b m
  | f + 1, x, m, b => if ly x then srch up ly f (x + 1) (m + 2 ^ x) (srch up ly f (x + 1) m b) else srch up ly f (x + 1) m b
def Cmp (ly : Nat → Bool) : Nat → Nat → Nat → Nat → Prop
  | 0, _, m, z => z = m
  | f + 1, x, m, z => Cmp ly f (x + 1) m z ∨ (ly x = true ∧ Cmp ly f (x + 1) (m + 2 ^ x) z)
theorem srch_min {ok : Nat → Bool} {ly : Nat → Bool} : ∀ (f x m : Nat) (S : Nat → Prop) (o : Option Nat), IsMin S o → IsMin (fun z => S z ∨ (Cmp ly f x m z ∧ ok z = true)) (srch (upB ok) ly f x m o) := by
  intro f
  induction f with
  | zero => intro x m S o h; exact (up_min h m).cg (fun z => ⟨fun q => q.imp id (fun q => ⟨q.1, by rw [q.1]; exact q.2⟩), fun q => q.imp id (fun q => ⟨q.1, by rw [← show z = m from q.1]; exact q.2⟩)⟩)
  | succ f ih =>
    intro x m S o h
    have h1 := ih (x + 1) m S o h
    show IsMin _ (if ly x then srch (upB ok) ly f (x + 1) (m + 2 ^ x) (srch (upB ok) ly f (x + 1) m o) else srch (upB ok) ly f (x + 1) m o)
    by_cases hl : ly x = true
    · rw [if_pos hl]
      refine (ih (x + 1) (m + 2 ^ x) _ _ h1).cg (fun z => ⟨fun q => ?_, fun q => ?_⟩)
      · rcases q with (q | q) | q
        · exact Or.inl q
        · exact Or.inr ⟨Or.inl q.1, q.2⟩
        · exact Or.inr ⟨Or.inr ⟨hl, q.1⟩, q.2⟩
      · rcases q with q | ⟨q | q, k⟩
        · exact Or.inl (Or.inl q)
        · exact Or.inl (Or.inr ⟨q, k⟩)
        · exact Or.inr ⟨q.2, k⟩
    · rw [if_neg hl]
      refine h1.cg (fun z => ⟨fun q => q.imp id (fun q => ⟨Or.inl q.1, q.2⟩), fun q => ?_⟩)
      rcases q with q | ⟨q | q, k⟩
      · exact Or.inl q
      · exact Or.inr ⟨q, k⟩
      · exact absurd q.1 hl
theorem srch_id {up : Option Nat → Nat → Option Nat} {ly : Nat → Bool} {o : Option Nat} : ∀ (f x m : Nat), (∀ z, Cmp ly f x m z → up o z = o) → srch up ly f x m o = o := by
  intro f
  induction f with
  | zero => intro x m h; exact h m rfl
  | succ f ih =>
    intro x m h
    have h1 := ih (x + 1) m (fun z hz => h z (Or.inl hz))
    show (if ly x then srch up ly f (x + 1) (m + 2 ^ x) (srch up ly f (x + 1) m o) else srch up ly f (x + 1) m o) = o
    rw [h1]
    split
    · rename_i hl; exact ih (x + 1) (m + 2 ^ x) (fun z hz => h z (Or.inr ⟨hl, hz⟩))
    · rfl
/-- a set that goes on from m at step x -/
def Ext (x m z : Nat) : Prop := ∀ y, y < x → z / 2 ^ y % 2 = m / 2 ^ y % 2
theorem pw_bit {m x y : Nat} (hm : m < 2 ^ x) : (m + 2 ^ x) / 2 ^ y % 2 = if y = x then 1 else m / 2 ^ y % 2 := by
  have e := Nat.testBit_two_pow_add_eq m x
  by_cases hy : y = x
  · subst hy
    rw [if_pos rfl, Nat.add_div_right _ (Nat.pow_pos (by decide)), Nat.div_eq_of_lt hm]
  · rw [if_neg hy]
    rcases Nat.lt_or_gt_of_ne hy with h | h
    · obtain ⟨k, rfl⟩ : ∃ k, x = y + 1 + k := ⟨x - y - 1, by omega⟩
      rw [show 2 ^ (y + 1 + k) = 2 ^ y * (2 * 2 ^ k) by rw [Nat.pow_add, Nat.pow_succ, Nat.mul_assoc], Nat.add_mul_div_left _ _ (Nat.pow_pos (by decide)), Nat.add_mul_mod_self_left]
    · have h1 : m + 2 ^ x < 2 ^ y := by
        have : 2 ^ (x + 1) ≤ 2 ^ y := Nat.pow_le_pow_right (by decide) (by omega)
        rw [Nat.pow_succ] at this; omega
      rw [Nat.div_eq_of_lt h1, Nat.div_eq_of_lt (by omega)]
theorem cmp_all {ly : Nat → Bool} : ∀ (f x m z : Nat), m < 2 ^ x → Cmp ly f x m z → z < 2 ^ (x + f) ∧ Ext x m z ∧ (∀ k, cntN2 m k ≤ cntN2 z k) ∧ ∀ y, x ≤ y → y < x + f → z / 2 ^ y % 2 = 1 → ly y = true := by
  intro f
  induction f with
  | zero => intro x m z hm h; rw [show z = m from h]; exact ⟨hm, fun y _ => rfl, fun k => Nat.le_refl _, fun y a b => by omega⟩
  | succ f ih =>
    intro x m z hm h
    have hm2 : m < 2 ^ (x + 1) := by rw [Nat.pow_succ]; omega
    have hm3 : m + 2 ^ x < 2 ^ (x + 1) := by rw [Nat.pow_succ]; omega
    have hmx : m / 2 ^ x % 2 = 0 := by rw [Nat.div_eq_of_lt hm]
    rcases h with h | ⟨hl, h⟩
    · obtain ⟨a, b, c, d⟩ := ih (x + 1) m z hm2 h
      refine ⟨by rw [show x + (f + 1) = x + 1 + f by omega]; exact a, fun y hy => b y (by omega), c, fun y h1 h2 h3 => ?_⟩
      by_cases e : y = x
      · subst e; rw [b y (by omega), hmx] at h3; omega
      · exact d y (by omega) (by omega) h3
    · obtain ⟨a, b, c, d⟩ := ih (x + 1) (m + 2 ^ x) z hm3 h
      refine ⟨by rw [show x + (f + 1) = x + 1 + f by omega]; exact a, fun y hy => by rw [b y (by omega), pw_bit hm, if_neg (by omega)], fun k => Nat.le_trans ?_ (c k), fun y h1 h2 h3 => ?_⟩
      · induction k with
        | zero => exact Nat.le_refl _
        | succ k ihk =>
          simp only [cntN2]
          rw [pw_bit (y := k) hm]
          split
          · rename_i e; subst e; rw [hmx]; omega
          · omega
      · by_cases e : y = x
        · subst e; exact hl
        · exact d y (by omega) (by omega) h3
theorem all_cmp {ly : Nat → Bool} : ∀ (f x m z : Nat), m < 2 ^ x → z < 2 ^ (x + f) → Ext x m z → (∀ y, x ≤ y → y < x + f → z / 2 ^ y % 2 = 1 → ly y = true) → Cmp ly f x m z := by
  intro f
  induction f with
  | zero =>
    intro x m z hm hz he _
    show z = m
    apply Nat.eq_of_testBit_eq
    intro i
    by_cases hi : i < x
    · rw [bitS, bitS, he i hi]
    · rw [Nat.testBit_lt_two_pow (Nat.lt_of_lt_of_le hz (Nat.pow_le_pow_right (by decide) (by omega))), Nat.testBit_lt_two_pow (Nat.lt_of_lt_of_le hm (Nat.pow_le_pow_right (by decide) (by omega)))]
  | succ f ih =>
    intro x m z hm hz he hl
    have hm2 : m < 2 ^ (x + 1) := by rw [Nat.pow_succ]; omega
    have hm3 : m + 2 ^ x < 2 ^ (x + 1) := by rw [Nat.pow_succ]; omega
    have hmx : m / 2 ^ x % 2 = 0 := by rw [Nat.div_eq_of_lt hm]
    have hz' : z < 2 ^ (x + 1 + f) := by rw [show x + 1 + f = x + (f + 1) by omega]; exact hz
    by_cases hb : z / 2 ^ x % 2 = 1
    · refine Or.inr ⟨hl x (Nat.le_refl _) (by omega) hb, ih (x + 1) (m + 2 ^ x) z hm3 hz' (fun y hy => ?_) (fun y a b => hl y (by omega) (by omega))⟩
      rw [pw_bit hm]
      by_cases e : y = x
      · subst e; rw [if_pos rfl]; exact hb
      · rw [if_neg e]; exact he y (by omega)
    · refine Or.inl (ih (x + 1) m z hm2 hz' (fun y hy => ?_) (fun y a b => hl y (by omega) (by omega)))
      by_cases e : y = x
      · subst e; rw [hmx]; omega
      · exact he y (by omega)
theorem srch_clr {ok : Nat → Bool} {ly : Nat → Bool} (hok : ∀ z, z < 4096 → ok z = true → ∀ y, y < 12 → z / 2 ^ y % 2 = 1 → ly y = true) : srch (upB ok) ly 12 0 0 none = clrF ok 4096 := by
  refine IsMin.uni (srch_min 12 0 0 (fun _ => False) none (Or.inl ⟨rfl, fun _ h => h⟩)) ((clr_min ok 4096).cg (fun z => ⟨fun h => Or.inr ⟨?_, h.2⟩, fun h => ?_⟩))
  · exact all_cmp 12 0 0 z (by decide) h.1 (fun y hy => by omega) (fun y _ hy hb => hok z h.1 h.2 y (by omega) hb)
  · rcases h with h | ⟨h1, h2⟩
    · exact absurd h id
    · exact ⟨(cmp_all 12 0 0 z (by decide) h1).1, h2⟩
