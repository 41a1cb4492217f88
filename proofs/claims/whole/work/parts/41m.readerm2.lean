/-! ===== the model's reader: factors and more ===== -/
def PoM (np o : Nat) (R : Rs) (μ : Mem) (r : Option Value) (μ' : Mem) : Prop := r = none ∧ SA μ' R.2.1 (if R.1 = true then 0 else 1) o ∧ (R.1 = true → CR μ' np R.2.2) ∧ Same (FMp np) μ μ'
def RdM (E : Ev) (s : Row) (k np : Nat) (y : MethodName) (cc : ByteArray) (nl o d : Nat) (f : Nat → PCo → Rs) : Prop := ∀ (μ : Mem) (i : Nat) (c : PCo), MK μ s np k → SA μ i 0 o → CR μ np c → c.length ≤ i → i ≤ k → AM E y cc nl none d [.ref 67] μ (fun r μ' => PoM np o (f i c) μ r μ')
theorem mst_t {a b v : Nat} (ha : a < 6) (hb : b < 3) : nI a + 8 * nI b + 32 * nI v = mst (a * 3 + b, v) := by
  unfold mst
  rw [if_pos (show (a * 3 + b, v).1 < 18 by show a * 3 + b < 18; omega)]
  show _ = nI ((a * 3 + b) / 3 + 8 * ((a * 3 + b) % 3) + 32 * v)
  rw [show (a * 3 + b) / 3 = a by omega, show (a * 3 + b) % 3 = b by omega, show (8 : Int32) * nI b = nI (8 * b) from pk_mul 8 b, show (32 : Int32) * nI v = nI (32 * v) from pk_mul 32 v, nI_add, nI_add]
theorem CR.m9 {μ : Mem} {np i : Nat} {c : PCo} {v : Int32} (h : CR μ np c) : CR (st μ 67 i v) np c := ⟨by rw [st_at, if_neg (by omega)]; exact h.1, fun j q hq => by rw [st_at, if_neg (by omega)]; exact h.2 j q hq⟩
set_option maxHeartbeats 4000000 in
set_option maxRecDepth 100000 in
theorem c_X9_factor_1 {E : Ev} {μ : Mem} (h0 : μ 67 8 = 1) : AM E yX9_factor cX9_factor 5 none 0 [.ref 67] μ (fun r μ' => r = none ∧ μ' = μ) := by
  refine am_of (own := RX9) (L := [.ref 67, .null, .null, .null, .null]) (by decide) rfl (Nat.le_of_ble_eq_true rfl) rfl (fun Γ hR => ?_)
  refine cw_aload_n (pc := 0) dX9_factor_0 rfl rfl <|
    cw_getI (q := 67) (pc := 1) dX9_factor_1 fX9_54 sh_67 (by decide) rfl <|
    ?_
  rw [h0]
  refine cw_if_eq_F (tgt := 8) (pc := 4) dX9_factor_4 (by decide) (by decide) <|
    cw_vret (pc := 7) dX9_factor_7 hR <|
    ⟨rfl, rfl⟩
set_option maxHeartbeats 4000000 in
set_option maxRecDepth 100000 in
theorem c_X9_every_1 {E : Ev} {μ : Mem} (h0 : μ 67 8 = 1) : AM E yX9_every cX9_every 1 none 1 [.ref 67] μ (fun r μ' => r = none ∧ μ' = μ) := by
  refine am_of (own := RX9) (L := [.ref 67]) (by decide) rfl (Nat.le_of_ble_eq_true rfl) rfl (fun Γ hR => ?_)
  refine cw_aload_n (pc := 0) dX9_every_0 rfl rfl <|
    cw_invV (q := 67) (pc := 1) dX9_every_1 (c_X9_factor_1 h0) rfl vX9_81 sh_67 (by decide) rfl rfl rfl (by decide) <|
    cw_aload_n (pc := 4) dX9_every_4 rfl rfl <|
    cw_getI (q := 67) (pc := 5) dX9_every_5 fX9_54 sh_67 (by decide) rfl <|
    ?_
  rw [h0]
  refine cw_if_ne_T (tgt := 43) (pc := 8) dX9_every_8 (by decide) (by decide) <|
    cw_vret (pc := 43) dX9_every_43 hR <|
    ⟨rfl, rfl⟩
set_option maxHeartbeats 4000000 in
set_option maxRecDepth 100000 in
theorem c_X9_some_1 {E : Ev} {μ : Mem} (h0 : μ 67 8 = 1) : AM E yX9_some cX9_some 1 none 2 [.ref 67] μ (fun r μ' => r = none ∧ μ' = μ) := by
  refine am_of (own := RX9) (L := [.ref 67]) (by decide) rfl (Nat.le_of_ble_eq_true rfl) rfl (fun Γ hR => ?_)
  refine cw_aload_n (pc := 0) dX9_some_0 rfl rfl <|
    cw_invV (q := 67) (pc := 1) dX9_some_1 (c_X9_every_1 h0) rfl vX9_101 sh_67 (by decide) rfl rfl rfl (by decide) <|
    cw_aload_n (pc := 4) dX9_some_4 rfl rfl <|
    cw_getI (q := 67) (pc := 5) dX9_some_5 fX9_54 sh_67 (by decide) rfl <|
    ?_
  rw [h0]
  refine cw_if_ne_T (tgt := 43) (pc := 8) dX9_some_8 (by decide) (by decide) <|
    cw_vret (pc := 43) dX9_some_43 hR <|
    ⟨rfl, rfl⟩
set_option maxHeartbeats 4000000 in
set_option maxRecDepth 100000 in
theorem c_X9_factor_t {E : Ev} {μ : Mem} {s : Row} {k np : Nat} (hk : s 37 = nI k) (h100 : k ≤ 100) (hnp : np < 5) (hm : MK μ s np k) {i o : Nat} (ha : SA μ i 0 o) {c : PCo} (hc : CR μ np c) (hci : c.length ≤ i) (hik : i ≤ k) {d : Nat} (hd : 4 < d) (h1 : ¬ nxT s i = 33) (h2 : ¬ nxT s i = 40) : AM E yX9_factor cX9_factor 5 none d [.ref 67] μ (fun r μ' => PoM np o (tesT (nxT s) i c) μ r μ') := by
  refine am_of (own := RX9) (L := [.ref 67, .null, .null, .null, .null]) (by decide) rfl (Nat.le_of_ble_eq_true rfl) rfl (fun Γ hR => ?_)
  cases ha1 : amT (nxT s i) [112, 107, 120, 108, 102, 121] with
  | none =>
    rw [tes_0 ha1] at hR
    refine cw_aload_n (pc := 0) dX9_factor_0 rfl rfl <|
      cw_getI (q := 67) (pc := 1) dX9_factor_1 fX9_54 sh_67 (by decide) rfl <|
      ?_
    rw [ha.2.1]
    refine cw_if_eq_T (tgt := 8) (pc := 4) dX9_factor_4 (by decide) rfl <|
      cw_aload_n (pc := 8) dX9_factor_8 rfl rfl <|
      cw_invI (q := 67) (pc := 9) dX9_factor_9 (c_X9_here hk h100 hm ha (by omega)) rfl vX9_58 sh_67 (by decide) rfl rfl rfl (by omega) <|
      cw_istore_n (L' := [_, _, _, _, _]) (pc := 12) dX9_factor_12 rfl (by decide) rfl rfl <|
      cw_iload_n (pc := 13) dX9_factor_13 rfl rfl <|
      cw_bipush (v := 33) (pc := 14) dX9_factor_14 (by decide) <|
      cw_icmp_eq_F (tgt := 25) (pc := 16) dX9_factor_16 (by decide) h1 <|
      cw_iload_n (pc := 19) dX9_factor_19 rfl rfl <|
      cw_bipush (v := 40) (pc := 20) dX9_factor_20 (by decide) <|
      cw_icmp_ne_T (tgt := 112) (pc := 22) dX9_factor_22 (by decide) h2 <|
      cw_aload_n (pc := 112) dX9_factor_112 rfl rfl <|
      cw_ldcS (i := 3) (tx := "pkxlfy") (pc := 113) dX9_factor_113 (by decide) <|
      cw_invP (q := 67) (pc := 115) dX9_factor_115 (c_X9_among hk h100 hm ha hik (m := 3) (by decide)) rfl vX9_92 sh_67 (by decide) rfl rfl rfl (by omega) <|
      ?_
    rintro _ m1 ⟨rfl, a1, s1⟩
    rw [show amT (nxT s i) (bytS.getD 3 []) = _ from ha1] at a1 ⊢
    refine cw_istore_n (L' := [_, _, _, _, _]) (pc := 118) dX9_factor_118 rfl (by decide) rfl rfl <|
      cw_aload_n (pc := 119) dX9_factor_119 rfl rfl <|
      cw_iload_n (pc := 120) dX9_factor_120 rfl rfl <|
      cw_iconst (v := -1) (pc := 121) dX9_factor_121 (by decide) <|
      cw_icmp_ne_F (tgt := 129) (pc := 122) dX9_factor_122 (by decide) rfl <|
      cw_iconst (v := 1) (pc := 125) dX9_factor_125 (by decide) <|
      cw_goto (tgt := 130) (pc := 126) dX9_factor_126 (by decide) <|
      cw_putZ (q := 67) (pc := 130) dX9_factor_130 pX9_54 sh_67 (by decide) rfl (by decide) <|
      ?_
    have aw0 : SA (st m1 67 8 1) i 1 o := sa_w a1
    refine cw_aload_n (pc := 133) dX9_factor_133 rfl rfl <|
      cw_getI (q := 67) (pc := 134) dX9_factor_134 fX9_54 sh_67 (by decide) rfl <|
      ?_
    rw [aw0.2.1]
    refine cw_if_eq_F (tgt := 144) (pc := 137) dX9_factor_137 (by decide) (by decide) <|
      cw_iconst (v := 0) (pc := 140) dX9_factor_140 (by decide) <|
      cw_goto (tgt := 150) (pc := 141) dX9_factor_141 (by decide) <|
      cw_istore_n (L' := [_, _, _, _, _]) (pc := 150) dX9_factor_150 rfl (by decide) rfl rfl <|
      cw_aload_n (pc := 151) dX9_factor_151 rfl rfl <|
      cw_aload_n (pc := 152) dX9_factor_152 rfl rfl <|
      cw_getI (q := 67) (pc := 153) dX9_factor_153 fX9_54 sh_67 (by decide) rfl <|
      ?_
    rw [aw0.2.1]
    refine cw_if_ne_T (tgt := 164) (pc := 156) dX9_factor_156 (by decide) (by decide) <|
      cw_iconst (v := 1) (pc := 164) dX9_factor_164 (by decide) <|
      cw_goto (tgt := 169) (pc := 165) dX9_factor_165 (by decide) <|
      cw_putZ (q := 67) (pc := 169) dX9_factor_169 pX9_54 sh_67 (by decide) rfl (by decide) <|
      ?_
    have aw : SA (st (st m1 67 8 1) 67 8 1) i 1 o := sa_w aw0
    refine cw_aload_n (pc := 172) dX9_factor_172 rfl rfl <|
      cw_invP (q := 67) (pc := 173) dX9_factor_173 (c_X9_figures_1 aw) rfl vX9_98 sh_67 (by decide) rfl rfl rfl (by omega) <|
      ?_
    rintro _ m3 ⟨rfl, a3, s3⟩
    refine cw_istore (L' := [_, _, _, _, _]) (pc := 176) dX9_factor_176 (by decide) rfl rfl <|
      cw_aload_n (pc := 178) dX9_factor_178 rfl rfl <|
      cw_iload_n (pc := 179) dX9_factor_179 rfl rfl <|
      cw_bipush (v := 8) (pc := 180) dX9_factor_180 (by decide) <|
      cw_iload_n (pc := 182) dX9_factor_182 rfl rfl <|
      cw_imul (pc := 183) dX9_factor_183 <|
      cw_iadd (pc := 184) dX9_factor_184 <|
      cw_bipush (v := 32) (pc := 185) dX9_factor_185 (by decide) <|
      cw_iload (pc := 187) dX9_factor_187 rfl <|
      cw_imul (pc := 189) dX9_factor_189 <|
      cw_iadd (pc := 190) dX9_factor_190 <|
      cw_invV (q := 67) (pc := 191) dX9_factor_191 (c_X9_emits_1 a3.2.1) rfl vX9_84 sh_67 (by decide) rfl rfl rfl (by omega) <|
      cw_vret (pc := 194) dX9_factor_194 hR <|
      ⟨rfl, a3, (fun q => by cases q), (((F67_M s1).s1 (F := FMp np) (Or.inl (f7 (by decide)))).s1 (F := FMp np) (Or.inl (f7 (by decide)))).tr (F67_M s3)⟩
  | some a =>
    obtain ⟨ha6, _, _⟩ := am_some ha1
    have ha6' : a < 6 := ha6
    have hk1 : i + 1 ≤ k := mem_lt (nx_end hk h100) (by decide) (am_some ha1).2.2
    cases ha2 : amT (nxT s (i + 1)) [60, 61, 62] with
    | none =>
      rw [tes_1 ha1 ha2] at hR
      refine cw_aload_n (pc := 0) dX9_factor_0 rfl rfl <|
        cw_getI (q := 67) (pc := 1) dX9_factor_1 fX9_54 sh_67 (by decide) rfl <|
        ?_
      rw [ha.2.1]
      refine cw_if_eq_T (tgt := 8) (pc := 4) dX9_factor_4 (by decide) rfl <|
        cw_aload_n (pc := 8) dX9_factor_8 rfl rfl <|
        cw_invI (q := 67) (pc := 9) dX9_factor_9 (c_X9_here hk h100 hm ha (by omega)) rfl vX9_58 sh_67 (by decide) rfl rfl rfl (by omega) <|
        cw_istore_n (L' := [_, _, _, _, _]) (pc := 12) dX9_factor_12 rfl (by decide) rfl rfl <|
        cw_iload_n (pc := 13) dX9_factor_13 rfl rfl <|
        cw_bipush (v := 33) (pc := 14) dX9_factor_14 (by decide) <|
        cw_icmp_eq_F (tgt := 25) (pc := 16) dX9_factor_16 (by decide) h1 <|
        cw_iload_n (pc := 19) dX9_factor_19 rfl rfl <|
        cw_bipush (v := 40) (pc := 20) dX9_factor_20 (by decide) <|
        cw_icmp_ne_T (tgt := 112) (pc := 22) dX9_factor_22 (by decide) h2 <|
        cw_aload_n (pc := 112) dX9_factor_112 rfl rfl <|
        cw_ldcS (i := 3) (tx := "pkxlfy") (pc := 113) dX9_factor_113 (by decide) <|
        cw_invP (q := 67) (pc := 115) dX9_factor_115 (c_X9_among hk h100 hm ha hik (m := 3) (by decide)) rfl vX9_92 sh_67 (by decide) rfl rfl rfl (by omega) <|
        ?_
      rintro _ m1 ⟨rfl, a1, s1⟩
      rw [show amT (nxT s i) (bytS.getD 3 []) = _ from ha1] at a1 ⊢
      refine cw_istore_n (L' := [_, _, _, _, _]) (pc := 118) dX9_factor_118 rfl (by decide) rfl rfl <|
        cw_aload_n (pc := 119) dX9_factor_119 rfl rfl <|
        cw_iload_n (pc := 120) dX9_factor_120 rfl rfl <|
        cw_iconst (v := -1) (pc := 121) dX9_factor_121 (by decide) <|
        cw_icmp_ne_T (tgt := 129) (pc := 122) dX9_factor_122 (by decide) (nI_ne1 (h := a) (by omega)) <|
        cw_iconst (v := 0) (pc := 129) dX9_factor_129 (by decide) <|
        cw_putZ (q := 67) (pc := 130) dX9_factor_130 pX9_54 sh_67 (by decide) rfl (by decide) <|
        ?_
      have a1w : SA (st m1 67 8 0) (i + 1) 0 o := sa_w a1
      have S1 : Same F67 μ (st m1 67 8 0) := s1.s1 (f7 (by decide))
      have hm1 := hm.mo h100 (F67_M (np := np) S1)
      refine cw_aload_n (pc := 133) dX9_factor_133 rfl rfl <|
        cw_getI (q := 67) (pc := 134) dX9_factor_134 fX9_54 sh_67 (by decide) rfl <|
        ?_
      rw [a1w.2.1]
      refine cw_if_eq_T (tgt := 144) (pc := 137) dX9_factor_137 (by decide) rfl <|
        cw_aload_n (pc := 144) dX9_factor_144 rfl rfl <|
        cw_ldcS (i := 4) (tx := "<=>") (pc := 145) dX9_factor_145 (by decide) <|
        cw_invP (q := 67) (pc := 147) dX9_factor_147 (c_X9_among hk h100 hm1 a1w hk1 (m := 4) (by decide)) rfl vX9_92 sh_67 (by decide) rfl rfl rfl (by omega) <|
        ?_
      rintro _ m2 ⟨rfl, a2, s2⟩
      rw [show amT (nxT s (i + 1)) (bytS.getD 4 []) = _ from ha2] at a2 ⊢
      refine cw_istore_n (L' := [_, _, _, _, _]) (pc := 150) dX9_factor_150 rfl (by decide) rfl rfl <|
        cw_aload_n (pc := 151) dX9_factor_151 rfl rfl <|
        cw_aload_n (pc := 152) dX9_factor_152 rfl rfl <|
        cw_getI (q := 67) (pc := 153) dX9_factor_153 fX9_54 sh_67 (by decide) rfl <|
        ?_
      rw [a2.2.1]
      refine cw_if_ne_F (tgt := 164) (pc := 156) dX9_factor_156 (by decide) rfl <|
        cw_iload_n (pc := 159) dX9_factor_159 rfl rfl <|
        cw_iconst (v := -1) (pc := 160) dX9_factor_160 (by decide) <|
        cw_icmp_ne_F (tgt := 168) (pc := 161) dX9_factor_161 (by decide) rfl <|
        cw_iconst (v := 1) (pc := 164) dX9_factor_164 (by decide) <|
        cw_goto (tgt := 169) (pc := 165) dX9_factor_165 (by decide) <|
        cw_putZ (q := 67) (pc := 169) dX9_factor_169 pX9_54 sh_67 (by decide) rfl (by decide) <|
        ?_
      have aw : SA (st m2 67 8 1) (i + 1) 1 o := sa_w a2
      refine cw_aload_n (pc := 172) dX9_factor_172 rfl rfl <|
        cw_invP (q := 67) (pc := 173) dX9_factor_173 (c_X9_figures_1 aw) rfl vX9_98 sh_67 (by decide) rfl rfl rfl (by omega) <|
        ?_
      rintro _ m3 ⟨rfl, a3, s3⟩
      refine cw_istore (L' := [_, _, _, _, _]) (pc := 176) dX9_factor_176 (by decide) rfl rfl <|
        cw_aload_n (pc := 178) dX9_factor_178 rfl rfl <|
        cw_iload_n (pc := 179) dX9_factor_179 rfl rfl <|
        cw_bipush (v := 8) (pc := 180) dX9_factor_180 (by decide) <|
        cw_iload_n (pc := 182) dX9_factor_182 rfl rfl <|
        cw_imul (pc := 183) dX9_factor_183 <|
        cw_iadd (pc := 184) dX9_factor_184 <|
        cw_bipush (v := 32) (pc := 185) dX9_factor_185 (by decide) <|
        cw_iload (pc := 187) dX9_factor_187 rfl <|
        cw_imul (pc := 189) dX9_factor_189 <|
        cw_iadd (pc := 190) dX9_factor_190 <|
        cw_invV (q := 67) (pc := 191) dX9_factor_191 (c_X9_emits_1 a3.2.1) rfl vX9_84 sh_67 (by decide) rfl rfl rfl (by omega) <|
        cw_vret (pc := 194) dX9_factor_194 hR <|
        ⟨rfl, a3, (fun q => by cases q), F67_M (((S1.tr s2).s1 (f7 (by decide))).tr s3)⟩
    | some b =>
      have hb3' : b < 3 := (am_some ha2).1
      have hk2 : i + 2 ≤ k := mem_lt (nx_end hk h100) (by decide) (am_some ha2).2.2
      have hng := num_good (nx_end hk h100) hk2
      rw [tes_2 ha1 ha2] at hR
      by_cases hn : (numT (nxT s) (i + 2)).1 = true
      · rw [if_pos hn] at hR
        refine cw_aload_n (pc := 0) dX9_factor_0 rfl rfl <|
          cw_getI (q := 67) (pc := 1) dX9_factor_1 fX9_54 sh_67 (by decide) rfl <|
          ?_
        rw [ha.2.1]
        refine cw_if_eq_T (tgt := 8) (pc := 4) dX9_factor_4 (by decide) rfl <|
          cw_aload_n (pc := 8) dX9_factor_8 rfl rfl <|
          cw_invI (q := 67) (pc := 9) dX9_factor_9 (c_X9_here hk h100 hm ha (by omega)) rfl vX9_58 sh_67 (by decide) rfl rfl rfl (by omega) <|
          cw_istore_n (L' := [_, _, _, _, _]) (pc := 12) dX9_factor_12 rfl (by decide) rfl rfl <|
          cw_iload_n (pc := 13) dX9_factor_13 rfl rfl <|
          cw_bipush (v := 33) (pc := 14) dX9_factor_14 (by decide) <|
          cw_icmp_eq_F (tgt := 25) (pc := 16) dX9_factor_16 (by decide) h1 <|
          cw_iload_n (pc := 19) dX9_factor_19 rfl rfl <|
          cw_bipush (v := 40) (pc := 20) dX9_factor_20 (by decide) <|
          cw_icmp_ne_T (tgt := 112) (pc := 22) dX9_factor_22 (by decide) h2 <|
          cw_aload_n (pc := 112) dX9_factor_112 rfl rfl <|
          cw_ldcS (i := 3) (tx := "pkxlfy") (pc := 113) dX9_factor_113 (by decide) <|
          cw_invP (q := 67) (pc := 115) dX9_factor_115 (c_X9_among hk h100 hm ha hik (m := 3) (by decide)) rfl vX9_92 sh_67 (by decide) rfl rfl rfl (by omega) <|
          ?_
        rintro _ m1 ⟨rfl, a1, s1⟩
        rw [show amT (nxT s i) (bytS.getD 3 []) = _ from ha1] at a1 ⊢
        refine cw_istore_n (L' := [_, _, _, _, _]) (pc := 118) dX9_factor_118 rfl (by decide) rfl rfl <|
          cw_aload_n (pc := 119) dX9_factor_119 rfl rfl <|
          cw_iload_n (pc := 120) dX9_factor_120 rfl rfl <|
          cw_iconst (v := -1) (pc := 121) dX9_factor_121 (by decide) <|
          cw_icmp_ne_T (tgt := 129) (pc := 122) dX9_factor_122 (by decide) (nI_ne1 (h := a) (by omega)) <|
          cw_iconst (v := 0) (pc := 129) dX9_factor_129 (by decide) <|
          cw_putZ (q := 67) (pc := 130) dX9_factor_130 pX9_54 sh_67 (by decide) rfl (by decide) <|
          ?_
        have a1w : SA (st m1 67 8 0) (i + 1) 0 o := sa_w a1
        have S1 : Same F67 μ (st m1 67 8 0) := s1.s1 (f7 (by decide))
        have hm1 := hm.mo h100 (F67_M (np := np) S1)
        refine cw_aload_n (pc := 133) dX9_factor_133 rfl rfl <|
          cw_getI (q := 67) (pc := 134) dX9_factor_134 fX9_54 sh_67 (by decide) rfl <|
          ?_
        rw [a1w.2.1]
        refine cw_if_eq_T (tgt := 144) (pc := 137) dX9_factor_137 (by decide) rfl <|
          cw_aload_n (pc := 144) dX9_factor_144 rfl rfl <|
          cw_ldcS (i := 4) (tx := "<=>") (pc := 145) dX9_factor_145 (by decide) <|
          cw_invP (q := 67) (pc := 147) dX9_factor_147 (c_X9_among hk h100 hm1 a1w hk1 (m := 4) (by decide)) rfl vX9_92 sh_67 (by decide) rfl rfl rfl (by omega) <|
          ?_
        rintro _ m2 ⟨rfl, a2, s2⟩
        rw [show amT (nxT s (i + 1)) (bytS.getD 4 []) = _ from ha2] at a2 ⊢
        refine cw_istore_n (L' := [_, _, _, _, _]) (pc := 150) dX9_factor_150 rfl (by decide) rfl rfl <|
          cw_aload_n (pc := 151) dX9_factor_151 rfl rfl <|
          cw_aload_n (pc := 152) dX9_factor_152 rfl rfl <|
          cw_getI (q := 67) (pc := 153) dX9_factor_153 fX9_54 sh_67 (by decide) rfl <|
          ?_
        rw [a2.2.1]
        refine cw_if_ne_F (tgt := 164) (pc := 156) dX9_factor_156 (by decide) rfl <|
          cw_iload_n (pc := 159) dX9_factor_159 rfl rfl <|
          cw_iconst (v := -1) (pc := 160) dX9_factor_160 (by decide) <|
          cw_icmp_ne_T (tgt := 168) (pc := 161) dX9_factor_161 (by decide) (nI_ne1 (h := b) (by omega)) <|
          cw_iconst (v := 0) (pc := 168) dX9_factor_168 (by decide) <|
          cw_putZ (q := 67) (pc := 169) dX9_factor_169 pX9_54 sh_67 (by decide) rfl (by decide) <|
          ?_
        have aw : SA (st m2 67 8 0) (i + 2) 0 o := sa_w a2
        have S2 : Same F67 μ (st m2 67 8 0) := (S1.tr s2).s1 (f7 (by decide))
        have hm2 := hm.mo h100 (F67_M (np := np) S2)
        refine cw_aload_n (pc := 172) dX9_factor_172 rfl rfl <|
          cw_invP (q := 67) (pc := 173) dX9_factor_173 (c_X9_figures_0 hk h100 hm2 aw hk2) rfl vX9_98 sh_67 (by decide) rfl rfl rfl (by omega) <|
          ?_
        rintro _ m3 ⟨rfl, a3, s3⟩
        rw [if_pos hn] at a3 ⊢
        have S3 := S2.tr s3
        refine cw_istore (L' := [_, _, _, _, _]) (pc := 176) dX9_factor_176 (by decide) rfl rfl <|
          cw_aload_n (pc := 178) dX9_factor_178 rfl rfl <|
          cw_iload_n (pc := 179) dX9_factor_179 rfl rfl <|
          cw_bipush (v := 8) (pc := 180) dX9_factor_180 (by decide) <|
          cw_iload_n (pc := 182) dX9_factor_182 rfl rfl <|
          cw_imul (pc := 183) dX9_factor_183 <|
          cw_iadd (pc := 184) dX9_factor_184 <|
          cw_bipush (v := 32) (pc := 185) dX9_factor_185 (by decide) <|
          cw_iload (pc := 187) dX9_factor_187 rfl <|
          cw_imul (pc := 189) dX9_factor_189 <|
          cw_iadd (pc := 190) dX9_factor_190 <|
          cw_invP (q := 67) (pc := 191) dX9_factor_191 (c_X9_emits_0 hnp (hm.mo h100 (F67_M (np := np) S3)) a3.2.1 (hc.m7 S3) (by omega) (q := (a * 3 + b, (numT (nxT s) (i + 2)).2.2)) (mst_t ha6' hb3')) rfl vX9_84 sh_67 (by decide) rfl rfl rfl (by omega) <|
          ?_
        rintro _ m4 ⟨rfl, c4, s4⟩
        refine cw_vret (pc := 194) dX9_factor_194 hR <|
          ⟨rfl, a3.m8 s4, fun _ => c4, (F67_M S3).tr (F68_M s4)⟩
      · rw [if_neg hn] at hR
        refine cw_aload_n (pc := 0) dX9_factor_0 rfl rfl <|
          cw_getI (q := 67) (pc := 1) dX9_factor_1 fX9_54 sh_67 (by decide) rfl <|
          ?_
        rw [ha.2.1]
        refine cw_if_eq_T (tgt := 8) (pc := 4) dX9_factor_4 (by decide) rfl <|
          cw_aload_n (pc := 8) dX9_factor_8 rfl rfl <|
          cw_invI (q := 67) (pc := 9) dX9_factor_9 (c_X9_here hk h100 hm ha (by omega)) rfl vX9_58 sh_67 (by decide) rfl rfl rfl (by omega) <|
          cw_istore_n (L' := [_, _, _, _, _]) (pc := 12) dX9_factor_12 rfl (by decide) rfl rfl <|
          cw_iload_n (pc := 13) dX9_factor_13 rfl rfl <|
          cw_bipush (v := 33) (pc := 14) dX9_factor_14 (by decide) <|
          cw_icmp_eq_F (tgt := 25) (pc := 16) dX9_factor_16 (by decide) h1 <|
          cw_iload_n (pc := 19) dX9_factor_19 rfl rfl <|
          cw_bipush (v := 40) (pc := 20) dX9_factor_20 (by decide) <|
          cw_icmp_ne_T (tgt := 112) (pc := 22) dX9_factor_22 (by decide) h2 <|
          cw_aload_n (pc := 112) dX9_factor_112 rfl rfl <|
          cw_ldcS (i := 3) (tx := "pkxlfy") (pc := 113) dX9_factor_113 (by decide) <|
          cw_invP (q := 67) (pc := 115) dX9_factor_115 (c_X9_among hk h100 hm ha hik (m := 3) (by decide)) rfl vX9_92 sh_67 (by decide) rfl rfl rfl (by omega) <|
          ?_
        rintro _ m1 ⟨rfl, a1, s1⟩
        rw [show amT (nxT s i) (bytS.getD 3 []) = _ from ha1] at a1 ⊢
        refine cw_istore_n (L' := [_, _, _, _, _]) (pc := 118) dX9_factor_118 rfl (by decide) rfl rfl <|
          cw_aload_n (pc := 119) dX9_factor_119 rfl rfl <|
          cw_iload_n (pc := 120) dX9_factor_120 rfl rfl <|
          cw_iconst (v := -1) (pc := 121) dX9_factor_121 (by decide) <|
          cw_icmp_ne_T (tgt := 129) (pc := 122) dX9_factor_122 (by decide) (nI_ne1 (h := a) (by omega)) <|
          cw_iconst (v := 0) (pc := 129) dX9_factor_129 (by decide) <|
          cw_putZ (q := 67) (pc := 130) dX9_factor_130 pX9_54 sh_67 (by decide) rfl (by decide) <|
          ?_
        have a1w : SA (st m1 67 8 0) (i + 1) 0 o := sa_w a1
        have S1 : Same F67 μ (st m1 67 8 0) := s1.s1 (f7 (by decide))
        have hm1 := hm.mo h100 (F67_M (np := np) S1)
        refine cw_aload_n (pc := 133) dX9_factor_133 rfl rfl <|
          cw_getI (q := 67) (pc := 134) dX9_factor_134 fX9_54 sh_67 (by decide) rfl <|
          ?_
        rw [a1w.2.1]
        refine cw_if_eq_T (tgt := 144) (pc := 137) dX9_factor_137 (by decide) rfl <|
          cw_aload_n (pc := 144) dX9_factor_144 rfl rfl <|
          cw_ldcS (i := 4) (tx := "<=>") (pc := 145) dX9_factor_145 (by decide) <|
          cw_invP (q := 67) (pc := 147) dX9_factor_147 (c_X9_among hk h100 hm1 a1w hk1 (m := 4) (by decide)) rfl vX9_92 sh_67 (by decide) rfl rfl rfl (by omega) <|
          ?_
        rintro _ m2 ⟨rfl, a2, s2⟩
        rw [show amT (nxT s (i + 1)) (bytS.getD 4 []) = _ from ha2] at a2 ⊢
        refine cw_istore_n (L' := [_, _, _, _, _]) (pc := 150) dX9_factor_150 rfl (by decide) rfl rfl <|
          cw_aload_n (pc := 151) dX9_factor_151 rfl rfl <|
          cw_aload_n (pc := 152) dX9_factor_152 rfl rfl <|
          cw_getI (q := 67) (pc := 153) dX9_factor_153 fX9_54 sh_67 (by decide) rfl <|
          ?_
        rw [a2.2.1]
        refine cw_if_ne_F (tgt := 164) (pc := 156) dX9_factor_156 (by decide) rfl <|
          cw_iload_n (pc := 159) dX9_factor_159 rfl rfl <|
          cw_iconst (v := -1) (pc := 160) dX9_factor_160 (by decide) <|
          cw_icmp_ne_T (tgt := 168) (pc := 161) dX9_factor_161 (by decide) (nI_ne1 (h := b) (by omega)) <|
          cw_iconst (v := 0) (pc := 168) dX9_factor_168 (by decide) <|
          cw_putZ (q := 67) (pc := 169) dX9_factor_169 pX9_54 sh_67 (by decide) rfl (by decide) <|
          ?_
        have aw : SA (st m2 67 8 0) (i + 2) 0 o := sa_w a2
        have S2 : Same F67 μ (st m2 67 8 0) := (S1.tr s2).s1 (f7 (by decide))
        have hm2 := hm.mo h100 (F67_M (np := np) S2)
        refine cw_aload_n (pc := 172) dX9_factor_172 rfl rfl <|
          cw_invP (q := 67) (pc := 173) dX9_factor_173 (c_X9_figures_0 hk h100 hm2 aw hk2) rfl vX9_98 sh_67 (by decide) rfl rfl rfl (by omega) <|
          ?_
        rintro _ m3 ⟨rfl, a3, s3⟩
        rw [if_neg hn] at a3 ⊢
        have S3 := S2.tr s3
        refine cw_istore (L' := [_, _, _, _, _]) (pc := 176) dX9_factor_176 (by decide) rfl rfl <|
          cw_aload_n (pc := 178) dX9_factor_178 rfl rfl <|
          cw_iload_n (pc := 179) dX9_factor_179 rfl rfl <|
          cw_bipush (v := 8) (pc := 180) dX9_factor_180 (by decide) <|
          cw_iload_n (pc := 182) dX9_factor_182 rfl rfl <|
          cw_imul (pc := 183) dX9_factor_183 <|
          cw_iadd (pc := 184) dX9_factor_184 <|
          cw_bipush (v := 32) (pc := 185) dX9_factor_185 (by decide) <|
          cw_iload (pc := 187) dX9_factor_187 rfl <|
          cw_imul (pc := 189) dX9_factor_189 <|
          cw_iadd (pc := 190) dX9_factor_190 <|
          cw_invV (q := 67) (pc := 191) dX9_factor_191 (c_X9_emits_1 a3.2.1) rfl vX9_84 sh_67 (by decide) rfl rfl rfl (by omega) <|
          cw_vret (pc := 194) dX9_factor_194 hR <|
          ⟨rfl, a3, (fun q => by cases q), F67_M S3⟩
set_option maxHeartbeats 4000000 in
set_option maxRecDepth 100000 in
theorem c_X9_factor_0 {E : Ev} {μ : Mem} {s : Row} {k np : Nat} (hk : s 37 = nI k) (h100 : k ≤ 100) (hnp : np < 5) (hm : MK μ s np k) {i o : Nat} (ha : SA μ i 0 o) {c : PCo} (hc : CR μ np c) (hci : c.length ≤ i) (hik : i ≤ k) (ho : o = 5) (h : nxT s i = 33 ∨ nxT s i = 40) : AM E yX9_factor cX9_factor 5 none 5 [.ref 67] μ (fun r μ' => PoM np o ((false, i, c) : Rs) μ r μ') := by
  refine am_of (own := RX9) (L := [.ref 67, .null, .null, .null, .null]) (by decide) rfl (Nat.le_of_ble_eq_true rfl) rfl (fun Γ hR => ?_)
  subst ho
  by_cases h1 : nxT s i = 33
  · refine cw_aload_n (pc := 0) dX9_factor_0 rfl rfl <|
      cw_getI (q := 67) (pc := 1) dX9_factor_1 fX9_54 sh_67 (by decide) rfl <|
      ?_
    rw [ha.2.1]
    refine cw_if_eq_T (tgt := 8) (pc := 4) dX9_factor_4 (by decide) rfl <|
      cw_aload_n (pc := 8) dX9_factor_8 rfl rfl <|
      cw_invI (q := 67) (pc := 9) dX9_factor_9 (c_X9_here hk h100 hm ha (by omega)) rfl vX9_58 sh_67 (by decide) rfl rfl rfl (by decide) <|
      cw_istore_n (L' := [_, _, _, _, _]) (pc := 12) dX9_factor_12 rfl (by decide) rfl rfl <|
      cw_iload_n (pc := 13) dX9_factor_13 rfl rfl <|
      cw_bipush (v := 33) (pc := 14) dX9_factor_14 (by decide) <|
      cw_icmp_eq_T (tgt := 25) (pc := 16) dX9_factor_16 (by decide) h1 <|
      cw_aload_n (pc := 25) dX9_factor_25 rfl rfl <|
      cw_aload_n (pc := 26) dX9_factor_26 rfl rfl <|
      cw_getI (q := 67) (pc := 27) dX9_factor_27 fX9_78 sh_67 (by decide) rfl <|
      ?_
    rw [ha.2.2]
    refine cw_iconst (v := 5) (pc := 30) dX9_factor_30 (by decide) <|
      cw_icmp_ne_F (tgt := 38) (pc := 31) dX9_factor_31 (by decide) rfl <|
      cw_iconst (v := 1) (pc := 34) dX9_factor_34 (by decide) <|
      cw_goto (tgt := 39) (pc := 35) dX9_factor_35 (by decide) <|
      cw_putZ (q := 67) (pc := 39) dX9_factor_39 pX9_54 sh_67 (by decide) rfl (by decide) <|
      ?_
    have b0 : SA (st μ 67 8 1) i 1 5 := sa_w ha
    refine cw_aload_n (pc := 42) dX9_factor_42 rfl rfl <|
      cw_dup (pc := 43) dX9_factor_43 rfl <|
      cw_getI (q := 67) (pc := 44) dX9_factor_44 fX9_78 sh_67 (by decide) rfl <|
      ?_
    rw [b0.2.2]
    refine cw_iconst (v := 1) (pc := 47) dX9_factor_47 (by decide) <|
      cw_iadd (pc := 48) dX9_factor_48 <|
      ?_
    rw [nI_1 5]
    refine cw_putI (q := 67) (pc := 49) dX9_factor_49 pX9_78 sh_67 (by decide) rfl <|
      ?_
    have b1 : SA (st (st μ 67 8 1) 67 9 (nI (5 + 1))) i 1 (5 + 1) := sa_o b0
    refine cw_aload_n (pc := 52) dX9_factor_52 rfl rfl <|
      cw_dup (pc := 53) dX9_factor_53 rfl <|
      cw_getI (q := 67) (pc := 54) dX9_factor_54 fX9_48 sh_67 (by decide) rfl <|
      ?_
    rw [b1.1]
    refine cw_aload_n (pc := 57) dX9_factor_57 rfl rfl <|
      cw_getI (q := 67) (pc := 58) dX9_factor_58 fX9_54 sh_67 (by decide) rfl <|
      ?_
    rw [b1.2.1]
    refine cw_if_eq_F (tgt := 68) (pc := 61) dX9_factor_61 (by decide) (by decide) <|
      cw_iconst (v := 0) (pc := 64) dX9_factor_64 (by decide) <|
      cw_goto (tgt := 69) (pc := 65) dX9_factor_65 (by decide) <|
      cw_iadd (pc := 69) dX9_factor_69 <|
      ?_
    rw [nI_add0 i]
    refine cw_putI (q := 67) (pc := 70) dX9_factor_70 pX9_48 sh_67 (by decide) rfl <|
      ?_
    have b2 : SA (st (st (st μ 67 8 1) 67 9 (nI (5 + 1))) 67 6 (nI i)) i 1 (5 + 1) := sa_s b1
    have S0 : Same F67 μ (st (st (st μ 67 8 1) 67 9 (nI (5 + 1))) 67 6 (nI i)) := ((Same.rf.s1 (f7 (by decide))).s1 (f7 (by decide))).s1 (f7 (by decide))
    have hm0 := hm.mo h100 (F67_M (np := np) S0)
    have hc0 := hc.m7 S0
    generalize (st (st (st μ 67 8 1) 67 9 (nI (5 + 1))) 67 6 (nI i)) = m0 at b2 S0 hm0 hc0 ⊢
    refine cw_iload_n (pc := 73) dX9_factor_73 rfl rfl <|
      cw_bipush (v := 33) (pc := 74) dX9_factor_74 (by decide) <|
      cw_icmp_ne_F (tgt := 91) (pc := 76) dX9_factor_76 (by decide) h1 <|
      cw_aload_n (pc := 79) dX9_factor_79 rfl rfl <|
      cw_invV (q := 67) (pc := 80) dX9_factor_80 (c_X9_factor_1 b2.2.1) rfl vX9_81 sh_67 (by decide) rfl rfl rfl (by decide) <|
      cw_aload_n (pc := 83) dX9_factor_83 rfl rfl <|
      cw_iconst (v := -1) (pc := 84) dX9_factor_84 (by decide) <|
      cw_invV (q := 67) (pc := 85) dX9_factor_85 (c_X9_emits_1 b2.2.1) rfl vX9_84 sh_67 (by decide) rfl rfl rfl (by decide) <|
      cw_goto (tgt := 101) (pc := 88) dX9_factor_88 (by decide) <|
      cw_aload_n (pc := 101) dX9_factor_101 rfl rfl <|
      cw_dup (pc := 102) dX9_factor_102 rfl <|
      cw_getI (q := 67) (pc := 103) dX9_factor_103 fX9_78 sh_67 (by decide) rfl <|
      ?_
    rw [b2.2.2]
    refine cw_iconst (v := 1) (pc := 106) dX9_factor_106 (by decide) <|
      cw_isub (pc := 107) dX9_factor_107 <|
      ?_
    rw [nI_pred 5]
    refine cw_putI (q := 67) (pc := 108) dX9_factor_108 pX9_78 sh_67 (by decide) rfl <|
      cw_vret (pc := 111) dX9_factor_111 hR <|
      ⟨rfl, sa_o b2, (fun q => by cases q), F67_M (S0.s1 (f7 (by decide)))⟩
  · refine cw_aload_n (pc := 0) dX9_factor_0 rfl rfl <|
      cw_getI (q := 67) (pc := 1) dX9_factor_1 fX9_54 sh_67 (by decide) rfl <|
      ?_
    rw [ha.2.1]
    refine cw_if_eq_T (tgt := 8) (pc := 4) dX9_factor_4 (by decide) rfl <|
      cw_aload_n (pc := 8) dX9_factor_8 rfl rfl <|
      cw_invI (q := 67) (pc := 9) dX9_factor_9 (c_X9_here hk h100 hm ha (by omega)) rfl vX9_58 sh_67 (by decide) rfl rfl rfl (by decide) <|
      cw_istore_n (L' := [_, _, _, _, _]) (pc := 12) dX9_factor_12 rfl (by decide) rfl rfl <|
      cw_iload_n (pc := 13) dX9_factor_13 rfl rfl <|
      cw_bipush (v := 33) (pc := 14) dX9_factor_14 (by decide) <|
      cw_icmp_eq_F (tgt := 25) (pc := 16) dX9_factor_16 (by decide) h1 <|
      cw_iload_n (pc := 19) dX9_factor_19 rfl rfl <|
      cw_bipush (v := 40) (pc := 20) dX9_factor_20 (by decide) <|
      cw_icmp_ne_F (tgt := 112) (pc := 22) dX9_factor_22 (by decide) (h.resolve_left h1) <|
      cw_aload_n (pc := 25) dX9_factor_25 rfl rfl <|
      cw_aload_n (pc := 26) dX9_factor_26 rfl rfl <|
      cw_getI (q := 67) (pc := 27) dX9_factor_27 fX9_78 sh_67 (by decide) rfl <|
      ?_
    rw [ha.2.2]
    refine cw_iconst (v := 5) (pc := 30) dX9_factor_30 (by decide) <|
      cw_icmp_ne_F (tgt := 38) (pc := 31) dX9_factor_31 (by decide) rfl <|
      cw_iconst (v := 1) (pc := 34) dX9_factor_34 (by decide) <|
      cw_goto (tgt := 39) (pc := 35) dX9_factor_35 (by decide) <|
      cw_putZ (q := 67) (pc := 39) dX9_factor_39 pX9_54 sh_67 (by decide) rfl (by decide) <|
      ?_
    have b0 : SA (st μ 67 8 1) i 1 5 := sa_w ha
    refine cw_aload_n (pc := 42) dX9_factor_42 rfl rfl <|
      cw_dup (pc := 43) dX9_factor_43 rfl <|
      cw_getI (q := 67) (pc := 44) dX9_factor_44 fX9_78 sh_67 (by decide) rfl <|
      ?_
    rw [b0.2.2]
    refine cw_iconst (v := 1) (pc := 47) dX9_factor_47 (by decide) <|
      cw_iadd (pc := 48) dX9_factor_48 <|
      ?_
    rw [nI_1 5]
    refine cw_putI (q := 67) (pc := 49) dX9_factor_49 pX9_78 sh_67 (by decide) rfl <|
      ?_
    have b1 : SA (st (st μ 67 8 1) 67 9 (nI (5 + 1))) i 1 (5 + 1) := sa_o b0
    refine cw_aload_n (pc := 52) dX9_factor_52 rfl rfl <|
      cw_dup (pc := 53) dX9_factor_53 rfl <|
      cw_getI (q := 67) (pc := 54) dX9_factor_54 fX9_48 sh_67 (by decide) rfl <|
      ?_
    rw [b1.1]
    refine cw_aload_n (pc := 57) dX9_factor_57 rfl rfl <|
      cw_getI (q := 67) (pc := 58) dX9_factor_58 fX9_54 sh_67 (by decide) rfl <|
      ?_
    rw [b1.2.1]
    refine cw_if_eq_F (tgt := 68) (pc := 61) dX9_factor_61 (by decide) (by decide) <|
      cw_iconst (v := 0) (pc := 64) dX9_factor_64 (by decide) <|
      cw_goto (tgt := 69) (pc := 65) dX9_factor_65 (by decide) <|
      cw_iadd (pc := 69) dX9_factor_69 <|
      ?_
    rw [nI_add0 i]
    refine cw_putI (q := 67) (pc := 70) dX9_factor_70 pX9_48 sh_67 (by decide) rfl <|
      ?_
    have b2 : SA (st (st (st μ 67 8 1) 67 9 (nI (5 + 1))) 67 6 (nI i)) i 1 (5 + 1) := sa_s b1
    have S0 : Same F67 μ (st (st (st μ 67 8 1) 67 9 (nI (5 + 1))) 67 6 (nI i)) := ((Same.rf.s1 (f7 (by decide))).s1 (f7 (by decide))).s1 (f7 (by decide))
    have hm0 := hm.mo h100 (F67_M (np := np) S0)
    have hc0 := hc.m7 S0
    generalize (st (st (st μ 67 8 1) 67 9 (nI (5 + 1))) 67 6 (nI i)) = m0 at b2 S0 hm0 hc0 ⊢
    refine cw_iload_n (pc := 73) dX9_factor_73 rfl rfl <|
      cw_bipush (v := 33) (pc := 74) dX9_factor_74 (by decide) <|
      cw_icmp_ne_T (tgt := 91) (pc := 76) dX9_factor_76 (by decide) h1 <|
      cw_aload_n (pc := 91) dX9_factor_91 rfl rfl <|
      cw_invV (q := 67) (pc := 92) dX9_factor_92 (c_X9_some_1 b2.2.1) rfl vX9_87 sh_67 (by decide) rfl rfl rfl (by decide) <|
      cw_aload_n (pc := 95) dX9_factor_95 rfl rfl <|
      cw_bipush (v := 41) (pc := 96) dX9_factor_96 (by decide) <|
      cw_invP (q := 67) (pc := 98) dX9_factor_98 (c_X9_must_1 b2) rfl vX9_71 sh_67 (by decide) rfl rfl rfl (by decide) <|
      ?_
    rintro _ m1 ⟨rfl, a1, s1⟩
    refine cw_aload_n (pc := 101) dX9_factor_101 rfl rfl <|
      cw_dup (pc := 102) dX9_factor_102 rfl <|
      cw_getI (q := 67) (pc := 103) dX9_factor_103 fX9_78 sh_67 (by decide) rfl <|
      ?_
    rw [a1.2.2]
    refine cw_iconst (v := 1) (pc := 106) dX9_factor_106 (by decide) <|
      cw_isub (pc := 107) dX9_factor_107 <|
      ?_
    rw [nI_pred 5]
    refine cw_putI (q := 67) (pc := 108) dX9_factor_108 pX9_78 sh_67 (by decide) rfl <|
      cw_vret (pc := 111) dX9_factor_111 hR <|
      ⟨rfl, sa_o a1, (fun q => by cases q), F67_M ((S0.tr s1).s1 (f7 (by decide)))⟩
set_option maxHeartbeats 4000000 in
set_option maxRecDepth 100000 in
theorem c_X9_factor_n {E : Ev} {μ : Mem} {s : Row} {k np : Nat} (hk : s 37 = nI k) (h100 : k ≤ 100) (hnp : np < 5) (hm : MK μ s np k) {i o : Nat} (ha : SA μ i 0 o) {c : PCo} (hc : CR μ np c) (hci : c.length ≤ i) (hik : i ≤ k) {f : Nat → PCo → Rs} {mm dd d : Nat} (ho : o < 5) (h1 : nxT s i = 33) (hfg : GoodF k mm f) (hd : dd < d) (hf : RdM E s k np yX9_factor cX9_factor 5 (o + 1) dd f) : AM E yX9_factor cX9_factor 5 none d [.ref 67] μ (fun r μ' => PoM np o (if (f (i + 1) c).1 = true then (true, (f (i + 1) c).2.1, (f (i + 1) c).2.2 ++ [(18, 0)]) else f (i + 1) c : Rs) μ r μ') := by
  refine am_of (own := RX9) (L := [.ref 67, .null, .null, .null, .null]) (by decide) rfl (Nat.le_of_ble_eq_true rfl) rfl (fun Γ hR => ?_)
  have hlt : i < k := lt_k hk h100 (by decide) h1
  have hgd := hfg (i + 1) c hlt
  obtain ⟨r1, r2, r3⟩ := neg_R (f (i + 1) c)
  generalize (if (f (i + 1) c).1 = true then (true, (f (i + 1) c).2.1, (f (i + 1) c).2.2 ++ [(18, 0)]) else f (i + 1) c : Rs) = R at r1 r2 r3 hR
  by_cases hs : (f (i + 1) c).1 = true
  · obtain ⟨e, ee, el, _⟩ := hgd.2.2 hs
    have hp := hgd.2.1
    refine cw_aload_n (pc := 0) dX9_factor_0 rfl rfl <|
      cw_getI (q := 67) (pc := 1) dX9_factor_1 fX9_54 sh_67 (by decide) rfl <|
      ?_
    rw [ha.2.1]
    refine cw_if_eq_T (tgt := 8) (pc := 4) dX9_factor_4 (by decide) rfl <|
      cw_aload_n (pc := 8) dX9_factor_8 rfl rfl <|
      cw_invI (q := 67) (pc := 9) dX9_factor_9 (c_X9_here hk h100 hm ha (by omega)) rfl vX9_58 sh_67 (by decide) rfl rfl rfl (by omega) <|
      cw_istore_n (L' := [_, _, _, _, _]) (pc := 12) dX9_factor_12 rfl (by decide) rfl rfl <|
      cw_iload_n (pc := 13) dX9_factor_13 rfl rfl <|
      cw_bipush (v := 33) (pc := 14) dX9_factor_14 (by decide) <|
      cw_icmp_eq_T (tgt := 25) (pc := 16) dX9_factor_16 (by decide) h1 <|
      cw_aload_n (pc := 25) dX9_factor_25 rfl rfl <|
      cw_aload_n (pc := 26) dX9_factor_26 rfl rfl <|
      cw_getI (q := 67) (pc := 27) dX9_factor_27 fX9_78 sh_67 (by decide) rfl <|
      ?_
    rw [ha.2.2]
    refine cw_iconst (v := 5) (pc := 30) dX9_factor_30 (by decide) <|
      cw_icmp_ne_T (tgt := 38) (pc := 31) dX9_factor_31 (by decide) (fun q => absurd ((nI_eq (b := 5) (by omega) (by decide)).mp q) (by omega)) <|
      cw_iconst (v := 0) (pc := 38) dX9_factor_38 (by decide) <|
      cw_putZ (q := 67) (pc := 39) dX9_factor_39 pX9_54 sh_67 (by decide) rfl (by decide) <|
      ?_
    have b0 : SA (st μ 67 8 0) i 0 o := sa_w ha
    refine cw_aload_n (pc := 42) dX9_factor_42 rfl rfl <|
      cw_dup (pc := 43) dX9_factor_43 rfl <|
      cw_getI (q := 67) (pc := 44) dX9_factor_44 fX9_78 sh_67 (by decide) rfl <|
      ?_
    rw [b0.2.2]
    refine cw_iconst (v := 1) (pc := 47) dX9_factor_47 (by decide) <|
      cw_iadd (pc := 48) dX9_factor_48 <|
      ?_
    rw [nI_1 o]
    refine cw_putI (q := 67) (pc := 49) dX9_factor_49 pX9_78 sh_67 (by decide) rfl <|
      ?_
    have b1 : SA (st (st μ 67 8 0) 67 9 (nI (o + 1))) i 0 (o + 1) := sa_o b0
    refine cw_aload_n (pc := 52) dX9_factor_52 rfl rfl <|
      cw_dup (pc := 53) dX9_factor_53 rfl <|
      cw_getI (q := 67) (pc := 54) dX9_factor_54 fX9_48 sh_67 (by decide) rfl <|
      ?_
    rw [b1.1]
    refine cw_aload_n (pc := 57) dX9_factor_57 rfl rfl <|
      cw_getI (q := 67) (pc := 58) dX9_factor_58 fX9_54 sh_67 (by decide) rfl <|
      ?_
    rw [b1.2.1]
    refine cw_if_eq_T (tgt := 68) (pc := 61) dX9_factor_61 (by decide) rfl <|
      cw_iconst (v := 1) (pc := 68) dX9_factor_68 (by decide) <|
      cw_iadd (pc := 69) dX9_factor_69 <|
      ?_
    rw [nI_1 i]
    refine cw_putI (q := 67) (pc := 70) dX9_factor_70 pX9_48 sh_67 (by decide) rfl <|
      ?_
    have b2 : SA (st (st (st μ 67 8 0) 67 9 (nI (o + 1))) 67 6 (nI (i + 1))) (i + 1) 0 (o + 1) := sa_s b1
    have S0 : Same F67 μ (st (st (st μ 67 8 0) 67 9 (nI (o + 1))) 67 6 (nI (i + 1))) := ((Same.rf.s1 (f7 (by decide))).s1 (f7 (by decide))).s1 (f7 (by decide))
    have hm0 := hm.mo h100 (F67_M (np := np) S0)
    have hc0 := hc.m7 S0
    generalize (st (st (st μ 67 8 0) 67 9 (nI (o + 1))) 67 6 (nI (i + 1))) = m0 at b2 S0 hm0 hc0 ⊢
    refine cw_iload_n (pc := 73) dX9_factor_73 rfl rfl <|
      cw_bipush (v := 33) (pc := 74) dX9_factor_74 (by decide) <|
      cw_icmp_ne_F (tgt := 91) (pc := 76) dX9_factor_76 (by decide) h1 <|
      cw_aload_n (pc := 79) dX9_factor_79 rfl rfl <|
      cw_invP (q := 67) (pc := 80) dX9_factor_80 (hf m0 (i + 1) c hm0 b2 hc0 (by omega) hlt) rfl vX9_81 sh_67 (by decide) rfl rfl rfl (by omega) <|
      ?_
    rintro _ m2 ⟨rfl, a2, c2, s2⟩
    rw [if_pos hs] at a2
    have S2 := (F67_M (np := np) S0).tr s2
    refine cw_aload_n (pc := 83) dX9_factor_83 rfl rfl <|
      cw_iconst (v := -1) (pc := 84) dX9_factor_84 (by decide) <|
      cw_invP (q := 67) (pc := 85) dX9_factor_85 (c_X9_emits_0 hnp (hm.mo h100 S2) a2.2.1 (c2 hs) (by rw [ee, List.length_append]; omega) (q := (18, 0)) rfl) rfl vX9_84 sh_67 (by decide) rfl rfl rfl (by omega) <|
      ?_
    rintro _ m3 ⟨rfl, c3, s3⟩
    have a3 := a2.m8 s3
    refine cw_goto (tgt := 101) (pc := 88) dX9_factor_88 (by decide) <|
      cw_aload_n (pc := 101) dX9_factor_101 rfl rfl <|
      cw_dup (pc := 102) dX9_factor_102 rfl <|
      cw_getI (q := 67) (pc := 103) dX9_factor_103 fX9_78 sh_67 (by decide) rfl <|
      ?_
    rw [a3.2.2]
    refine cw_iconst (v := 1) (pc := 106) dX9_factor_106 (by decide) <|
      cw_isub (pc := 107) dX9_factor_107 <|
      ?_
    rw [nI_pred o]
    refine cw_putI (q := 67) (pc := 108) dX9_factor_108 pX9_78 sh_67 (by decide) rfl <|
      cw_vret (pc := 111) dX9_factor_111 hR <|
      ⟨rfl, by rw [r1, r2, if_pos hs]; exact sa_o a3, fun _ => by rw [r3 hs]; exact c3.m9, (S2.tr (F68_M s3)).s1 (Or.inl (f7 (by decide)))⟩
  · refine cw_aload_n (pc := 0) dX9_factor_0 rfl rfl <|
      cw_getI (q := 67) (pc := 1) dX9_factor_1 fX9_54 sh_67 (by decide) rfl <|
      ?_
    rw [ha.2.1]
    refine cw_if_eq_T (tgt := 8) (pc := 4) dX9_factor_4 (by decide) rfl <|
      cw_aload_n (pc := 8) dX9_factor_8 rfl rfl <|
      cw_invI (q := 67) (pc := 9) dX9_factor_9 (c_X9_here hk h100 hm ha (by omega)) rfl vX9_58 sh_67 (by decide) rfl rfl rfl (by omega) <|
      cw_istore_n (L' := [_, _, _, _, _]) (pc := 12) dX9_factor_12 rfl (by decide) rfl rfl <|
      cw_iload_n (pc := 13) dX9_factor_13 rfl rfl <|
      cw_bipush (v := 33) (pc := 14) dX9_factor_14 (by decide) <|
      cw_icmp_eq_T (tgt := 25) (pc := 16) dX9_factor_16 (by decide) h1 <|
      cw_aload_n (pc := 25) dX9_factor_25 rfl rfl <|
      cw_aload_n (pc := 26) dX9_factor_26 rfl rfl <|
      cw_getI (q := 67) (pc := 27) dX9_factor_27 fX9_78 sh_67 (by decide) rfl <|
      ?_
    rw [ha.2.2]
    refine cw_iconst (v := 5) (pc := 30) dX9_factor_30 (by decide) <|
      cw_icmp_ne_T (tgt := 38) (pc := 31) dX9_factor_31 (by decide) (fun q => absurd ((nI_eq (b := 5) (by omega) (by decide)).mp q) (by omega)) <|
      cw_iconst (v := 0) (pc := 38) dX9_factor_38 (by decide) <|
      cw_putZ (q := 67) (pc := 39) dX9_factor_39 pX9_54 sh_67 (by decide) rfl (by decide) <|
      ?_
    have b0 : SA (st μ 67 8 0) i 0 o := sa_w ha
    refine cw_aload_n (pc := 42) dX9_factor_42 rfl rfl <|
      cw_dup (pc := 43) dX9_factor_43 rfl <|
      cw_getI (q := 67) (pc := 44) dX9_factor_44 fX9_78 sh_67 (by decide) rfl <|
      ?_
    rw [b0.2.2]
    refine cw_iconst (v := 1) (pc := 47) dX9_factor_47 (by decide) <|
      cw_iadd (pc := 48) dX9_factor_48 <|
      ?_
    rw [nI_1 o]
    refine cw_putI (q := 67) (pc := 49) dX9_factor_49 pX9_78 sh_67 (by decide) rfl <|
      ?_
    have b1 : SA (st (st μ 67 8 0) 67 9 (nI (o + 1))) i 0 (o + 1) := sa_o b0
    refine cw_aload_n (pc := 52) dX9_factor_52 rfl rfl <|
      cw_dup (pc := 53) dX9_factor_53 rfl <|
      cw_getI (q := 67) (pc := 54) dX9_factor_54 fX9_48 sh_67 (by decide) rfl <|
      ?_
    rw [b1.1]
    refine cw_aload_n (pc := 57) dX9_factor_57 rfl rfl <|
      cw_getI (q := 67) (pc := 58) dX9_factor_58 fX9_54 sh_67 (by decide) rfl <|
      ?_
    rw [b1.2.1]
    refine cw_if_eq_T (tgt := 68) (pc := 61) dX9_factor_61 (by decide) rfl <|
      cw_iconst (v := 1) (pc := 68) dX9_factor_68 (by decide) <|
      cw_iadd (pc := 69) dX9_factor_69 <|
      ?_
    rw [nI_1 i]
    refine cw_putI (q := 67) (pc := 70) dX9_factor_70 pX9_48 sh_67 (by decide) rfl <|
      ?_
    have b2 : SA (st (st (st μ 67 8 0) 67 9 (nI (o + 1))) 67 6 (nI (i + 1))) (i + 1) 0 (o + 1) := sa_s b1
    have S0 : Same F67 μ (st (st (st μ 67 8 0) 67 9 (nI (o + 1))) 67 6 (nI (i + 1))) := ((Same.rf.s1 (f7 (by decide))).s1 (f7 (by decide))).s1 (f7 (by decide))
    have hm0 := hm.mo h100 (F67_M (np := np) S0)
    have hc0 := hc.m7 S0
    generalize (st (st (st μ 67 8 0) 67 9 (nI (o + 1))) 67 6 (nI (i + 1))) = m0 at b2 S0 hm0 hc0 ⊢
    refine cw_iload_n (pc := 73) dX9_factor_73 rfl rfl <|
      cw_bipush (v := 33) (pc := 74) dX9_factor_74 (by decide) <|
      cw_icmp_ne_F (tgt := 91) (pc := 76) dX9_factor_76 (by decide) h1 <|
      cw_aload_n (pc := 79) dX9_factor_79 rfl rfl <|
      cw_invP (q := 67) (pc := 80) dX9_factor_80 (hf m0 (i + 1) c hm0 b2 hc0 (by omega) hlt) rfl vX9_81 sh_67 (by decide) rfl rfl rfl (by omega) <|
      ?_
    rintro _ m2 ⟨rfl, a2, c2, s2⟩
    rw [if_neg hs] at a2
    have S2 := (F67_M (np := np) S0).tr s2
    refine cw_aload_n (pc := 83) dX9_factor_83 rfl rfl <|
      cw_iconst (v := -1) (pc := 84) dX9_factor_84 (by decide) <|
      cw_invV (q := 67) (pc := 85) dX9_factor_85 (c_X9_emits_1 a2.2.1) rfl vX9_84 sh_67 (by decide) rfl rfl rfl (by omega) <|
      cw_goto (tgt := 101) (pc := 88) dX9_factor_88 (by decide) <|
      cw_aload_n (pc := 101) dX9_factor_101 rfl rfl <|
      cw_dup (pc := 102) dX9_factor_102 rfl <|
      cw_getI (q := 67) (pc := 103) dX9_factor_103 fX9_78 sh_67 (by decide) rfl <|
      ?_
    rw [a2.2.2]
    refine cw_iconst (v := 1) (pc := 106) dX9_factor_106 (by decide) <|
      cw_isub (pc := 107) dX9_factor_107 <|
      ?_
    rw [nI_pred o]
    refine cw_putI (q := 67) (pc := 108) dX9_factor_108 pX9_78 sh_67 (by decide) rfl <|
      cw_vret (pc := 111) dX9_factor_111 hR <|
      ⟨rfl, by rw [r1, r2, if_neg hs]; exact sa_o a2, fun q => absurd (r1 ▸ q) hs, S2.s1 (Or.inl (f7 (by decide)))⟩
set_option maxHeartbeats 4000000 in
set_option maxRecDepth 100000 in
theorem c_X9_factor_p {E : Ev} {μ : Mem} {s : Row} {k np : Nat} (hk : s 37 = nI k) (h100 : k ≤ 100) (hnp : np < 5) (hm : MK μ s np k) {i o : Nat} (ha : SA μ i 0 o) {c : PCo} (hc : CR μ np c) (hci : c.length ≤ i) (hik : i ≤ k) {g : Nat → PCo → Rs} {mm dd d : Nat} (ho : o < 5) (h2 : nxT s i = 40) (hgE : GoodF k mm g) (hd : dd < d) (hd1 : 1 < d) (hf : RdM E s k np yX9_some cX9_some 1 (o + 1) dd g) : AM E yX9_factor cX9_factor 5 none d [.ref 67] μ (fun r μ' => PoM np o (if (g (i + 1) c).1 = true then (if nxT s (g (i + 1) c).2.1 = 41 then (true, (g (i + 1) c).2.1 + 1, (g (i + 1) c).2.2) else (false, (g (i + 1) c).2.1, c)) else g (i + 1) c : Rs) μ r μ') := by
  refine am_of (own := RX9) (L := [.ref 67, .null, .null, .null, .null]) (by decide) rfl (Nat.le_of_ble_eq_true rfl) rfl (fun Γ hR => ?_)
  have hlt : i < k := lt_k hk h100 (by decide) h2
  have hgd := hgE (i + 1) c hlt
  have h1 : ¬ nxT s i = 33 := by rw [h2]; decide
  by_cases hs : (g (i + 1) c).1 = true
  · rw [if_pos hs] at hR
    by_cases h3 : nxT s (g (i + 1) c).2.1 = 41
    · rw [if_pos h3] at hR
      refine cw_aload_n (pc := 0) dX9_factor_0 rfl rfl <|
        cw_getI (q := 67) (pc := 1) dX9_factor_1 fX9_54 sh_67 (by decide) rfl <|
        ?_
      rw [ha.2.1]
      refine cw_if_eq_T (tgt := 8) (pc := 4) dX9_factor_4 (by decide) rfl <|
        cw_aload_n (pc := 8) dX9_factor_8 rfl rfl <|
        cw_invI (q := 67) (pc := 9) dX9_factor_9 (c_X9_here hk h100 hm ha (by omega)) rfl vX9_58 sh_67 (by decide) rfl rfl rfl (by omega) <|
        cw_istore_n (L' := [_, _, _, _, _]) (pc := 12) dX9_factor_12 rfl (by decide) rfl rfl <|
        cw_iload_n (pc := 13) dX9_factor_13 rfl rfl <|
        cw_bipush (v := 33) (pc := 14) dX9_factor_14 (by decide) <|
        cw_icmp_eq_F (tgt := 25) (pc := 16) dX9_factor_16 (by decide) h1 <|
        cw_iload_n (pc := 19) dX9_factor_19 rfl rfl <|
        cw_bipush (v := 40) (pc := 20) dX9_factor_20 (by decide) <|
        cw_icmp_ne_F (tgt := 112) (pc := 22) dX9_factor_22 (by decide) h2 <|
        cw_aload_n (pc := 25) dX9_factor_25 rfl rfl <|
        cw_aload_n (pc := 26) dX9_factor_26 rfl rfl <|
        cw_getI (q := 67) (pc := 27) dX9_factor_27 fX9_78 sh_67 (by decide) rfl <|
        ?_
      rw [ha.2.2]
      refine cw_iconst (v := 5) (pc := 30) dX9_factor_30 (by decide) <|
        cw_icmp_ne_T (tgt := 38) (pc := 31) dX9_factor_31 (by decide) (fun q => absurd ((nI_eq (b := 5) (by omega) (by decide)).mp q) (by omega)) <|
        cw_iconst (v := 0) (pc := 38) dX9_factor_38 (by decide) <|
        cw_putZ (q := 67) (pc := 39) dX9_factor_39 pX9_54 sh_67 (by decide) rfl (by decide) <|
        ?_
      have b0 : SA (st μ 67 8 0) i 0 o := sa_w ha
      refine cw_aload_n (pc := 42) dX9_factor_42 rfl rfl <|
        cw_dup (pc := 43) dX9_factor_43 rfl <|
        cw_getI (q := 67) (pc := 44) dX9_factor_44 fX9_78 sh_67 (by decide) rfl <|
        ?_
      rw [b0.2.2]
      refine cw_iconst (v := 1) (pc := 47) dX9_factor_47 (by decide) <|
        cw_iadd (pc := 48) dX9_factor_48 <|
        ?_
      rw [nI_1 o]
      refine cw_putI (q := 67) (pc := 49) dX9_factor_49 pX9_78 sh_67 (by decide) rfl <|
        ?_
      have b1 : SA (st (st μ 67 8 0) 67 9 (nI (o + 1))) i 0 (o + 1) := sa_o b0
      refine cw_aload_n (pc := 52) dX9_factor_52 rfl rfl <|
        cw_dup (pc := 53) dX9_factor_53 rfl <|
        cw_getI (q := 67) (pc := 54) dX9_factor_54 fX9_48 sh_67 (by decide) rfl <|
        ?_
      rw [b1.1]
      refine cw_aload_n (pc := 57) dX9_factor_57 rfl rfl <|
        cw_getI (q := 67) (pc := 58) dX9_factor_58 fX9_54 sh_67 (by decide) rfl <|
        ?_
      rw [b1.2.1]
      refine cw_if_eq_T (tgt := 68) (pc := 61) dX9_factor_61 (by decide) rfl <|
        cw_iconst (v := 1) (pc := 68) dX9_factor_68 (by decide) <|
        cw_iadd (pc := 69) dX9_factor_69 <|
        ?_
      rw [nI_1 i]
      refine cw_putI (q := 67) (pc := 70) dX9_factor_70 pX9_48 sh_67 (by decide) rfl <|
        ?_
      have b2 : SA (st (st (st μ 67 8 0) 67 9 (nI (o + 1))) 67 6 (nI (i + 1))) (i + 1) 0 (o + 1) := sa_s b1
      have S0 : Same F67 μ (st (st (st μ 67 8 0) 67 9 (nI (o + 1))) 67 6 (nI (i + 1))) := ((Same.rf.s1 (f7 (by decide))).s1 (f7 (by decide))).s1 (f7 (by decide))
      have hm0 := hm.mo h100 (F67_M (np := np) S0)
      have hc0 := hc.m7 S0
      generalize (st (st (st μ 67 8 0) 67 9 (nI (o + 1))) 67 6 (nI (i + 1))) = m0 at b2 S0 hm0 hc0 ⊢
      refine cw_iload_n (pc := 73) dX9_factor_73 rfl rfl <|
        cw_bipush (v := 33) (pc := 74) dX9_factor_74 (by decide) <|
        cw_icmp_ne_T (tgt := 91) (pc := 76) dX9_factor_76 (by decide) h1 <|
        cw_aload_n (pc := 91) dX9_factor_91 rfl rfl <|
        cw_invP (q := 67) (pc := 92) dX9_factor_92 (hf m0 (i + 1) c hm0 b2 hc0 (by omega) hlt) rfl vX9_87 sh_67 (by decide) rfl rfl rfl (by omega) <|
        ?_
      rintro _ m2 ⟨rfl, a2, c2, s2⟩
      rw [if_pos hs] at a2
      have S2 := (F67_M (np := np) S0).tr s2
      refine cw_aload_n (pc := 95) dX9_factor_95 rfl rfl <|
        cw_bipush (v := 41) (pc := 96) dX9_factor_96 (by decide) <|
        cw_invP (q := 67) (pc := 98) dX9_factor_98 (c_X9_must_0 hk h100 (hm.mo h100 S2) a2 (by have := hgd.2.1; omega) (x := 41)) rfl vX9_71 sh_67 (by decide) rfl rfl rfl (by omega) <|
        ?_
      rintro _ m3 ⟨rfl, a3, s3⟩
      rw [if_pos h3, if_pos h3] at a3
      refine cw_aload_n (pc := 101) dX9_factor_101 rfl rfl <|
        cw_dup (pc := 102) dX9_factor_102 rfl <|
        cw_getI (q := 67) (pc := 103) dX9_factor_103 fX9_78 sh_67 (by decide) rfl <|
        ?_
      rw [a3.2.2]
      refine cw_iconst (v := 1) (pc := 106) dX9_factor_106 (by decide) <|
        cw_isub (pc := 107) dX9_factor_107 <|
        ?_
      rw [nI_pred o]
      refine cw_putI (q := 67) (pc := 108) dX9_factor_108 pX9_78 sh_67 (by decide) rfl <|
        cw_vret (pc := 111) dX9_factor_111 hR <|
        ⟨rfl, sa_o a3, fun _ => ((c2 hs).m7 s3).m9, (S2.tr (F67_M s3)).s1 (Or.inl (f7 (by decide)))⟩
    · rw [if_neg h3] at hR
      refine cw_aload_n (pc := 0) dX9_factor_0 rfl rfl <|
        cw_getI (q := 67) (pc := 1) dX9_factor_1 fX9_54 sh_67 (by decide) rfl <|
        ?_
      rw [ha.2.1]
      refine cw_if_eq_T (tgt := 8) (pc := 4) dX9_factor_4 (by decide) rfl <|
        cw_aload_n (pc := 8) dX9_factor_8 rfl rfl <|
        cw_invI (q := 67) (pc := 9) dX9_factor_9 (c_X9_here hk h100 hm ha (by omega)) rfl vX9_58 sh_67 (by decide) rfl rfl rfl (by omega) <|
        cw_istore_n (L' := [_, _, _, _, _]) (pc := 12) dX9_factor_12 rfl (by decide) rfl rfl <|
        cw_iload_n (pc := 13) dX9_factor_13 rfl rfl <|
        cw_bipush (v := 33) (pc := 14) dX9_factor_14 (by decide) <|
        cw_icmp_eq_F (tgt := 25) (pc := 16) dX9_factor_16 (by decide) h1 <|
        cw_iload_n (pc := 19) dX9_factor_19 rfl rfl <|
        cw_bipush (v := 40) (pc := 20) dX9_factor_20 (by decide) <|
        cw_icmp_ne_F (tgt := 112) (pc := 22) dX9_factor_22 (by decide) h2 <|
        cw_aload_n (pc := 25) dX9_factor_25 rfl rfl <|
        cw_aload_n (pc := 26) dX9_factor_26 rfl rfl <|
        cw_getI (q := 67) (pc := 27) dX9_factor_27 fX9_78 sh_67 (by decide) rfl <|
        ?_
      rw [ha.2.2]
      refine cw_iconst (v := 5) (pc := 30) dX9_factor_30 (by decide) <|
        cw_icmp_ne_T (tgt := 38) (pc := 31) dX9_factor_31 (by decide) (fun q => absurd ((nI_eq (b := 5) (by omega) (by decide)).mp q) (by omega)) <|
        cw_iconst (v := 0) (pc := 38) dX9_factor_38 (by decide) <|
        cw_putZ (q := 67) (pc := 39) dX9_factor_39 pX9_54 sh_67 (by decide) rfl (by decide) <|
        ?_
      have b0 : SA (st μ 67 8 0) i 0 o := sa_w ha
      refine cw_aload_n (pc := 42) dX9_factor_42 rfl rfl <|
        cw_dup (pc := 43) dX9_factor_43 rfl <|
        cw_getI (q := 67) (pc := 44) dX9_factor_44 fX9_78 sh_67 (by decide) rfl <|
        ?_
      rw [b0.2.2]
      refine cw_iconst (v := 1) (pc := 47) dX9_factor_47 (by decide) <|
        cw_iadd (pc := 48) dX9_factor_48 <|
        ?_
      rw [nI_1 o]
      refine cw_putI (q := 67) (pc := 49) dX9_factor_49 pX9_78 sh_67 (by decide) rfl <|
        ?_
      have b1 : SA (st (st μ 67 8 0) 67 9 (nI (o + 1))) i 0 (o + 1) := sa_o b0
      refine cw_aload_n (pc := 52) dX9_factor_52 rfl rfl <|
        cw_dup (pc := 53) dX9_factor_53 rfl <|
        cw_getI (q := 67) (pc := 54) dX9_factor_54 fX9_48 sh_67 (by decide) rfl <|
        ?_
      rw [b1.1]
      refine cw_aload_n (pc := 57) dX9_factor_57 rfl rfl <|
        cw_getI (q := 67) (pc := 58) dX9_factor_58 fX9_54 sh_67 (by decide) rfl <|
        ?_
      rw [b1.2.1]
      refine cw_if_eq_T (tgt := 68) (pc := 61) dX9_factor_61 (by decide) rfl <|
        cw_iconst (v := 1) (pc := 68) dX9_factor_68 (by decide) <|
        cw_iadd (pc := 69) dX9_factor_69 <|
        ?_
      rw [nI_1 i]
      refine cw_putI (q := 67) (pc := 70) dX9_factor_70 pX9_48 sh_67 (by decide) rfl <|
        ?_
      have b2 : SA (st (st (st μ 67 8 0) 67 9 (nI (o + 1))) 67 6 (nI (i + 1))) (i + 1) 0 (o + 1) := sa_s b1
      have S0 : Same F67 μ (st (st (st μ 67 8 0) 67 9 (nI (o + 1))) 67 6 (nI (i + 1))) := ((Same.rf.s1 (f7 (by decide))).s1 (f7 (by decide))).s1 (f7 (by decide))
      have hm0 := hm.mo h100 (F67_M (np := np) S0)
      have hc0 := hc.m7 S0
      generalize (st (st (st μ 67 8 0) 67 9 (nI (o + 1))) 67 6 (nI (i + 1))) = m0 at b2 S0 hm0 hc0 ⊢
      refine cw_iload_n (pc := 73) dX9_factor_73 rfl rfl <|
        cw_bipush (v := 33) (pc := 74) dX9_factor_74 (by decide) <|
        cw_icmp_ne_T (tgt := 91) (pc := 76) dX9_factor_76 (by decide) h1 <|
        cw_aload_n (pc := 91) dX9_factor_91 rfl rfl <|
        cw_invP (q := 67) (pc := 92) dX9_factor_92 (hf m0 (i + 1) c hm0 b2 hc0 (by omega) hlt) rfl vX9_87 sh_67 (by decide) rfl rfl rfl (by omega) <|
        ?_
      rintro _ m2 ⟨rfl, a2, c2, s2⟩
      rw [if_pos hs] at a2
      have S2 := (F67_M (np := np) S0).tr s2
      refine cw_aload_n (pc := 95) dX9_factor_95 rfl rfl <|
        cw_bipush (v := 41) (pc := 96) dX9_factor_96 (by decide) <|
        cw_invP (q := 67) (pc := 98) dX9_factor_98 (c_X9_must_0 hk h100 (hm.mo h100 S2) a2 (by have := hgd.2.1; omega) (x := 41)) rfl vX9_71 sh_67 (by decide) rfl rfl rfl (by omega) <|
        ?_
      rintro _ m3 ⟨rfl, a3, s3⟩
      rw [if_neg h3, if_neg h3] at a3
      refine cw_aload_n (pc := 101) dX9_factor_101 rfl rfl <|
        cw_dup (pc := 102) dX9_factor_102 rfl <|
        cw_getI (q := 67) (pc := 103) dX9_factor_103 fX9_78 sh_67 (by decide) rfl <|
        ?_
      rw [a3.2.2]
      refine cw_iconst (v := 1) (pc := 106) dX9_factor_106 (by decide) <|
        cw_isub (pc := 107) dX9_factor_107 <|
        ?_
      rw [nI_pred o]
      refine cw_putI (q := 67) (pc := 108) dX9_factor_108 pX9_78 sh_67 (by decide) rfl <|
        cw_vret (pc := 111) dX9_factor_111 hR <|
        ⟨rfl, sa_o a3, (fun q => by cases q), (S2.tr (F67_M s3)).s1 (Or.inl (f7 (by decide)))⟩
  · rw [if_neg hs] at hR
    refine cw_aload_n (pc := 0) dX9_factor_0 rfl rfl <|
      cw_getI (q := 67) (pc := 1) dX9_factor_1 fX9_54 sh_67 (by decide) rfl <|
      ?_
    rw [ha.2.1]
    refine cw_if_eq_T (tgt := 8) (pc := 4) dX9_factor_4 (by decide) rfl <|
      cw_aload_n (pc := 8) dX9_factor_8 rfl rfl <|
      cw_invI (q := 67) (pc := 9) dX9_factor_9 (c_X9_here hk h100 hm ha (by omega)) rfl vX9_58 sh_67 (by decide) rfl rfl rfl (by omega) <|
      cw_istore_n (L' := [_, _, _, _, _]) (pc := 12) dX9_factor_12 rfl (by decide) rfl rfl <|
      cw_iload_n (pc := 13) dX9_factor_13 rfl rfl <|
      cw_bipush (v := 33) (pc := 14) dX9_factor_14 (by decide) <|
      cw_icmp_eq_F (tgt := 25) (pc := 16) dX9_factor_16 (by decide) h1 <|
      cw_iload_n (pc := 19) dX9_factor_19 rfl rfl <|
      cw_bipush (v := 40) (pc := 20) dX9_factor_20 (by decide) <|
      cw_icmp_ne_F (tgt := 112) (pc := 22) dX9_factor_22 (by decide) h2 <|
      cw_aload_n (pc := 25) dX9_factor_25 rfl rfl <|
      cw_aload_n (pc := 26) dX9_factor_26 rfl rfl <|
      cw_getI (q := 67) (pc := 27) dX9_factor_27 fX9_78 sh_67 (by decide) rfl <|
      ?_
    rw [ha.2.2]
    refine cw_iconst (v := 5) (pc := 30) dX9_factor_30 (by decide) <|
      cw_icmp_ne_T (tgt := 38) (pc := 31) dX9_factor_31 (by decide) (fun q => absurd ((nI_eq (b := 5) (by omega) (by decide)).mp q) (by omega)) <|
      cw_iconst (v := 0) (pc := 38) dX9_factor_38 (by decide) <|
      cw_putZ (q := 67) (pc := 39) dX9_factor_39 pX9_54 sh_67 (by decide) rfl (by decide) <|
      ?_
    have b0 : SA (st μ 67 8 0) i 0 o := sa_w ha
    refine cw_aload_n (pc := 42) dX9_factor_42 rfl rfl <|
      cw_dup (pc := 43) dX9_factor_43 rfl <|
      cw_getI (q := 67) (pc := 44) dX9_factor_44 fX9_78 sh_67 (by decide) rfl <|
      ?_
    rw [b0.2.2]
    refine cw_iconst (v := 1) (pc := 47) dX9_factor_47 (by decide) <|
      cw_iadd (pc := 48) dX9_factor_48 <|
      ?_
    rw [nI_1 o]
    refine cw_putI (q := 67) (pc := 49) dX9_factor_49 pX9_78 sh_67 (by decide) rfl <|
      ?_
    have b1 : SA (st (st μ 67 8 0) 67 9 (nI (o + 1))) i 0 (o + 1) := sa_o b0
    refine cw_aload_n (pc := 52) dX9_factor_52 rfl rfl <|
      cw_dup (pc := 53) dX9_factor_53 rfl <|
      cw_getI (q := 67) (pc := 54) dX9_factor_54 fX9_48 sh_67 (by decide) rfl <|
      ?_
    rw [b1.1]
    refine cw_aload_n (pc := 57) dX9_factor_57 rfl rfl <|
      cw_getI (q := 67) (pc := 58) dX9_factor_58 fX9_54 sh_67 (by decide) rfl <|
      ?_
    rw [b1.2.1]
    refine cw_if_eq_T (tgt := 68) (pc := 61) dX9_factor_61 (by decide) rfl <|
      cw_iconst (v := 1) (pc := 68) dX9_factor_68 (by decide) <|
      cw_iadd (pc := 69) dX9_factor_69 <|
      ?_
    rw [nI_1 i]
    refine cw_putI (q := 67) (pc := 70) dX9_factor_70 pX9_48 sh_67 (by decide) rfl <|
      ?_
    have b2 : SA (st (st (st μ 67 8 0) 67 9 (nI (o + 1))) 67 6 (nI (i + 1))) (i + 1) 0 (o + 1) := sa_s b1
    have S0 : Same F67 μ (st (st (st μ 67 8 0) 67 9 (nI (o + 1))) 67 6 (nI (i + 1))) := ((Same.rf.s1 (f7 (by decide))).s1 (f7 (by decide))).s1 (f7 (by decide))
    have hm0 := hm.mo h100 (F67_M (np := np) S0)
    have hc0 := hc.m7 S0
    generalize (st (st (st μ 67 8 0) 67 9 (nI (o + 1))) 67 6 (nI (i + 1))) = m0 at b2 S0 hm0 hc0 ⊢
    refine cw_iload_n (pc := 73) dX9_factor_73 rfl rfl <|
      cw_bipush (v := 33) (pc := 74) dX9_factor_74 (by decide) <|
      cw_icmp_ne_T (tgt := 91) (pc := 76) dX9_factor_76 (by decide) h1 <|
      cw_aload_n (pc := 91) dX9_factor_91 rfl rfl <|
      cw_invP (q := 67) (pc := 92) dX9_factor_92 (hf m0 (i + 1) c hm0 b2 hc0 (by omega) hlt) rfl vX9_87 sh_67 (by decide) rfl rfl rfl (by omega) <|
      ?_
    rintro _ m2 ⟨rfl, a2, c2, s2⟩
    rw [if_neg hs] at a2
    have S2 := (F67_M (np := np) S0).tr s2
    refine cw_aload_n (pc := 95) dX9_factor_95 rfl rfl <|
      cw_bipush (v := 41) (pc := 96) dX9_factor_96 (by decide) <|
      cw_invP (q := 67) (pc := 98) dX9_factor_98 (c_X9_must_1 a2) rfl vX9_71 sh_67 (by decide) rfl rfl rfl (by omega) <|
      ?_
    rintro _ m3 ⟨rfl, a3, s3⟩
    refine cw_aload_n (pc := 101) dX9_factor_101 rfl rfl <|
      cw_dup (pc := 102) dX9_factor_102 rfl <|
      cw_getI (q := 67) (pc := 103) dX9_factor_103 fX9_78 sh_67 (by decide) rfl <|
      ?_
    rw [a3.2.2]
    refine cw_iconst (v := 1) (pc := 106) dX9_factor_106 (by decide) <|
      cw_isub (pc := 107) dX9_factor_107 <|
      ?_
    rw [nI_pred o]
    refine cw_putI (q := 67) (pc := 108) dX9_factor_108 pX9_78 sh_67 (by decide) rfl <|
      cw_vret (pc := 111) dX9_factor_111 hR <|
      ⟨rfl, by rw [if_neg hs]; exact sa_o a3, fun q => absurd q hs, (S2.tr (F67_M s3)).s1 (Or.inl (f7 (by decide)))⟩
set_option maxHeartbeats 4000000 in
set_option maxRecDepth 100000 in
theorem c_X9_every {E : Ev} {μ : Mem} {s : Row} {k np : Nat} (hk : s 37 = nI k) (h100 : k ≤ 100) (hnp : np < 5) (hm : MK μ s np k) {i o : Nat} (ha : SA μ i 0 o) {c : PCo} (hc : CR μ np c) (hci : c.length ≤ i) (hik : i ≤ k) (hN : ∀ i, k ≤ i → nxT s i = -1) {f : Nat → PCo → Rs} {mm dd d : Nat} (hfg : GoodF k mm f) (hd : dd < d) (hf : RdM E s k np yX9_factor cX9_factor 5 o dd f) (hd1 : 0 < d) : AM E yX9_every cX9_every 1 none d [.ref 67] μ (fun r μ' => PoM np o (lpT (nxT s) f 38 19 100 (f i c)) μ r μ') := by
  refine am_of (own := RX9) (L := [.ref 67]) (by decide) rfl (Nat.le_of_ble_eq_true rfl) rfl (fun Γ hR => ?_)
  have key : ∀ (n : Nat) (a : Rs) (m : Mem), k - a.2.1 ≤ n → lpT (nxT s) f 38 19 100 (f i c) = lpT (nxT s) f 38 19 n a → StR k i c (mm + 1) a → SA m a.2.1 (if a.1 = true then 0 else 1) o → (a.1 = true → CR m np a.2.2) → Same (FMp np) μ m → CW E Γ cX9_every 1 RX9 d 4 [.ref 67] [] m := by
    intro n
    induction n with
    | zero =>
      intro a m hka hl hst hsa hcr hS
      have e0 : lpT (nxT s) f 38 19 100 (f i c) = a := hl
      by_cases ht : a.1 = true
      · have hn : ¬ nxT s a.2.1 = 38 := by rw [hN _ (by omega)]; decide
        have hsa0 := hsa
        rw [if_pos ht] at hsa0
        refine cw_aload_n (pc := 4) dX9_every_4 rfl rfl <|
          cw_getI (q := 67) (pc := 5) dX9_every_5 fX9_54 sh_67 (by decide) rfl <|
          ?_
        rw [hsa0.2.1]
        refine cw_if_ne_F (tgt := 43) (pc := 8) dX9_every_8 (by decide) rfl <|
          cw_aload_n (pc := 11) dX9_every_11 rfl rfl <|
          cw_invI (q := 67) (pc := 12) dX9_every_12 (c_X9_here hk h100 (hm.mo h100 hS) hsa (by have := hst.2.1; omega)) rfl vX9_58 sh_67 (by decide) rfl rfl rfl (by omega) <|
          cw_bipush (v := 38) (pc := 15) dX9_every_15 (by decide) <|
          cw_icmp_ne_T (tgt := 43) (pc := 17) dX9_every_17 (by decide) hn <|
          cw_vret (pc := 43) dX9_every_43 hR <|
          ⟨rfl, by rw [e0]; exact hsa, by rw [e0]; exact hcr, hS⟩
      · have hsa0 := hsa
        rw [if_neg ht] at hsa0
        refine cw_aload_n (pc := 4) dX9_every_4 rfl rfl <|
          cw_getI (q := 67) (pc := 5) dX9_every_5 fX9_54 sh_67 (by decide) rfl <|
          ?_
        rw [hsa0.2.1]
        refine cw_if_ne_T (tgt := 43) (pc := 8) dX9_every_8 (by decide) (by decide) <|
          cw_vret (pc := 43) dX9_every_43 hR <|
          ⟨rfl, by rw [e0]; exact hsa, by rw [e0]; exact hcr, hS⟩
    | succ n ih =>
      intro a m hka hl hst hsa hcr hS
      by_cases ht : a.1 = true
      · have hsa0 := hsa
        rw [if_pos ht] at hsa0
        by_cases hn : nxT s a.2.1 = 38
        · have hg : a.1 = true ∧ nxT s a.2.1 = _ := ⟨ht, hn⟩
          obtain ⟨e, ee, el, _⟩ := hst.2.2 ht
          have hlen : a.2.2.length ≤ a.2.1 := by rw [ee, List.length_append]; omega
          have hlt : a.2.1 < k := lt_k hk h100 (by decide) hn
          have hst1 := lp_good hN (sep := 38) (op := 19) (by decide) (by decide) hfg 1 a hst
          obtain ⟨p1, p2, p3⟩ := lp_1 (f := f) (op := 19) hg
          have hl2 : lpT (nxT s) f 38 19 100 (f i c) = lpT (nxT s) f 38 19 n (lpT (nxT s) f 38 19 1 a) := by rw [hl, lp_11 hg]
          have hge := (hfg (a.2.1 + 1) a.2.2 hlt).1
          have hcr0 := hcr ht
          by_cases hs : (f (a.2.1 + 1) a.2.2).1 = true
          · have q1 : (lpT (nxT s) f 38 19 1 a).1 = true := p1.trans hs
            obtain ⟨e', ee', el', _⟩ := hst1.2.2 q1
            have hp := hst1.2.1
            have e3 := p3 hs
            have hL := congrArg List.length (e3.symm.trans ee')
            rw [List.length_append, List.length_append, List.length_singleton] at hL
            refine cw_aload_n (pc := 4) dX9_every_4 rfl rfl <|
              cw_getI (q := 67) (pc := 5) dX9_every_5 fX9_54 sh_67 (by decide) rfl <|
              ?_
            rw [hsa0.2.1]
            refine cw_if_ne_F (tgt := 43) (pc := 8) dX9_every_8 (by decide) rfl <|
              cw_aload_n (pc := 11) dX9_every_11 rfl rfl <|
              cw_invI (q := 67) (pc := 12) dX9_every_12 (c_X9_here hk h100 (hm.mo h100 hS) hsa (by omega)) rfl vX9_58 sh_67 (by decide) rfl rfl rfl (by omega) <|
              cw_bipush (v := 38) (pc := 15) dX9_every_15 (by decide) <|
              cw_icmp_ne_F (tgt := 43) (pc := 17) dX9_every_17 (by decide) hn <|
              cw_aload_n (pc := 20) dX9_every_20 rfl rfl <|
              cw_dup (pc := 21) dX9_every_21 rfl <|
              cw_getI (q := 67) (pc := 22) dX9_every_22 fX9_48 sh_67 (by decide) rfl <|
              ?_
            rw [hsa0.1]
            refine cw_iconst (v := 1) (pc := 25) dX9_every_25 (by decide) <|
              cw_iadd (pc := 26) dX9_every_26 <|
              ?_
            rw [nI_1 a.2.1]
            refine cw_putI (q := 67) (pc := 27) dX9_every_27 pX9_48 sh_67 (by decide) rfl <|
              cw_aload_n (pc := 30) dX9_every_30 rfl rfl <|
              cw_invP (q := 67) (pc := 31) dX9_every_31 (hf (st m 67 6 (nI (a.2.1 + 1))) (a.2.1 + 1) a.2.2 ((hm.mo h100 hS).mo h100 (F67_M (Same.rf.s1 (f7 (by decide))))) (sa_s hsa0) hcr0.m9 (by omega) hlt) rfl vX9_81 sh_67 (by decide) rfl rfl rfl (by omega) <|
              ?_
            rintro _ m2 ⟨rfl, a2, c2, s2⟩
            rw [if_pos hs] at a2
            have S2 := (hS.s1 (F := FMp np) (q := 67) (i := 6) (v := nI (a.2.1 + 1)) (Or.inl (f7 (by decide)))).tr s2
            refine cw_aload_n (pc := 34) dX9_every_34 rfl rfl <|
              cw_bipush (v := -2) (pc := 35) dX9_every_35 (by decide) <|
              cw_invP (q := 67) (pc := 37) dX9_every_37 (c_X9_emits_0 hnp (hm.mo h100 S2) a2.2.1 (c2 hs) (by omega) (q := (19, 0)) rfl) rfl vX9_84 sh_67 (by decide) rfl rfl rfl (by omega) <|
              ?_
            rintro _ m3 ⟨rfl, c3, s3⟩
            refine cw_goto (tgt := 4) (pc := 40) dX9_every_40 (by decide) <|
              ?_
            exact ih (lpT (nxT s) f 38 19 1 a) _ (by rw [p2]; omega) hl2 hst1 (by rw [q1, p2]; exact a2.m8 s3) (fun _ => by rw [e3]; exact c3) (S2.tr (F68_M s3))
          · have q1 : ¬ (lpT (nxT s) f 38 19 1 a).1 = true := by rw [p1]; exact hs
            refine cw_aload_n (pc := 4) dX9_every_4 rfl rfl <|
              cw_getI (q := 67) (pc := 5) dX9_every_5 fX9_54 sh_67 (by decide) rfl <|
              ?_
            rw [hsa0.2.1]
            refine cw_if_ne_F (tgt := 43) (pc := 8) dX9_every_8 (by decide) rfl <|
              cw_aload_n (pc := 11) dX9_every_11 rfl rfl <|
              cw_invI (q := 67) (pc := 12) dX9_every_12 (c_X9_here hk h100 (hm.mo h100 hS) hsa (by omega)) rfl vX9_58 sh_67 (by decide) rfl rfl rfl (by omega) <|
              cw_bipush (v := 38) (pc := 15) dX9_every_15 (by decide) <|
              cw_icmp_ne_F (tgt := 43) (pc := 17) dX9_every_17 (by decide) hn <|
              cw_aload_n (pc := 20) dX9_every_20 rfl rfl <|
              cw_dup (pc := 21) dX9_every_21 rfl <|
              cw_getI (q := 67) (pc := 22) dX9_every_22 fX9_48 sh_67 (by decide) rfl <|
              ?_
            rw [hsa0.1]
            refine cw_iconst (v := 1) (pc := 25) dX9_every_25 (by decide) <|
              cw_iadd (pc := 26) dX9_every_26 <|
              ?_
            rw [nI_1 a.2.1]
            refine cw_putI (q := 67) (pc := 27) dX9_every_27 pX9_48 sh_67 (by decide) rfl <|
              cw_aload_n (pc := 30) dX9_every_30 rfl rfl <|
              cw_invP (q := 67) (pc := 31) dX9_every_31 (hf (st m 67 6 (nI (a.2.1 + 1))) (a.2.1 + 1) a.2.2 ((hm.mo h100 hS).mo h100 (F67_M (Same.rf.s1 (f7 (by decide))))) (sa_s hsa0) hcr0.m9 (by omega) hlt) rfl vX9_81 sh_67 (by decide) rfl rfl rfl (by omega) <|
              ?_
            rintro _ m2 ⟨rfl, a2, c2, s2⟩
            rw [if_neg hs] at a2
            have S2 := (hS.s1 (F := FMp np) (q := 67) (i := 6) (v := nI (a.2.1 + 1)) (Or.inl (f7 (by decide)))).tr s2
            refine cw_aload_n (pc := 34) dX9_every_34 rfl rfl <|
              cw_bipush (v := -2) (pc := 35) dX9_every_35 (by decide) <|
              cw_invV (q := 67) (pc := 37) dX9_every_37 (c_X9_emits_1 a2.2.1) rfl vX9_84 sh_67 (by decide) rfl rfl rfl (by omega) <|
              cw_goto (tgt := 4) (pc := 40) dX9_every_40 (by decide) <|
              ?_
            exact ih (lpT (nxT s) f 38 19 1 a) _ (by rw [p2]; omega) hl2 hst1 (by rw [if_neg q1, p2]; exact a2) (fun q => absurd q q1) S2
        · have e0 := hl.trans (lp_no (fun q => hn q.2) _)
          refine cw_aload_n (pc := 4) dX9_every_4 rfl rfl <|
            cw_getI (q := 67) (pc := 5) dX9_every_5 fX9_54 sh_67 (by decide) rfl <|
            ?_
          rw [hsa0.2.1]
          refine cw_if_ne_F (tgt := 43) (pc := 8) dX9_every_8 (by decide) rfl <|
            cw_aload_n (pc := 11) dX9_every_11 rfl rfl <|
            cw_invI (q := 67) (pc := 12) dX9_every_12 (c_X9_here hk h100 (hm.mo h100 hS) hsa (by have := hst.2.1; omega)) rfl vX9_58 sh_67 (by decide) rfl rfl rfl (by omega) <|
            cw_bipush (v := 38) (pc := 15) dX9_every_15 (by decide) <|
            cw_icmp_ne_T (tgt := 43) (pc := 17) dX9_every_17 (by decide) hn <|
            cw_vret (pc := 43) dX9_every_43 hR <|
            ⟨rfl, by rw [e0]; exact hsa, by rw [e0]; exact hcr, hS⟩
      · have hsa0 := hsa
        rw [if_neg ht] at hsa0
        have e0 := hl.trans (lp_no (fun q => ht q.1) _)
        refine cw_aload_n (pc := 4) dX9_every_4 rfl rfl <|
          cw_getI (q := 67) (pc := 5) dX9_every_5 fX9_54 sh_67 (by decide) rfl <|
          ?_
        rw [hsa0.2.1]
        refine cw_if_ne_T (tgt := 43) (pc := 8) dX9_every_8 (by decide) (by decide) <|
          cw_vret (pc := 43) dX9_every_43 hR <|
          ⟨rfl, by rw [e0]; exact hsa, by rw [e0]; exact hcr, hS⟩
  refine cw_aload_n (pc := 0) dX9_every_0 rfl rfl <|
    cw_invP (q := 67) (pc := 1) dX9_every_1 (hf μ i c hm ha hc hci hik) rfl vX9_81 sh_67 (by decide) rfl rfl rfl hd <|
    ?_
  rintro _ m1 ⟨rfl, a1, c1, s1⟩
  exact key 100 (f i c) m1 (by omega) rfl ((hfg i c hik).mono (Nat.le_succ _)) a1 c1 s1
set_option maxHeartbeats 4000000 in
set_option maxRecDepth 100000 in
theorem c_X9_some {E : Ev} {μ : Mem} {s : Row} {k np : Nat} (hk : s 37 = nI k) (h100 : k ≤ 100) (hnp : np < 5) (hm : MK μ s np k) {i o : Nat} (ha : SA μ i 0 o) {c : PCo} (hc : CR μ np c) (hci : c.length ≤ i) (hik : i ≤ k) (hN : ∀ i, k ≤ i → nxT s i = -1) {f : Nat → PCo → Rs} {mm dd d : Nat} (hfg : GoodF k mm f) (hd : dd < d) (hf : RdM E s k np yX9_every cX9_every 1 o dd f) (hd1 : 0 < d) : AM E yX9_some cX9_some 1 none d [.ref 67] μ (fun r μ' => PoM np o (lpT (nxT s) f 124 20 100 (f i c)) μ r μ') := by
  refine am_of (own := RX9) (L := [.ref 67]) (by decide) rfl (Nat.le_of_ble_eq_true rfl) rfl (fun Γ hR => ?_)
  have key : ∀ (n : Nat) (a : Rs) (m : Mem), k - a.2.1 ≤ n → lpT (nxT s) f 124 20 100 (f i c) = lpT (nxT s) f 124 20 n a → StR k i c (mm + 1) a → SA m a.2.1 (if a.1 = true then 0 else 1) o → (a.1 = true → CR m np a.2.2) → Same (FMp np) μ m → CW E Γ cX9_some 1 RX9 d 4 [.ref 67] [] m := by
    intro n
    induction n with
    | zero =>
      intro a m hka hl hst hsa hcr hS
      have e0 : lpT (nxT s) f 124 20 100 (f i c) = a := hl
      by_cases ht : a.1 = true
      · have hn : ¬ nxT s a.2.1 = 124 := by rw [hN _ (by omega)]; decide
        have hsa0 := hsa
        rw [if_pos ht] at hsa0
        refine cw_aload_n (pc := 4) dX9_some_4 rfl rfl <|
          cw_getI (q := 67) (pc := 5) dX9_some_5 fX9_54 sh_67 (by decide) rfl <|
          ?_
        rw [hsa0.2.1]
        refine cw_if_ne_F (tgt := 43) (pc := 8) dX9_some_8 (by decide) rfl <|
          cw_aload_n (pc := 11) dX9_some_11 rfl rfl <|
          cw_invI (q := 67) (pc := 12) dX9_some_12 (c_X9_here hk h100 (hm.mo h100 hS) hsa (by have := hst.2.1; omega)) rfl vX9_58 sh_67 (by decide) rfl rfl rfl (by omega) <|
          cw_bipush (v := 124) (pc := 15) dX9_some_15 (by decide) <|
          cw_icmp_ne_T (tgt := 43) (pc := 17) dX9_some_17 (by decide) hn <|
          cw_vret (pc := 43) dX9_some_43 hR <|
          ⟨rfl, by rw [e0]; exact hsa, by rw [e0]; exact hcr, hS⟩
      · have hsa0 := hsa
        rw [if_neg ht] at hsa0
        refine cw_aload_n (pc := 4) dX9_some_4 rfl rfl <|
          cw_getI (q := 67) (pc := 5) dX9_some_5 fX9_54 sh_67 (by decide) rfl <|
          ?_
        rw [hsa0.2.1]
        refine cw_if_ne_T (tgt := 43) (pc := 8) dX9_some_8 (by decide) (by decide) <|
          cw_vret (pc := 43) dX9_some_43 hR <|
          ⟨rfl, by rw [e0]; exact hsa, by rw [e0]; exact hcr, hS⟩
    | succ n ih =>
      intro a m hka hl hst hsa hcr hS
      by_cases ht : a.1 = true
      · have hsa0 := hsa
        rw [if_pos ht] at hsa0
        by_cases hn : nxT s a.2.1 = 124
        · have hg : a.1 = true ∧ nxT s a.2.1 = _ := ⟨ht, hn⟩
          obtain ⟨e, ee, el, _⟩ := hst.2.2 ht
          have hlen : a.2.2.length ≤ a.2.1 := by rw [ee, List.length_append]; omega
          have hlt : a.2.1 < k := lt_k hk h100 (by decide) hn
          have hst1 := lp_good hN (sep := 124) (op := 20) (by decide) (by decide) hfg 1 a hst
          obtain ⟨p1, p2, p3⟩ := lp_1 (f := f) (op := 20) hg
          have hl2 : lpT (nxT s) f 124 20 100 (f i c) = lpT (nxT s) f 124 20 n (lpT (nxT s) f 124 20 1 a) := by rw [hl, lp_11 hg]
          have hge := (hfg (a.2.1 + 1) a.2.2 hlt).1
          have hcr0 := hcr ht
          by_cases hs : (f (a.2.1 + 1) a.2.2).1 = true
          · have q1 : (lpT (nxT s) f 124 20 1 a).1 = true := p1.trans hs
            obtain ⟨e', ee', el', _⟩ := hst1.2.2 q1
            have hp := hst1.2.1
            have e3 := p3 hs
            have hL := congrArg List.length (e3.symm.trans ee')
            rw [List.length_append, List.length_append, List.length_singleton] at hL
            refine cw_aload_n (pc := 4) dX9_some_4 rfl rfl <|
              cw_getI (q := 67) (pc := 5) dX9_some_5 fX9_54 sh_67 (by decide) rfl <|
              ?_
            rw [hsa0.2.1]
            refine cw_if_ne_F (tgt := 43) (pc := 8) dX9_some_8 (by decide) rfl <|
              cw_aload_n (pc := 11) dX9_some_11 rfl rfl <|
              cw_invI (q := 67) (pc := 12) dX9_some_12 (c_X9_here hk h100 (hm.mo h100 hS) hsa (by omega)) rfl vX9_58 sh_67 (by decide) rfl rfl rfl (by omega) <|
              cw_bipush (v := 124) (pc := 15) dX9_some_15 (by decide) <|
              cw_icmp_ne_F (tgt := 43) (pc := 17) dX9_some_17 (by decide) hn <|
              cw_aload_n (pc := 20) dX9_some_20 rfl rfl <|
              cw_dup (pc := 21) dX9_some_21 rfl <|
              cw_getI (q := 67) (pc := 22) dX9_some_22 fX9_48 sh_67 (by decide) rfl <|
              ?_
            rw [hsa0.1]
            refine cw_iconst (v := 1) (pc := 25) dX9_some_25 (by decide) <|
              cw_iadd (pc := 26) dX9_some_26 <|
              ?_
            rw [nI_1 a.2.1]
            refine cw_putI (q := 67) (pc := 27) dX9_some_27 pX9_48 sh_67 (by decide) rfl <|
              cw_aload_n (pc := 30) dX9_some_30 rfl rfl <|
              cw_invP (q := 67) (pc := 31) dX9_some_31 (hf (st m 67 6 (nI (a.2.1 + 1))) (a.2.1 + 1) a.2.2 ((hm.mo h100 hS).mo h100 (F67_M (Same.rf.s1 (f7 (by decide))))) (sa_s hsa0) hcr0.m9 (by omega) hlt) rfl vX9_101 sh_67 (by decide) rfl rfl rfl (by omega) <|
              ?_
            rintro _ m2 ⟨rfl, a2, c2, s2⟩
            rw [if_pos hs] at a2
            have S2 := (hS.s1 (F := FMp np) (q := 67) (i := 6) (v := nI (a.2.1 + 1)) (Or.inl (f7 (by decide)))).tr s2
            refine cw_aload_n (pc := 34) dX9_some_34 rfl rfl <|
              cw_bipush (v := -3) (pc := 35) dX9_some_35 (by decide) <|
              cw_invP (q := 67) (pc := 37) dX9_some_37 (c_X9_emits_0 hnp (hm.mo h100 S2) a2.2.1 (c2 hs) (by omega) (q := (20, 0)) rfl) rfl vX9_84 sh_67 (by decide) rfl rfl rfl (by omega) <|
              ?_
            rintro _ m3 ⟨rfl, c3, s3⟩
            refine cw_goto (tgt := 4) (pc := 40) dX9_some_40 (by decide) <|
              ?_
            exact ih (lpT (nxT s) f 124 20 1 a) _ (by rw [p2]; omega) hl2 hst1 (by rw [q1, p2]; exact a2.m8 s3) (fun _ => by rw [e3]; exact c3) (S2.tr (F68_M s3))
          · have q1 : ¬ (lpT (nxT s) f 124 20 1 a).1 = true := by rw [p1]; exact hs
            refine cw_aload_n (pc := 4) dX9_some_4 rfl rfl <|
              cw_getI (q := 67) (pc := 5) dX9_some_5 fX9_54 sh_67 (by decide) rfl <|
              ?_
            rw [hsa0.2.1]
            refine cw_if_ne_F (tgt := 43) (pc := 8) dX9_some_8 (by decide) rfl <|
              cw_aload_n (pc := 11) dX9_some_11 rfl rfl <|
              cw_invI (q := 67) (pc := 12) dX9_some_12 (c_X9_here hk h100 (hm.mo h100 hS) hsa (by omega)) rfl vX9_58 sh_67 (by decide) rfl rfl rfl (by omega) <|
              cw_bipush (v := 124) (pc := 15) dX9_some_15 (by decide) <|
              cw_icmp_ne_F (tgt := 43) (pc := 17) dX9_some_17 (by decide) hn <|
              cw_aload_n (pc := 20) dX9_some_20 rfl rfl <|
              cw_dup (pc := 21) dX9_some_21 rfl <|
              cw_getI (q := 67) (pc := 22) dX9_some_22 fX9_48 sh_67 (by decide) rfl <|
              ?_
            rw [hsa0.1]
            refine cw_iconst (v := 1) (pc := 25) dX9_some_25 (by decide) <|
              cw_iadd (pc := 26) dX9_some_26 <|
              ?_
            rw [nI_1 a.2.1]
            refine cw_putI (q := 67) (pc := 27) dX9_some_27 pX9_48 sh_67 (by decide) rfl <|
              cw_aload_n (pc := 30) dX9_some_30 rfl rfl <|
              cw_invP (q := 67) (pc := 31) dX9_some_31 (hf (st m 67 6 (nI (a.2.1 + 1))) (a.2.1 + 1) a.2.2 ((hm.mo h100 hS).mo h100 (F67_M (Same.rf.s1 (f7 (by decide))))) (sa_s hsa0) hcr0.m9 (by omega) hlt) rfl vX9_101 sh_67 (by decide) rfl rfl rfl (by omega) <|
              ?_
            rintro _ m2 ⟨rfl, a2, c2, s2⟩
            rw [if_neg hs] at a2
            have S2 := (hS.s1 (F := FMp np) (q := 67) (i := 6) (v := nI (a.2.1 + 1)) (Or.inl (f7 (by decide)))).tr s2
            refine cw_aload_n (pc := 34) dX9_some_34 rfl rfl <|
              cw_bipush (v := -3) (pc := 35) dX9_some_35 (by decide) <|
              cw_invV (q := 67) (pc := 37) dX9_some_37 (c_X9_emits_1 a2.2.1) rfl vX9_84 sh_67 (by decide) rfl rfl rfl (by omega) <|
              cw_goto (tgt := 4) (pc := 40) dX9_some_40 (by decide) <|
              ?_
            exact ih (lpT (nxT s) f 124 20 1 a) _ (by rw [p2]; omega) hl2 hst1 (by rw [if_neg q1, p2]; exact a2) (fun q => absurd q q1) S2
        · have e0 := hl.trans (lp_no (fun q => hn q.2) _)
          refine cw_aload_n (pc := 4) dX9_some_4 rfl rfl <|
            cw_getI (q := 67) (pc := 5) dX9_some_5 fX9_54 sh_67 (by decide) rfl <|
            ?_
          rw [hsa0.2.1]
          refine cw_if_ne_F (tgt := 43) (pc := 8) dX9_some_8 (by decide) rfl <|
            cw_aload_n (pc := 11) dX9_some_11 rfl rfl <|
            cw_invI (q := 67) (pc := 12) dX9_some_12 (c_X9_here hk h100 (hm.mo h100 hS) hsa (by have := hst.2.1; omega)) rfl vX9_58 sh_67 (by decide) rfl rfl rfl (by omega) <|
            cw_bipush (v := 124) (pc := 15) dX9_some_15 (by decide) <|
            cw_icmp_ne_T (tgt := 43) (pc := 17) dX9_some_17 (by decide) hn <|
            cw_vret (pc := 43) dX9_some_43 hR <|
            ⟨rfl, by rw [e0]; exact hsa, by rw [e0]; exact hcr, hS⟩
      · have hsa0 := hsa
        rw [if_neg ht] at hsa0
        have e0 := hl.trans (lp_no (fun q => ht q.1) _)
        refine cw_aload_n (pc := 4) dX9_some_4 rfl rfl <|
          cw_getI (q := 67) (pc := 5) dX9_some_5 fX9_54 sh_67 (by decide) rfl <|
          ?_
        rw [hsa0.2.1]
        refine cw_if_ne_T (tgt := 43) (pc := 8) dX9_some_8 (by decide) (by decide) <|
          cw_vret (pc := 43) dX9_some_43 hR <|
          ⟨rfl, by rw [e0]; exact hsa, by rw [e0]; exact hcr, hS⟩
  refine cw_aload_n (pc := 0) dX9_some_0 rfl rfl <|
    cw_invP (q := 67) (pc := 1) dX9_some_1 (hf μ i c hm ha hc hci hik) rfl vX9_101 sh_67 (by decide) rfl rfl rfl hd <|
    ?_
  rintro _ m1 ⟨rfl, a1, c1, s1⟩
  exact key 100 (f i c) m1 (by omega) rfl ((hfg i c hik).mono (Nat.le_succ _)) a1 c1 s1
