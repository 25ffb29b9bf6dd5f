theorem x24_lsendAll {N L : Nat} {x1 x2 x3 x4 x5 : Int32} : ∀ (n : Nat) (r : sh_S) (a : Int32) (j : Nat), (ls_T_sendAll N L n r x1 x2 x3 x4 x5 a) 24 0 j = r 24 0 j := by
  intro n
  induction n with
  | zero =>
    intro r a j
    rfl
  | succ n ih =>
    intro r a j
    unfold ls_T_sendAll
    split
    · rfl
    · split
      · exact ih _ _ _
      · refine (ih _ _ _).trans ?_
        unfold s_T_send
        dsimp only
        split <;> rfl
theorem x24_sendAll {N L : Nat} {r : sh_S} {x1 x2 x3 x4 x5 : Int32} {j : Nat} : (s_T_sendAll N L r x1 x2 x3 x4 x5) 24 0 j = r 24 0 j := x24_lsendAll 6 r 0 j
theorem rK_lsremove {N L : Nat} {x : Int32} : ∀ (n : Nat) (r : sh_S) (a : Int32), rK N r → rK N (ls_T_remove N L n r x a) := by
  intro n
  induction n with
  | zero =>
    intro r a hc
    exact hc
  | succ n ih =>
    intro r a hc
    unfold ls_T_remove
    split
    · exact hc
    · exact ih _ _ hc
theorem rK_T_remove {N L : Nat} {r : sh_S} {x : Int32} (hx : ∃ q j : Nat, q ≤ 200 ∧ r 20 0 21 = nI q ∧ j < q ∧ x = nI j) (hc : rK N r) : rK N (s_T_remove N L r x) := by
  refine rK_lsremove 1400 _ _ ⟨?_, hc.2⟩
  obtain ⟨q, j, h1, h2, h3, -⟩ := hx
  refine ⟨q - 1, by omega, ?_⟩
  show r 20 0 21 - 1 = nI (q - 1)
  rw [h2, show (1 : Int32) = nI 1 from rfl, pk_sub (by omega)]
theorem x24_lsremove {N L : Nat} {x : Int32} (k : Nat) (hk : Nat.beq k 40 = false) : ∀ (n : Nat) (r : sh_S) (a : Int32) (j : Nat), (ls_T_remove N L n r x a) k 0 j = r k 0 j := by
  intro n
  induction n with
  | zero =>
    intro r a j
    rfl
  | succ n ih =>
    intro r a j
    unfold ls_T_remove
    split
    · rfl
    · refine (ih _ _ _).trans ?_
      unfold sU
      rw [hk]
      rfl
theorem kl_rec {r r' : sh_S} {i q k p n : Nat} {a b a' : Int32} (h1 : q ≤ 8) (h2 : r 39 0 i = nI q) (h3 : b = nI k) (h4 : a = nI p) (h5 : p ≤ k) (h6 : k ≤ q) (h7 : q + 1 ≤ k + (n + 1)) (h : ¬ r 39 0 i ≤ b) (hc' : r' 39 0 i = r 39 0 i) (ha : a' = a ∨ a' = a + 1) : ∃ q k p : Nat, q ≤ 8 ∧ r' 39 0 i = nI q ∧ b + 1 = nI k ∧ a' = nI p ∧ p ≤ k ∧ k ≤ q ∧ q + 1 ≤ k + n := by
  have hl : k < q := by
    rw [h2, h3] at h
    exact Nat.lt_of_not_le fun z => h (nI_le z (by omega))
  rcases ha with ha | ha
  · exact ⟨q, k + 1, p, h1, hc'.trans h2, by rw [h3, nI_1], by rw [ha, h4], by omega, by omega, by omega⟩
  · exact ⟨q, k + 1, p + 1, h1, hc'.trans h2, by rw [h3, nI_1], by rw [ha, h4, nI_1], by omega, by omega, by omega⟩
theorem kl_lt {r : sh_S} {i q k : Nat} {b : Int32} (h1 : q ≤ 8) (h2 : r 39 0 i = nI q) (h3 : b = nI k) (h6 : k ≤ q) (h : ¬ r 39 0 i ≤ b) : k < q := by
  rw [h2, h3] at h
  exact Nat.lt_of_not_le fun z => h (nI_le z (by omega))
theorem kl_init {r : sh_S} {i : Nat} (hc : ∃ q : Nat, q ≤ 8 ∧ r 39 0 i = nI q) : ∃ q k p : Nat, q ≤ 8 ∧ r 39 0 i = nI q ∧ (0 : Int32) = nI k ∧ (0 : Int32) = nI p ∧ p ≤ k ∧ k ≤ q ∧ q + 1 ≤ k + 9 := by
  obtain ⟨q, h1, h2⟩ := hc
  exact ⟨q, 0, 0, h1, h2, rfl, rfl, Nat.le_refl _, Nat.zero_le _, by omega⟩

def ls_T_learn (N L : Nat) : Nat → sh_S → Nat → Int32 → Int32 → Int32 → sh_S
  | 0, r, _, _, _, _ => r
  | n + 1, r, i, x, a, b => (if (r 39 0 i) ≤ b then (let r1 := sU r 39 0 i a; r1) else (if (r 38 0 ((((8 * (nI i)) + b) : Int32).toNatClampNeg)) = x then (ls_T_learn N L n r i x a (b + 1)) else (let r2 := sU r 38 0 ((((8 * (nI i)) + a) : Int32).toNatClampNeg) (r 38 0 ((((8 * (nI i)) + b) : Int32).toNatClampNeg)); (ls_T_learn N L n r2 i x (a + 1) (b + 1)))))
set_option maxHeartbeats 4000000 in
set_option maxRecDepth 100000 in
theorem l_T_learn {B : sh_B} {Z : mx_Z} {N L : Nat} {cI cR cZ : ClassId} (hb : wB B Z N L cI cR cZ) {c : sh_S} {i : Nat} (hi : i < N) {x : Int32} {X : mx_C} {V0 : Option Value} {S0 : sh_S} (ok : mx_ok X Z R_T b_T_learn 5 (rmm 1 21)) (en : sx_end B X none (rmm 1 21) (qe V0 S0)) (hV : V0 = none) : ∀ (n : Nat) (r : sh_S) (a : Int32) (b : Int32), (∃ q k p : Nat, q ≤ 8 ∧ r 39 0 i = nI q ∧ b = nI k ∧ a = nI p ∧ p ≤ k ∧ k ≤ q ∧ q + 1 ≤ k + n) → S0 = (jn c (ls_T_learn N L n r i x a b)) → sx B X (0, 0) 132 [(0, .ref (B.2.1 20 0)), (1, .int (nI i)), (2, .int x), (3, .int a), (4, .int b)] [] (jn c r) := by
  have hB := hb.1
  intro n
  induction n with
  | zero =>
    intro r a b hh _
    obtain ⟨q, k, p, h1, h2, h3, h4, h5, h6, h7⟩ := hh
    omega
  | succ n ih =>
    intro r a b hh hS
    obtain ⟨q, k, p, h1, h2, h3, h4, h5, h6, h7⟩ := hh
    refine mr_iload ok d_T_learn_132 rfl ?_
    refine mr_aload_n ok (i := 0) d_T_learn_134 rfl rfl ?_
    refine sx_getr ok hB fl_T_59 (tm_20 hb) rfl d_T_learn_135 ?_
    refine mr_iload_n ok (i := 1) d_T_learn_138 rfl rfl ?_
    refine rx_iald ok hB rfl (tm_39 hb) (ty_0 hb) rfl (lt5 hb hi) (by decide) d_T_learn_139 ?_
    refine mr_icmp_ge ok 191 d_T_learn_140 (by decide) (fun h140_0 => ?_) (fun h140_0 => ?_)
    · refine mr_aload_n ok (i := 0) d_T_learn_191 rfl rfl ?_
      refine sx_getr ok hB fl_T_59 (tm_20 hb) rfl d_T_learn_192 ?_
      refine mr_iload_n ok (i := 1) d_T_learn_195 rfl rfl ?_
      refine mr_iload_n ok (i := 3) d_T_learn_196 rfl rfl ?_
      refine rx_iast ok hB rfl (tm_39 hb) (ty_0 hb) rfl (lt5 hb hi) (by decide) d_T_learn_197 ?_
      refine sx_vret ok en (Nat.le_refl _) (Nat.le_refl _) d_T_learn_198 ?_
      exact ⟨(by rw [hV]), (by rw [hS]; simp only [ls_T_learn, if_pos h140_0])⟩
    · refine mr_aload_n ok (i := 0) d_T_learn_143 rfl rfl ?_
      refine sx_getr ok hB fl_T_56 (tm_20 hb) rfl d_T_learn_144 ?_
      refine mr_bipush ok 8 d_T_learn_147 (by decide) ?_
      refine mr_iload_n ok (i := 1) d_T_learn_149 rfl rfl ?_
      refine mr_imul ok d_T_learn_150 ?_
      refine mr_iload ok d_T_learn_151 rfl ?_
      refine mr_iadd ok d_T_learn_153 ?_
      refine rx_ialdC ok hB rfl (tm_38 hb) (ty_0 hb) (by have := kl_lt h1 h2 h3 h6 ‹_›; exact kt_8 (lt5 hb hi) h3 (by omega)) d_T_learn_154 ?_
      refine mr_iload_n ok (i := 2) d_T_learn_155 rfl rfl ?_
      refine mr_icmp_eq ok 185 d_T_learn_156 (by decide) (fun h156_1 => ?_) (fun h156_1 => ?_)
      · refine mr_iinc ok _ d_T_learn_185 rfl rfl (by decide) ?_
        refine mr_goto ok 132 d_T_learn_188 (by decide) ?_
        refine mr_lv [(0, .ref (B.2.1 20 0)), (1, .int (nI i)), (2, .int x), (3, .int a), (4, .int (b + 1))] ⟨rfl, rfl, rfl, rfl, rfl, trivial⟩ ?_
        exact ih _ _ _ (kl_rec h1 h2 h3 h4 h5 h6 h7 ‹_› rfl (by first | exact Or.inl rfl | exact Or.inr rfl)) (hS.trans (by simp only [ls_T_learn, if_neg h140_0, if_pos h156_1]))
      · refine mr_aload_n ok (i := 0) d_T_learn_159 rfl rfl ?_
        refine sx_getr ok hB fl_T_56 (tm_20 hb) rfl d_T_learn_160 ?_
        refine mr_bipush ok 8 d_T_learn_163 (by decide) ?_
        refine mr_iload_n ok (i := 1) d_T_learn_165 rfl rfl ?_
        refine mr_imul ok d_T_learn_166 ?_
        refine mr_iload_n ok (i := 3) d_T_learn_167 rfl rfl ?_
        refine mr_iadd ok d_T_learn_168 ?_
        refine mr_aload_n ok (i := 0) d_T_learn_169 rfl rfl ?_
        refine sx_getr ok hB fl_T_56 (tm_20 hb) rfl d_T_learn_170 ?_
        refine mr_bipush ok 8 d_T_learn_173 (by decide) ?_
        refine mr_iload_n ok (i := 1) d_T_learn_175 rfl rfl ?_
        refine mr_imul ok d_T_learn_176 ?_
        refine mr_iload ok d_T_learn_177 rfl ?_
        refine mr_iadd ok d_T_learn_179 ?_
        refine rx_ialdC ok hB rfl (tm_38 hb) (ty_0 hb) (by have := kl_lt h1 h2 h3 h6 ‹_›; exact kt_8 (lt5 hb hi) h3 (by omega)) d_T_learn_180 ?_
        refine rx_iastC ok hB rfl (tm_38 hb) (ty_0 hb) (by have := kl_lt h1 h2 h3 h6 ‹_›; exact kt_8 (lt5 hb hi) h4 (by omega)) d_T_learn_181 ?_
        refine mr_iinc ok _ d_T_learn_182 rfl rfl (by decide) ?_
        refine mr_iinc ok _ d_T_learn_185 rfl rfl (by decide) ?_
        refine mr_goto ok 132 d_T_learn_188 (by decide) ?_
        refine mr_lv [(0, .ref (B.2.1 20 0)), (1, .int (nI i)), (2, .int x), (3, .int (a + 1)), (4, .int (b + 1))] ⟨rfl, rfl, rfl, rfl, rfl, trivial⟩ ?_
        exact ih _ _ _ (kl_rec h1 h2 h3 h4 h5 h6 h7 ‹_› rfl (by first | exact Or.inl rfl | exact Or.inr rfl)) (hS.trans (by simp only [ls_T_learn, if_neg h140_0, if_neg h156_1]))
def s_T_learn (N L : Nat) (r : sh_S) (i : Nat) (x : Int32) : sh_S := (let r1 := sU r 24 0 i ((r 24 0 i) + 1); (let r2 := sU r1 25 0 i ((31 * (r1 25 0 i)) + x); (let r3 := sU r2 30 0 ((((40 * (nI i)) + ((r2 24 0 i) - (r2 24 0 i) / 40 * 40)) : Int32).toNatClampNeg) x; (if ((r3 24 0 i) - (nI L)) ≤ (r3 26 0 i) then (let r4 := sU r3 29 0 i 0; (let r5 := sU r4 28 0 i 0; (if (r5 31 0 i) = 1 then (let r8 := s_T_follow N L r5 i; (let r9 := sU r8 34 0 i 0; (let r10 := sU r9 33 0 i 0; (ls_T_learn N L 9 r10 i x 0 0)))) else (let r6 := sU r5 34 0 i 0; (let r7 := sU r6 33 0 i 0; (ls_T_learn N L 9 r7 i x 0 0)))))) else (let r11 := sU r3 26 0 i ((r3 24 0 i) - (nI L)); (let r12 := sU r11 29 0 i 0; (let r13 := sU r12 28 0 i 0; (if (r13 31 0 i) = 1 then (let r16 := s_T_follow N L r13 i; (let r17 := sU r16 34 0 i 0; (let r18 := sU r17 33 0 i 0; (ls_T_learn N L 9 r18 i x 0 0)))) else (let r14 := sU r13 34 0 i 0; (let r15 := sU r14 33 0 i 0; (ls_T_learn N L 9 r15 i x 0 0)))))))))))
set_option maxHeartbeats 4000000 in
set_option maxRecDepth 100000 in
theorem c_T_learn {B : sh_B} {Z : mx_Z} {N L : Nat} {cI cR cZ : ClassId} (hb : wB B Z N L cI cR cZ) {c r : sh_S} {i : Nat} (hi : i < N) {x : Int32} (hc : rK N r) (hx : ¬ r 24 0 i + 1 < 0) : sc B Z y_T_learn b_T_learn 5 none (rmm 1 21) [.ref (B.2.1 20 0), .int (nI i), .int x] (jn c r) (qe none (jn c (s_T_learn N L r i x))) := by
  refine ct_of (by decide) (Nat.le_of_ble_eq_true rfl) (cat_of rfl) ?_
  intro X ok en _
  have hB := hb.1
  refine mr_lv [(0, .ref (B.2.1 20 0)), (1, .int (nI i)), (2, .int x)] ⟨rfl, rfl, rfl, trivial⟩ ?_
  refine mr_aload_n ok (i := 0) d_T_learn_0 rfl rfl ?_
  refine sx_getr ok hB fl_T_13 (tm_20 hb) rfl d_T_learn_1 ?_
  refine mr_iload_n ok (i := 1) d_T_learn_4 rfl rfl ?_
  refine mr_dup2 ok d_T_learn_5 rfl rfl ?_
  refine rx_iald ok hB rfl (tm_24 hb) (ty_0 hb) rfl (lt5 hb hi) (by decide) d_T_learn_6 ?_
  refine mr_iconst ok 1 d_T_learn_7 (by decide) ?_
  refine mr_iadd ok d_T_learn_8 ?_
  refine rx_iast ok hB rfl (tm_24 hb) (ty_0 hb) rfl (lt5 hb hi) (by decide) d_T_learn_9 ?_
  refine mr_aload_n ok (i := 0) d_T_learn_10 rfl rfl ?_
  refine sx_getr ok hB fl_T_17 (tm_20 hb) rfl d_T_learn_11 ?_
  refine mr_iload_n ok (i := 1) d_T_learn_14 rfl rfl ?_
  refine mr_bipush ok 31 d_T_learn_15 (by decide) ?_
  refine mr_aload_n ok (i := 0) d_T_learn_17 rfl rfl ?_
  refine sx_getr ok hB fl_T_17 (tm_20 hb) rfl d_T_learn_18 ?_
  refine mr_iload_n ok (i := 1) d_T_learn_21 rfl rfl ?_
  refine rx_iald ok hB rfl (tm_25 hb) (ty_0 hb) rfl (lt5 hb hi) (by decide) d_T_learn_22 ?_
  refine mr_imul ok d_T_learn_23 ?_
  refine mr_iload_n ok (i := 2) d_T_learn_24 rfl rfl ?_
  refine mr_iadd ok d_T_learn_25 ?_
  refine rx_iast ok hB rfl (tm_25 hb) (ty_0 hb) rfl (lt5 hb hi) (by decide) d_T_learn_26 ?_
  refine mr_aload_n ok (i := 0) d_T_learn_27 rfl rfl ?_
  refine sx_getr ok hB fl_T_32 (tm_20 hb) rfl d_T_learn_28 ?_
  refine mr_bipush ok 40 d_T_learn_31 (by decide) ?_
  refine mr_iload_n ok (i := 1) d_T_learn_33 rfl rfl ?_
  refine mr_imul ok d_T_learn_34 ?_
  refine mr_aload_n ok (i := 0) d_T_learn_35 rfl rfl ?_
  refine sx_getr ok hB fl_T_13 (tm_20 hb) rfl d_T_learn_36 ?_
  refine mr_iload_n ok (i := 1) d_T_learn_39 rfl rfl ?_
  refine rx_iald ok hB rfl (tm_24 hb) (ty_0 hb) rfl (lt5 hb hi) (by decide) d_T_learn_40 ?_
  refine mr_bipush ok 40 d_T_learn_41 (by decide) ?_
  refine mr_irem ok d_T_learn_43 (by decide) ?_
  refine mr_iadd ok d_T_learn_44 ?_
  refine mr_iload_n ok (i := 2) d_T_learn_45 rfl rfl ?_
  refine rx_iastC ok hB rfl (tm_30 hb) (ty_0 hb) (kt_40 (lt5 hb hi) (by show ¬ (sU r 24 0 i (r 24 0 i + 1)) 24 0 i < 0; rw [sU_self]; exact hx)) d_T_learn_46 ?_
  refine mr_aload_n ok (i := 0) d_T_learn_47 rfl rfl ?_
  refine sx_getr ok hB fl_T_20 (tm_20 hb) rfl d_T_learn_48 ?_
  refine mr_iload_n ok (i := 1) d_T_learn_51 rfl rfl ?_
  refine rx_iald ok hB rfl (tm_26 hb) (ty_0 hb) rfl (lt5 hb hi) (by decide) d_T_learn_52 ?_
  refine mr_aload_n ok (i := 0) d_T_learn_53 rfl rfl ?_
  refine sx_getr ok hB fl_T_13 (tm_20 hb) rfl d_T_learn_54 ?_
  refine mr_iload_n ok (i := 1) d_T_learn_57 rfl rfl ?_
  refine rx_iald ok hB rfl (tm_24 hb) (ty_0 hb) rfl (lt5 hb hi) (by decide) d_T_learn_58 ?_
  refine mr_aload_n ok (i := 0) d_T_learn_59 rfl rfl ?_
  refine sx_getr ok hB fl_T_69 (tm_20 hb) rfl d_T_learn_60 ?_
  refine mr_isub ok d_T_learn_63 ?_
  refine mr_icmp_ge ok 84 d_T_learn_64 (by decide) (fun h64_0 => ?_) (fun h64_0 => ?_)
  · refine mr_aload_n ok (i := 0) d_T_learn_84 rfl rfl ?_
    refine sx_getr ok hB fl_T_29 (tm_20 hb) rfl d_T_learn_85 ?_
    refine mr_iload_n ok (i := 1) d_T_learn_88 rfl rfl ?_
    refine mr_iconst ok 0 d_T_learn_89 (by decide) ?_
    refine rx_iast ok hB rfl (tm_29 hb) (ty_0 hb) rfl (lt5 hb hi) (by decide) d_T_learn_90 ?_
    refine mr_aload_n ok (i := 0) d_T_learn_91 rfl rfl ?_
    refine sx_getr ok hB fl_T_26 (tm_20 hb) rfl d_T_learn_92 ?_
    refine mr_iload_n ok (i := 1) d_T_learn_95 rfl rfl ?_
    refine mr_iconst ok 0 d_T_learn_96 (by decide) ?_
    refine rx_iast ok hB rfl (tm_28 hb) (ty_0 hb) rfl (lt5 hb hi) (by decide) d_T_learn_97 ?_
    refine mr_aload_n ok (i := 0) d_T_learn_98 rfl rfl ?_
    refine sx_getr ok hB fl_T_35 (tm_20 hb) rfl d_T_learn_99 ?_
    refine mr_iload_n ok (i := 1) d_T_learn_102 rfl rfl ?_
    refine rx_iald ok hB rfl (tm_31 hb) (ty_0 hb) rfl (lt5 hb hi) (by decide) d_T_learn_103 ?_
    refine mr_iconst ok 1 d_T_learn_104 (by decide) ?_
    refine mr_icmp_ne ok 113 d_T_learn_105 (by decide) (fun h105_1 => ?_) (fun h105_1 => ?_)
    · refine mr_aload_n ok (i := 0) d_T_learn_113 rfl rfl ?_
      refine sx_getr ok hB fl_T_44 (tm_20 hb) rfl d_T_learn_114 ?_
      refine mr_iload_n ok (i := 1) d_T_learn_117 rfl rfl ?_
      refine mr_iconst ok 0 d_T_learn_118 (by decide) ?_
      refine rx_iast ok hB rfl (tm_34 hb) (ty_0 hb) rfl (lt5 hb hi) (by decide) d_T_learn_119 ?_
      refine mr_aload_n ok (i := 0) d_T_learn_120 rfl rfl ?_
      refine sx_getr ok hB fl_T_41 (tm_20 hb) rfl d_T_learn_121 ?_
      refine mr_iload_n ok (i := 1) d_T_learn_124 rfl rfl ?_
      refine mr_iconst ok 0 d_T_learn_125 (by decide) ?_
      refine rx_iast ok hB rfl (tm_33 hb) (ty_0 hb) rfl (lt5 hb hi) (by decide) d_T_learn_126 ?_
      refine mr_iconst ok 0 d_T_learn_127 (by decide) ?_
      refine mr_istore_n ok (i := 3) d_T_learn_128 rfl (by decide) ?_
      refine mr_iconst ok 0 d_T_learn_129 (by decide) ?_
      refine mr_istore ok d_T_learn_130 (by decide) ?_
      refine mr_lv [(0, .ref (B.2.1 20 0)), (1, .int (nI i)), (2, .int x), (3, .int 0), (4, .int 0)] ⟨rfl, rfl, rfl, rfl, rfl, trivial⟩ ?_
      exact l_T_learn hb hi ok en rfl 9 _ _ _ (kl_init (hc.2 i hi).1) (by simp only [s_T_learn, if_pos h64_0, if_neg h105_1])
    · refine mr_aload_n ok (i := 0) d_T_learn_108 rfl rfl ?_
      refine mr_iload_n ok (i := 1) d_T_learn_109 rfl rfl ?_
      refine sx_cVv ok hB [_] rfl cb_T_92 cv_T_follow (tm_20 hb) rfl rfl (c_T_follow hb hi) rfl (Nat.le_of_ble_eq_true rfl) (by decide) ⟨Nat.le_refl _, Nat.le_refl _⟩ d_T_learn_110 ?_
      refine mr_aload_n ok (i := 0) d_T_learn_113 rfl rfl ?_
      refine sx_getr ok hB fl_T_44 (tm_20 hb) rfl d_T_learn_114 ?_
      refine mr_iload_n ok (i := 1) d_T_learn_117 rfl rfl ?_
      refine mr_iconst ok 0 d_T_learn_118 (by decide) ?_
      refine rx_iast ok hB rfl (tm_34 hb) (ty_0 hb) rfl (lt5 hb hi) (by decide) d_T_learn_119 ?_
      refine mr_aload_n ok (i := 0) d_T_learn_120 rfl rfl ?_
      refine sx_getr ok hB fl_T_41 (tm_20 hb) rfl d_T_learn_121 ?_
      refine mr_iload_n ok (i := 1) d_T_learn_124 rfl rfl ?_
      refine mr_iconst ok 0 d_T_learn_125 (by decide) ?_
      refine rx_iast ok hB rfl (tm_33 hb) (ty_0 hb) rfl (lt5 hb hi) (by decide) d_T_learn_126 ?_
      refine mr_iconst ok 0 d_T_learn_127 (by decide) ?_
      refine mr_istore_n ok (i := 3) d_T_learn_128 rfl (by decide) ?_
      refine mr_iconst ok 0 d_T_learn_129 (by decide) ?_
      refine mr_istore ok d_T_learn_130 (by decide) ?_
      refine mr_lv [(0, .ref (B.2.1 20 0)), (1, .int (nI i)), (2, .int x), (3, .int 0), (4, .int 0)] ⟨rfl, rfl, rfl, rfl, rfl, trivial⟩ ?_
      exact l_T_learn hb hi ok en rfl 9 _ _ _ (kl_init (hc.2 i hi).1) (by simp only [s_T_learn, if_pos h64_0, if_pos h105_1])
  · refine mr_aload_n ok (i := 0) d_T_learn_67 rfl rfl ?_
    refine sx_getr ok hB fl_T_20 (tm_20 hb) rfl d_T_learn_68 ?_
    refine mr_iload_n ok (i := 1) d_T_learn_71 rfl rfl ?_
    refine mr_aload_n ok (i := 0) d_T_learn_72 rfl rfl ?_
    refine sx_getr ok hB fl_T_13 (tm_20 hb) rfl d_T_learn_73 ?_
    refine mr_iload_n ok (i := 1) d_T_learn_76 rfl rfl ?_
    refine rx_iald ok hB rfl (tm_24 hb) (ty_0 hb) rfl (lt5 hb hi) (by decide) d_T_learn_77 ?_
    refine mr_aload_n ok (i := 0) d_T_learn_78 rfl rfl ?_
    refine sx_getr ok hB fl_T_69 (tm_20 hb) rfl d_T_learn_79 ?_
    refine mr_isub ok d_T_learn_82 ?_
    refine rx_iast ok hB rfl (tm_26 hb) (ty_0 hb) rfl (lt5 hb hi) (by decide) d_T_learn_83 ?_
    refine mr_aload_n ok (i := 0) d_T_learn_84 rfl rfl ?_
    refine sx_getr ok hB fl_T_29 (tm_20 hb) rfl d_T_learn_85 ?_
    refine mr_iload_n ok (i := 1) d_T_learn_88 rfl rfl ?_
    refine mr_iconst ok 0 d_T_learn_89 (by decide) ?_
    refine rx_iast ok hB rfl (tm_29 hb) (ty_0 hb) rfl (lt5 hb hi) (by decide) d_T_learn_90 ?_
    refine mr_aload_n ok (i := 0) d_T_learn_91 rfl rfl ?_
    refine sx_getr ok hB fl_T_26 (tm_20 hb) rfl d_T_learn_92 ?_
    refine mr_iload_n ok (i := 1) d_T_learn_95 rfl rfl ?_
    refine mr_iconst ok 0 d_T_learn_96 (by decide) ?_
    refine rx_iast ok hB rfl (tm_28 hb) (ty_0 hb) rfl (lt5 hb hi) (by decide) d_T_learn_97 ?_
    refine mr_aload_n ok (i := 0) d_T_learn_98 rfl rfl ?_
    refine sx_getr ok hB fl_T_35 (tm_20 hb) rfl d_T_learn_99 ?_
    refine mr_iload_n ok (i := 1) d_T_learn_102 rfl rfl ?_
    refine rx_iald ok hB rfl (tm_31 hb) (ty_0 hb) rfl (lt5 hb hi) (by decide) d_T_learn_103 ?_
    refine mr_iconst ok 1 d_T_learn_104 (by decide) ?_
    refine mr_icmp_ne ok 113 d_T_learn_105 (by decide) (fun h105_1 => ?_) (fun h105_1 => ?_)
    · refine mr_aload_n ok (i := 0) d_T_learn_113 rfl rfl ?_
      refine sx_getr ok hB fl_T_44 (tm_20 hb) rfl d_T_learn_114 ?_
      refine mr_iload_n ok (i := 1) d_T_learn_117 rfl rfl ?_
      refine mr_iconst ok 0 d_T_learn_118 (by decide) ?_
      refine rx_iast ok hB rfl (tm_34 hb) (ty_0 hb) rfl (lt5 hb hi) (by decide) d_T_learn_119 ?_
      refine mr_aload_n ok (i := 0) d_T_learn_120 rfl rfl ?_
      refine sx_getr ok hB fl_T_41 (tm_20 hb) rfl d_T_learn_121 ?_
      refine mr_iload_n ok (i := 1) d_T_learn_124 rfl rfl ?_
      refine mr_iconst ok 0 d_T_learn_125 (by decide) ?_
      refine rx_iast ok hB rfl (tm_33 hb) (ty_0 hb) rfl (lt5 hb hi) (by decide) d_T_learn_126 ?_
      refine mr_iconst ok 0 d_T_learn_127 (by decide) ?_
      refine mr_istore_n ok (i := 3) d_T_learn_128 rfl (by decide) ?_
      refine mr_iconst ok 0 d_T_learn_129 (by decide) ?_
      refine mr_istore ok d_T_learn_130 (by decide) ?_
      refine mr_lv [(0, .ref (B.2.1 20 0)), (1, .int (nI i)), (2, .int x), (3, .int 0), (4, .int 0)] ⟨rfl, rfl, rfl, rfl, rfl, trivial⟩ ?_
      exact l_T_learn hb hi ok en rfl 9 _ _ _ (kl_init (hc.2 i hi).1) (by simp only [s_T_learn, if_neg h64_0, if_neg h105_1])
    · refine mr_aload_n ok (i := 0) d_T_learn_108 rfl rfl ?_
      refine mr_iload_n ok (i := 1) d_T_learn_109 rfl rfl ?_
      refine sx_cVv ok hB [_] rfl cb_T_92 cv_T_follow (tm_20 hb) rfl rfl (c_T_follow hb hi) rfl (Nat.le_of_ble_eq_true rfl) (by decide) ⟨Nat.le_refl _, Nat.le_refl _⟩ d_T_learn_110 ?_
      refine mr_aload_n ok (i := 0) d_T_learn_113 rfl rfl ?_
      refine sx_getr ok hB fl_T_44 (tm_20 hb) rfl d_T_learn_114 ?_
      refine mr_iload_n ok (i := 1) d_T_learn_117 rfl rfl ?_
      refine mr_iconst ok 0 d_T_learn_118 (by decide) ?_
      refine rx_iast ok hB rfl (tm_34 hb) (ty_0 hb) rfl (lt5 hb hi) (by decide) d_T_learn_119 ?_
      refine mr_aload_n ok (i := 0) d_T_learn_120 rfl rfl ?_
      refine sx_getr ok hB fl_T_41 (tm_20 hb) rfl d_T_learn_121 ?_
      refine mr_iload_n ok (i := 1) d_T_learn_124 rfl rfl ?_
      refine mr_iconst ok 0 d_T_learn_125 (by decide) ?_
      refine rx_iast ok hB rfl (tm_33 hb) (ty_0 hb) rfl (lt5 hb hi) (by decide) d_T_learn_126 ?_
      refine mr_iconst ok 0 d_T_learn_127 (by decide) ?_
      refine mr_istore_n ok (i := 3) d_T_learn_128 rfl (by decide) ?_
      refine mr_iconst ok 0 d_T_learn_129 (by decide) ?_
      refine mr_istore ok d_T_learn_130 (by decide) ?_
      refine mr_lv [(0, .ref (B.2.1 20 0)), (1, .int (nI i)), (2, .int x), (3, .int 0), (4, .int 0)] ⟨rfl, rfl, rfl, rfl, rfl, trivial⟩ ?_
      exact l_T_learn hb hi ok en rfl 9 _ _ _ (kl_init (hc.2 i hi).1) (by simp only [s_T_learn, if_neg h64_0, if_pos h105_1])
theorem rK_set39 {N : Nat} {r : sh_S} {i : Nat} {v : Int32} (hc : rK N r) (h : ∃ q : Nat, q ≤ 8 ∧ v = nI q) : rK N (sU r 39 0 i v) := by
  refine ⟨hc.1, fun i' hi' => ⟨?_, (hc.2 i' hi').2⟩⟩
  show ∃ q : Nat, q ≤ 8 ∧ (bif Nat.beq i' i then v else r 39 0 i') = nI q
  cases Nat.beq i' i with
  | true => exact h
  | false => exact (hc.2 i' hi').1
theorem rK_set24 {N : Nat} {r : sh_S} {i : Nat} {v : Int32} (hc : rK N r) (h : ¬ v < 0) : rK N (sU r 24 0 i v) := by
  refine ⟨hc.1, fun i' hi' => ⟨(hc.2 i' hi').1, ?_, (hc.2 i' hi').2.2⟩⟩
  show ¬ (bif Nat.beq i' i then v else r 24 0 i') < 0
  cases Nat.beq i' i with
  | true => exact h
  | false => exact (hc.2 i' hi').2.1
theorem rK_set26 {N : Nat} {r : sh_S} {i : Nat} {v : Int32} (hc : rK N r) (h : ¬ v < 0) : rK N (sU r 26 0 i v) := by
  refine ⟨hc.1, fun i' hi' => ⟨(hc.2 i' hi').1, (hc.2 i' hi').2.1, ?_⟩⟩
  show ¬ (bif Nat.beq i' i then v else r 26 0 i') < 0
  cases Nat.beq i' i with
  | true => exact h
  | false => exact (hc.2 i' hi').2.2
theorem rK_lslearn {N L : Nat} {i : Nat} {x : Int32} : ∀ (n : Nat) (r : sh_S) (a b : Int32), rK N r → (∃ q k p : Nat, q ≤ 8 ∧ r 39 0 i = nI q ∧ b = nI k ∧ a = nI p ∧ p ≤ k ∧ k ≤ q ∧ q + 1 ≤ k + n) → rK N (ls_T_learn N L n r i x a b) := by
  intro n
  induction n with
  | zero =>
    intro r a b hc _
    exact hc
  | succ n ih =>
    intro r a b hc hh
    obtain ⟨q, k, p, h1, h2, h3, h4, h5, h6, h7⟩ := hh
    unfold ls_T_learn
    split
    · exact rK_set39 hc ⟨p, by omega, h4⟩
    next h =>
      split
      · exact ih _ _ _ hc (kl_rec h1 h2 h3 h4 h5 h6 h7 h rfl (Or.inl rfl))
      · exact ih _ _ _ hc (kl_rec h1 h2 h3 h4 h5 h6 h7 h rfl (Or.inr rfl))
theorem rK_T_learn {N L : Nat} {r : sh_S} {i : Nat} {x : Int32} (hi : i < N) (hx : ¬ r 24 0 i + 1 < 0) (hc : rK N r) : rK N (s_T_learn N L r i x) := by
  unfold s_T_learn
  dsimp only
  have h0 : rK N (sU r 24 0 i (r 24 0 i + 1)) := rK_set24 hc hx
  split
  · split
    · exact rK_lslearn 9 _ _ _ h0 (kl_init (hc.2 i hi).1)
    · exact rK_lslearn 9 _ _ _ h0 (kl_init (hc.2 i hi).1)
  next h =>
    have h1 := kt_lnn' (hc.2 i hi).2.2 h
    have h2 : rK N (sU (sU r 24 0 i (r 24 0 i + 1)) 26 0 i _) := rK_set26 h0 h1
    split
    · exact rK_lslearn 9 _ _ _ h2 (kl_init (hc.2 i hi).1)
    · exact rK_lslearn 9 _ _ _ h2 (kl_init (hc.2 i hi).1)

def s_T_help (N L : Nat) (r : sh_S) (i : Nat) (x : Int32) (y : Int32) : sh_S := (if y ≤ (r 26 0 i) then (let r1 := s_T_send N L r 8 (nI i) x 0 (r 24 0 i) (r 25 0 i) 0; r1) else (if (r 24 0 i) < y then (let r2 := s_T_send N L r 8 (nI i) x 0 (r 24 0 i) (r 25 0 i) 0; r2) else (let r3 := s_T_send N L r 5 (nI i) x 0 y (r 30 0 ((((40 * (nI i)) + (y - y / 40 * 40)) : Int32).toNatClampNeg)) 0; r3)))
set_option maxHeartbeats 4000000 in
set_option maxRecDepth 100000 in
theorem c_T_help {B : sh_B} {Z : mx_Z} {N L : Nat} {cI cR cZ : ClassId} (hb : wB B Z N L cI cR cZ) {c r : sh_S} {i : Nat} (hi : i < N) {x : Int32} {y : Int32} (hc : rK N r) : sc B Z y_T_help b_T_help 4 none (rmm 1 28) [.ref (B.2.1 20 0), .int (nI i), .int x, .int y] (jn c r) (qe none (jn c (s_T_help N L r i x y))) := by
  refine ct_of (by decide) (Nat.le_of_ble_eq_true rfl) (cat_of rfl) ?_
  intro X ok en _
  have hB := hb.1
  refine mr_lv [(0, .ref (B.2.1 20 0)), (1, .int (nI i)), (2, .int x), (3, .int y)] ⟨rfl, rfl, rfl, rfl, trivial⟩ ?_
  refine mr_iload_n ok (i := 3) d_T_help_0 rfl rfl ?_
  refine mr_aload_n ok (i := 0) d_T_help_1 rfl rfl ?_
  refine sx_getr ok hB fl_T_20 (tm_20 hb) rfl d_T_help_2 ?_
  refine mr_iload_n ok (i := 1) d_T_help_5 rfl rfl ?_
  refine rx_iald ok hB rfl (tm_26 hb) (ty_0 hb) rfl (lt5 hb hi) (by decide) d_T_help_6 ?_
  refine mr_icmp_le ok 47 d_T_help_7 (by decide) (fun h7_0 => ?_) (fun h7_0 => ?_)
  · refine mr_aload_n ok (i := 0) d_T_help_47 rfl rfl ?_
    refine mr_bipush ok 8 d_T_help_48 (by decide) ?_
    refine mr_iload_n ok (i := 1) d_T_help_50 rfl rfl ?_
    refine mr_iload_n ok (i := 2) d_T_help_51 rfl rfl ?_
    refine mr_iconst ok 0 d_T_help_52 (by decide) ?_
    refine mr_aload_n ok (i := 0) d_T_help_53 rfl rfl ?_
    refine sx_getr ok hB fl_T_13 (tm_20 hb) rfl d_T_help_54 ?_
    refine mr_iload_n ok (i := 1) d_T_help_57 rfl rfl ?_
    refine rx_iald ok hB rfl (tm_24 hb) (ty_0 hb) rfl (lt5 hb hi) (by decide) d_T_help_58 ?_
    refine mr_aload_n ok (i := 0) d_T_help_59 rfl rfl ?_
    refine sx_getr ok hB fl_T_17 (tm_20 hb) rfl d_T_help_60 ?_
    refine mr_iload_n ok (i := 1) d_T_help_63 rfl rfl ?_
    refine rx_iald ok hB rfl (tm_25 hb) (ty_0 hb) rfl (lt5 hb hi) (by decide) d_T_help_64 ?_
    refine mr_iconst ok 0 d_T_help_65 (by decide) ?_
    refine sx_cVv ok hB [_, _, _, _, _, _, _] rfl cb_T_88 cv_T_send (tm_20 hb) rfl rfl (c_T_send hb (by exact hc.1)) rfl (Nat.le_of_ble_eq_true rfl) (by decide) ⟨Nat.le_refl _, Nat.le_refl _⟩ d_T_help_66 ?_
    have hc : rK N (s_T_send N L r 8 (nI i) x 0 (r 24 0 i) (r 25 0 i) 0) := rK_T_send (L := L) hc
    refine sx_vret ok en (Nat.le_refl _) (Nat.le_refl _) d_T_help_69 ?_
    exact ⟨rfl, (by first | rfl | simp only [s_T_help, if_pos h7_0])⟩
  · refine mr_iload_n ok (i := 3) d_T_help_10 rfl rfl ?_
    refine mr_aload_n ok (i := 0) d_T_help_11 rfl rfl ?_
    refine sx_getr ok hB fl_T_13 (tm_20 hb) rfl d_T_help_12 ?_
    refine mr_iload_n ok (i := 1) d_T_help_15 rfl rfl ?_
    refine rx_iald ok hB rfl (tm_24 hb) (ty_0 hb) rfl (lt5 hb hi) (by decide) d_T_help_16 ?_
    refine mr_icmp_gt ok 47 d_T_help_17 (by decide) (fun h17_1 => ?_) (fun h17_1 => ?_)
    · refine mr_aload_n ok (i := 0) d_T_help_47 rfl rfl ?_
      refine mr_bipush ok 8 d_T_help_48 (by decide) ?_
      refine mr_iload_n ok (i := 1) d_T_help_50 rfl rfl ?_
      refine mr_iload_n ok (i := 2) d_T_help_51 rfl rfl ?_
      refine mr_iconst ok 0 d_T_help_52 (by decide) ?_
      refine mr_aload_n ok (i := 0) d_T_help_53 rfl rfl ?_
      refine sx_getr ok hB fl_T_13 (tm_20 hb) rfl d_T_help_54 ?_
      refine mr_iload_n ok (i := 1) d_T_help_57 rfl rfl ?_
      refine rx_iald ok hB rfl (tm_24 hb) (ty_0 hb) rfl (lt5 hb hi) (by decide) d_T_help_58 ?_
      refine mr_aload_n ok (i := 0) d_T_help_59 rfl rfl ?_
      refine sx_getr ok hB fl_T_17 (tm_20 hb) rfl d_T_help_60 ?_
      refine mr_iload_n ok (i := 1) d_T_help_63 rfl rfl ?_
      refine rx_iald ok hB rfl (tm_25 hb) (ty_0 hb) rfl (lt5 hb hi) (by decide) d_T_help_64 ?_
      refine mr_iconst ok 0 d_T_help_65 (by decide) ?_
      refine sx_cVv ok hB [_, _, _, _, _, _, _] rfl cb_T_88 cv_T_send (tm_20 hb) rfl rfl (c_T_send hb (by exact hc.1)) rfl (Nat.le_of_ble_eq_true rfl) (by decide) ⟨Nat.le_refl _, Nat.le_refl _⟩ d_T_help_66 ?_
      have hc : rK N (s_T_send N L r 8 (nI i) x 0 (r 24 0 i) (r 25 0 i) 0) := rK_T_send (L := L) hc
      refine sx_vret ok en (Nat.le_refl _) (Nat.le_refl _) d_T_help_69 ?_
      exact ⟨rfl, (by first | rfl | simp only [s_T_help, if_neg h7_0, if_pos h17_1])⟩
    · refine mr_aload_n ok (i := 0) d_T_help_20 rfl rfl ?_
      refine mr_iconst ok 5 d_T_help_21 (by decide) ?_
      refine mr_iload_n ok (i := 1) d_T_help_22 rfl rfl ?_
      refine mr_iload_n ok (i := 2) d_T_help_23 rfl rfl ?_
      refine mr_iconst ok 0 d_T_help_24 (by decide) ?_
      refine mr_iload_n ok (i := 3) d_T_help_25 rfl rfl ?_
      refine mr_aload_n ok (i := 0) d_T_help_26 rfl rfl ?_
      refine sx_getr ok hB fl_T_32 (tm_20 hb) rfl d_T_help_27 ?_
      refine mr_bipush ok 40 d_T_help_30 (by decide) ?_
      refine mr_iload_n ok (i := 1) d_T_help_32 rfl rfl ?_
      refine mr_imul ok d_T_help_33 ?_
      refine mr_iload_n ok (i := 3) d_T_help_34 rfl rfl ?_
      refine mr_bipush ok 40 d_T_help_35 (by decide) ?_
      refine mr_irem ok d_T_help_37 (by decide) ?_
      refine mr_iadd ok d_T_help_38 ?_
      refine rx_ialdC ok hB rfl (tm_30 hb) (ty_0 hb) (kt_40 (lt5 hb hi) (kt_lnn' (hc.2 i hi).2.2 ‹_›)) d_T_help_39 ?_
      refine mr_iconst ok 0 d_T_help_40 (by decide) ?_
      refine sx_cVv ok hB [_, _, _, _, _, _, _] rfl cb_T_88 cv_T_send (tm_20 hb) rfl rfl (c_T_send hb (by exact hc.1)) rfl (Nat.le_of_ble_eq_true rfl) (by decide) ⟨Nat.le_refl _, Nat.le_refl _⟩ d_T_help_41 ?_
      have hc : rK N (s_T_send N L r 5 (nI i) x 0 y (r 30 0 ((((40 * (nI i)) + (y - y / 40 * 40)) : Int32).toNatClampNeg)) 0) := rK_T_send (L := L) hc
      refine mr_goto ok 69 d_T_help_44 (by decide) ?_
      refine sx_vret ok en (Nat.le_refl _) (Nat.le_refl _) d_T_help_69 ?_
      exact ⟨rfl, (by first | rfl | simp only [s_T_help, if_neg h7_0, if_neg h17_1])⟩
def s_T_prepared (N L : Nat) (r : sh_S) (i : Nat) (x : Int32) (y : Int32) (z : Int32) : sh_S := (if (r 24 0 i) < z then (if y < (r 27 0 i) then (let r1 := s_T_send N L r 7 (nI i) x (r 27 0 i) 0 0 0; r1) else (let r2 := sU r 27 0 i y; (let r3 := s_T_follow N L r2 i; (if z = ((r3 24 0 i) + 1) then (if (r3 29 0 i) ≤ 0 then (let r5 := s_T_send N L r3 2 (nI i) x y z 0 0; r5) else (let r6 := s_T_send N L r3 2 (nI i) x y z (r3 29 0 i) (r3 28 0 i); r6)) else (let r4 := s_T_send N L r3 2 (nI i) x y z 0 0; r4))))) else (let r7 := s_T_help N L r i x z; r7))
set_option maxHeartbeats 4000000 in
set_option maxRecDepth 100000 in
theorem c_T_prepared {B : sh_B} {Z : mx_Z} {N L : Nat} {cI cR cZ : ClassId} (hb : wB B Z N L cI cR cZ) {c r : sh_S} {i : Nat} (hi : i < N) {x : Int32} {y : Int32} {z : Int32} (hc : rK N r) : sc B Z y_T_prepared b_T_prepared 6 none (rmm 2 51) [.ref (B.2.1 20 0), .int (nI i), .int x, .int y, .int z] (jn c r) (qe none (jn c (s_T_prepared N L r i x y z))) := by
  refine ct_of (by decide) (Nat.le_of_ble_eq_true rfl) (cat_of rfl) ?_
  intro X ok en _
  have hB := hb.1
  refine mr_lv [(0, .ref (B.2.1 20 0)), (1, .int (nI i)), (2, .int x), (3, .int y), (4, .int z)] ⟨rfl, rfl, rfl, rfl, rfl, trivial⟩ ?_
  refine mr_iload ok d_T_prepared_0 rfl ?_
  refine mr_aload_n ok (i := 0) d_T_prepared_2 rfl rfl ?_
  refine sx_getr ok hB fl_T_13 (tm_20 hb) rfl d_T_prepared_3 ?_
  refine mr_iload_n ok (i := 1) d_T_prepared_6 rfl rfl ?_
  refine rx_iald ok hB rfl (tm_24 hb) (ty_0 hb) rfl (lt5 hb hi) (by decide) d_T_prepared_7 ?_
  refine mr_icmp_gt ok 22 d_T_prepared_8 (by decide) (fun h8_0 => ?_) (fun h8_0 => ?_)
  · refine mr_iload_n ok (i := 3) d_T_prepared_22 rfl rfl ?_
    refine mr_aload_n ok (i := 0) d_T_prepared_23 rfl rfl ?_
    refine sx_getr ok hB fl_T_23 (tm_20 hb) rfl d_T_prepared_24 ?_
    refine mr_iload_n ok (i := 1) d_T_prepared_27 rfl rfl ?_
    refine rx_iald ok hB rfl (tm_27 hb) (ty_0 hb) rfl (lt5 hb hi) (by decide) d_T_prepared_28 ?_
    refine mr_icmp_lt ok 116 d_T_prepared_29 (by decide) (fun h29_1 => ?_) (fun h29_1 => ?_)
    · refine mr_aload_n ok (i := 0) d_T_prepared_116 rfl rfl ?_
      refine mr_bipush ok 7 d_T_prepared_117 (by decide) ?_
      refine mr_iload_n ok (i := 1) d_T_prepared_119 rfl rfl ?_
      refine mr_iload_n ok (i := 2) d_T_prepared_120 rfl rfl ?_
      refine mr_aload_n ok (i := 0) d_T_prepared_121 rfl rfl ?_
      refine sx_getr ok hB fl_T_23 (tm_20 hb) rfl d_T_prepared_122 ?_
      refine mr_iload_n ok (i := 1) d_T_prepared_125 rfl rfl ?_
      refine rx_iald ok hB rfl (tm_27 hb) (ty_0 hb) rfl (lt5 hb hi) (by decide) d_T_prepared_126 ?_
      refine mr_iconst ok 0 d_T_prepared_127 (by decide) ?_
      refine mr_iconst ok 0 d_T_prepared_128 (by decide) ?_
      refine mr_iconst ok 0 d_T_prepared_129 (by decide) ?_
      refine sx_cVv ok hB [_, _, _, _, _, _, _] rfl cb_T_88 cv_T_send (tm_20 hb) rfl rfl (c_T_send hb (by exact hc.1)) rfl (Nat.le_of_ble_eq_true rfl) (by decide) ⟨Nat.le_refl _, Nat.le_refl _⟩ d_T_prepared_130 ?_
      have hc : rK N (s_T_send N L r 7 (nI i) x (r 27 0 i) 0 0 0) := rK_T_send (L := L) hc
      refine sx_vret ok en (Nat.le_refl _) (Nat.le_refl _) d_T_prepared_133 ?_
      exact ⟨rfl, (by first | rfl | simp only [s_T_prepared, if_pos h8_0, if_pos h29_1])⟩
    · refine mr_aload_n ok (i := 0) d_T_prepared_32 rfl rfl ?_
      refine sx_getr ok hB fl_T_23 (tm_20 hb) rfl d_T_prepared_33 ?_
      refine mr_iload_n ok (i := 1) d_T_prepared_36 rfl rfl ?_
      refine mr_iload_n ok (i := 3) d_T_prepared_37 rfl rfl ?_
      refine rx_iast ok hB rfl (tm_27 hb) (ty_0 hb) rfl (lt5 hb hi) (by decide) d_T_prepared_38 ?_
      refine mr_aload_n ok (i := 0) d_T_prepared_39 rfl rfl ?_
      refine mr_iload_n ok (i := 1) d_T_prepared_40 rfl rfl ?_
      refine sx_cVv ok hB [_] rfl cb_T_92 cv_T_follow (tm_20 hb) rfl rfl (c_T_follow hb hi) rfl (Nat.le_of_ble_eq_true rfl) (by decide) ⟨Nat.le_refl _, Nat.le_refl _⟩ d_T_prepared_41 ?_
      refine mr_iload ok d_T_prepared_44 rfl ?_
      refine mr_aload_n ok (i := 0) d_T_prepared_46 rfl rfl ?_
      refine sx_getr ok hB fl_T_13 (tm_20 hb) rfl d_T_prepared_47 ?_
      refine mr_iload_n ok (i := 1) d_T_prepared_50 rfl rfl ?_
      refine rx_iald ok hB rfl (tm_24 hb) (ty_0 hb) rfl (lt5 hb hi) (by decide) d_T_prepared_51 ?_
      refine mr_iconst ok 1 d_T_prepared_52 (by decide) ?_
      refine mr_iadd ok d_T_prepared_53 ?_
      refine mr_icmp_ne ok 70 d_T_prepared_54 (by decide) (fun h54_2 => ?_) (fun h54_2 => ?_)
      · refine mr_iconst ok 0 d_T_prepared_70 (by decide) ?_
        refine mr_istore ok d_T_prepared_71 (by decide) ?_
        refine mr_aload_n ok (i := 0) d_T_prepared_73 rfl rfl ?_
        refine mr_iconst ok 2 d_T_prepared_74 (by decide) ?_
        refine mr_iload_n ok (i := 1) d_T_prepared_75 rfl rfl ?_
        refine mr_iload_n ok (i := 2) d_T_prepared_76 rfl rfl ?_
        refine mr_iload_n ok (i := 3) d_T_prepared_77 rfl rfl ?_
        refine mr_iload ok d_T_prepared_78 rfl ?_
        refine mr_iload ok d_T_prepared_80 rfl ?_
        refine mr_if_eq ok 94 d_T_prepared_82 (by decide) (fun _ => ?_) (fun h => absurd h (by decide))
        refine mr_iconst ok 0 d_T_prepared_94 (by decide) ?_
        refine mr_iload ok d_T_prepared_95 rfl ?_
        refine mr_if_eq ok 109 d_T_prepared_97 (by decide) (fun _ => ?_) (fun h => absurd h (by decide))
        refine mr_iconst ok 0 d_T_prepared_109 (by decide) ?_
        refine sx_cVv ok hB [_, _, _, _, _, _, _] rfl cb_T_88 cv_T_send (tm_20 hb) rfl rfl (c_T_send hb (by exact hc.1)) rfl (Nat.le_of_ble_eq_true rfl) (by decide) ⟨Nat.le_refl _, Nat.le_refl _⟩ d_T_prepared_110 ?_
        have hc : rK N (s_T_send N L (s_T_follow N L (sU r 27 0 i y) i) 2 (nI i) x y z 0 0) := rK_T_send (L := L) hc
        refine mr_goto ok 133 d_T_prepared_113 (by decide) ?_
        refine sx_vret ok en (Nat.le_refl _) (Nat.le_refl _) d_T_prepared_133 ?_
        exact ⟨rfl, (by first | rfl | simp only [s_T_prepared, if_pos h8_0, if_neg h29_1, if_neg h54_2])⟩
      · refine mr_aload_n ok (i := 0) d_T_prepared_57 rfl rfl ?_
        refine sx_getr ok hB fl_T_29 (tm_20 hb) rfl d_T_prepared_58 ?_
        refine mr_iload_n ok (i := 1) d_T_prepared_61 rfl rfl ?_
        refine rx_iald ok hB rfl (tm_29 hb) (ty_0 hb) rfl (lt5 hb hi) (by decide) d_T_prepared_62 ?_
        refine mr_if_le ok 70 d_T_prepared_63 (by decide) (fun h63_3 => ?_) (fun h63_3 => ?_)
        · refine mr_iconst ok 0 d_T_prepared_70 (by decide) ?_
          refine mr_istore ok d_T_prepared_71 (by decide) ?_
          refine mr_aload_n ok (i := 0) d_T_prepared_73 rfl rfl ?_
          refine mr_iconst ok 2 d_T_prepared_74 (by decide) ?_
          refine mr_iload_n ok (i := 1) d_T_prepared_75 rfl rfl ?_
          refine mr_iload_n ok (i := 2) d_T_prepared_76 rfl rfl ?_
          refine mr_iload_n ok (i := 3) d_T_prepared_77 rfl rfl ?_
          refine mr_iload ok d_T_prepared_78 rfl ?_
          refine mr_iload ok d_T_prepared_80 rfl ?_
          refine mr_if_eq ok 94 d_T_prepared_82 (by decide) (fun _ => ?_) (fun h => absurd h (by decide))
          refine mr_iconst ok 0 d_T_prepared_94 (by decide) ?_
          refine mr_iload ok d_T_prepared_95 rfl ?_
          refine mr_if_eq ok 109 d_T_prepared_97 (by decide) (fun _ => ?_) (fun h => absurd h (by decide))
          refine mr_iconst ok 0 d_T_prepared_109 (by decide) ?_
          refine sx_cVv ok hB [_, _, _, _, _, _, _] rfl cb_T_88 cv_T_send (tm_20 hb) rfl rfl (c_T_send hb (by exact hc.1)) rfl (Nat.le_of_ble_eq_true rfl) (by decide) ⟨Nat.le_refl _, Nat.le_refl _⟩ d_T_prepared_110 ?_
          have hc : rK N (s_T_send N L (s_T_follow N L (sU r 27 0 i y) i) 2 (nI i) x y z 0 0) := rK_T_send (L := L) hc
          refine mr_goto ok 133 d_T_prepared_113 (by decide) ?_
          refine sx_vret ok en (Nat.le_refl _) (Nat.le_refl _) d_T_prepared_133 ?_
          exact ⟨rfl, (by first | rfl | simp only [s_T_prepared, if_pos h8_0, if_neg h29_1, if_pos h54_2, if_pos h63_3])⟩
        · refine mr_iconst ok 1 d_T_prepared_66 (by decide) ?_
          refine mr_goto ok 71 d_T_prepared_67 (by decide) ?_
          refine mr_istore ok d_T_prepared_71 (by decide) ?_
          refine mr_aload_n ok (i := 0) d_T_prepared_73 rfl rfl ?_
          refine mr_iconst ok 2 d_T_prepared_74 (by decide) ?_
          refine mr_iload_n ok (i := 1) d_T_prepared_75 rfl rfl ?_
          refine mr_iload_n ok (i := 2) d_T_prepared_76 rfl rfl ?_
          refine mr_iload_n ok (i := 3) d_T_prepared_77 rfl rfl ?_
          refine mr_iload ok d_T_prepared_78 rfl ?_
          refine mr_iload ok d_T_prepared_80 rfl ?_
          refine mr_if_eq ok 94 d_T_prepared_82 (by decide) (fun h => absurd h (by decide)) (fun _ => ?_)
          refine mr_aload_n ok (i := 0) d_T_prepared_85 rfl rfl ?_
          refine sx_getr ok hB fl_T_29 (tm_20 hb) rfl d_T_prepared_86 ?_
          refine mr_iload_n ok (i := 1) d_T_prepared_89 rfl rfl ?_
          refine rx_iald ok hB rfl (tm_29 hb) (ty_0 hb) rfl (lt5 hb hi) (by decide) d_T_prepared_90 ?_
          refine mr_goto ok 95 d_T_prepared_91 (by decide) ?_
          refine mr_iload ok d_T_prepared_95 rfl ?_
          refine mr_if_eq ok 109 d_T_prepared_97 (by decide) (fun h => absurd h (by decide)) (fun _ => ?_)
          refine mr_aload_n ok (i := 0) d_T_prepared_100 rfl rfl ?_
          refine sx_getr ok hB fl_T_26 (tm_20 hb) rfl d_T_prepared_101 ?_
          refine mr_iload_n ok (i := 1) d_T_prepared_104 rfl rfl ?_
          refine rx_iald ok hB rfl (tm_28 hb) (ty_0 hb) rfl (lt5 hb hi) (by decide) d_T_prepared_105 ?_
          refine mr_goto ok 110 d_T_prepared_106 (by decide) ?_
          refine sx_cVv ok hB [_, _, _, _, _, _, _] rfl cb_T_88 cv_T_send (tm_20 hb) rfl rfl (c_T_send hb (by exact hc.1)) rfl (Nat.le_of_ble_eq_true rfl) (by decide) ⟨Nat.le_refl _, Nat.le_refl _⟩ d_T_prepared_110 ?_
          have hc : rK N (s_T_send N L (s_T_follow N L (sU r 27 0 i y) i) 2 (nI i) x y z ((s_T_follow N L (sU r 27 0 i y) i) 29 0 i) ((s_T_follow N L (sU r 27 0 i y) i) 28 0 i)) := rK_T_send (L := L) hc
          refine mr_goto ok 133 d_T_prepared_113 (by decide) ?_
          refine sx_vret ok en (Nat.le_refl _) (Nat.le_refl _) d_T_prepared_133 ?_
          exact ⟨rfl, (by first | rfl | simp only [s_T_prepared, if_pos h8_0, if_neg h29_1, if_pos h54_2, if_neg h63_3])⟩
  · refine mr_aload_n ok (i := 0) d_T_prepared_11 rfl rfl ?_
    refine mr_iload_n ok (i := 1) d_T_prepared_12 rfl rfl ?_
    refine mr_iload_n ok (i := 2) d_T_prepared_13 rfl rfl ?_
    refine mr_iload ok d_T_prepared_14 rfl ?_
    refine sx_cVv ok hB [_, _, _] rfl cb_T_104 cv_T_help (tm_20 hb) rfl rfl (c_T_help hb hi (by exact hc)) rfl (Nat.le_of_ble_eq_true rfl) (by decide) ⟨Nat.le_refl _, Nat.le_refl _⟩ d_T_prepared_16 ?_
    refine mr_goto ok 133 d_T_prepared_19 (by decide) ?_
    refine sx_vret ok en (Nat.le_refl _) (Nat.le_refl _) d_T_prepared_133 ?_
    exact ⟨rfl, (by first | rfl | simp only [s_T_prepared, if_neg h8_0])⟩
def s_T_gotPromise (N L : Nat) (r : sh_S) (i : Nat) (x1 : Int32) (x2 : Int32) (x3 : Int32) (x4 : Int32) (x5 : Int32) : sh_S := (if (r 31 0 i) = 1 then (if (r 32 0 i) = x2 then (if x3 = ((r 24 0 i) + 1) then (if (((r 33 0 i) >>> (x1 &&& 31)) &&& 1) = 1 then r else (let r1 := sU r 33 0 i ((r 33 0 i) ||| (1 <<< (x1 &&& 31))); (if x5 ≤ (r1 36 0 i) then (if (2 * (v_T_count N L r1 (r1 33 0 i))) ≤ (nI N) then r1 else (let r2 := sU r1 31 0 i 2; (let r3 := sU r2 33 0 i 0; (if (r3 35 0 i) ≤ 0 then (let r4 := s_T_propose N L r3 i; r4) else (let r5 := s_T_proposeIt N L r3 i (r3 35 0 i); r5))))) else (let r6 := sU r1 35 0 i x4; (let r7 := sU r6 36 0 i x5; (if (2 * (v_T_count N L r7 (r7 33 0 i))) ≤ (nI N) then r7 else (let r8 := sU r7 31 0 i 2; (let r9 := sU r8 33 0 i 0; (if (r9 35 0 i) ≤ 0 then (let r10 := s_T_propose N L r9 i; r10) else (let r11 := s_T_proposeIt N L r9 i (r9 35 0 i); r11)))))))))) else r) else r) else r)
set_option maxHeartbeats 4000000 in
set_option maxRecDepth 100000 in
theorem c_T_gotPromise {B : sh_B} {Z : mx_Z} {N L : Nat} {cI cR cZ : ClassId} (hb : wB B Z N L cI cR cZ) {c r : sh_S} {i : Nat} (hi : i < N) {x1 : Int32} {x2 : Int32} {x3 : Int32} {x4 : Int32} {x5 : Int32} (hc : rK N r) : sc B Z y_T_gotPromise b_T_gotPromise 7 none (rmm 4 97) [.ref (B.2.1 20 0), .int (nI i), .int x1, .int x2, .int x3, .int x4, .int x5] (jn c r) (qe none (jn c (s_T_gotPromise N L r i x1 x2 x3 x4 x5))) := by
  refine ct_of (by decide) (Nat.le_of_ble_eq_true rfl) (cat_of rfl) ?_
  intro X ok en _
  have hB := hb.1
  refine mr_lv [(0, .ref (B.2.1 20 0)), (1, .int (nI i)), (2, .int x1), (3, .int x2), (4, .int x3), (5, .int x4), (6, .int x5)] ⟨rfl, rfl, rfl, rfl, rfl, rfl, rfl, trivial⟩ ?_
  refine mr_aload_n ok (i := 0) d_T_gotPromise_0 rfl rfl ?_
  refine sx_getr ok hB fl_T_35 (tm_20 hb) rfl d_T_gotPromise_1 ?_
  refine mr_iload_n ok (i := 1) d_T_gotPromise_4 rfl rfl ?_
  refine rx_iald ok hB rfl (tm_31 hb) (ty_0 hb) rfl (lt5 hb hi) (by decide) d_T_gotPromise_5 ?_
  refine mr_iconst ok 1 d_T_gotPromise_6 (by decide) ?_
  refine mr_icmp_ne ok 47 d_T_gotPromise_7 (by decide) (fun h7_0 => ?_) (fun h7_0 => ?_)
  · refine sx_vret ok en (Nat.le_refl _) (Nat.le_refl _) d_T_gotPromise_47 ?_
    exact ⟨rfl, (by first | rfl | simp only [s_T_gotPromise, if_neg h7_0])⟩
  · refine mr_aload_n ok (i := 0) d_T_gotPromise_10 rfl rfl ?_
    refine sx_getr ok hB fl_T_38 (tm_20 hb) rfl d_T_gotPromise_11 ?_
    refine mr_iload_n ok (i := 1) d_T_gotPromise_14 rfl rfl ?_
    refine rx_iald ok hB rfl (tm_32 hb) (ty_0 hb) rfl (lt5 hb hi) (by decide) d_T_gotPromise_15 ?_
    refine mr_iload_n ok (i := 3) d_T_gotPromise_16 rfl rfl ?_
    refine mr_icmp_ne ok 47 d_T_gotPromise_17 (by decide) (fun h17_1 => ?_) (fun h17_1 => ?_)
    · refine sx_vret ok en (Nat.le_refl _) (Nat.le_refl _) d_T_gotPromise_47 ?_
      exact ⟨rfl, (by first | rfl | simp only [s_T_gotPromise, if_pos h7_0, if_neg h17_1])⟩
    · refine mr_iload ok d_T_gotPromise_20 rfl ?_
      refine mr_aload_n ok (i := 0) d_T_gotPromise_22 rfl rfl ?_
      refine sx_getr ok hB fl_T_13 (tm_20 hb) rfl d_T_gotPromise_23 ?_
      refine mr_iload_n ok (i := 1) d_T_gotPromise_26 rfl rfl ?_
      refine rx_iald ok hB rfl (tm_24 hb) (ty_0 hb) rfl (lt5 hb hi) (by decide) d_T_gotPromise_27 ?_
      refine mr_iconst ok 1 d_T_gotPromise_28 (by decide) ?_
      refine mr_iadd ok d_T_gotPromise_29 ?_
      refine mr_icmp_ne ok 47 d_T_gotPromise_30 (by decide) (fun h30_2 => ?_) (fun h30_2 => ?_)
      · refine sx_vret ok en (Nat.le_refl _) (Nat.le_refl _) d_T_gotPromise_47 ?_
        exact ⟨rfl, (by first | rfl | simp only [s_T_gotPromise, if_pos h7_0, if_pos h17_1, if_neg h30_2])⟩
      · refine mr_aload_n ok (i := 0) d_T_gotPromise_33 rfl rfl ?_
        refine sx_getr ok hB fl_T_41 (tm_20 hb) rfl d_T_gotPromise_34 ?_
        refine mr_iload_n ok (i := 1) d_T_gotPromise_37 rfl rfl ?_
        refine rx_iald ok hB rfl (tm_33 hb) (ty_0 hb) rfl (lt5 hb hi) (by decide) d_T_gotPromise_38 ?_
        refine mr_iload_n ok (i := 2) d_T_gotPromise_39 rfl rfl ?_
        refine mr_ishr ok d_T_gotPromise_40 ?_
        refine mr_iconst ok 1 d_T_gotPromise_41 (by decide) ?_
        refine mr_iand ok d_T_gotPromise_42 ?_
        refine mr_iconst ok 1 d_T_gotPromise_43 (by decide) ?_
        refine mr_icmp_ne ok 48 d_T_gotPromise_44 (by decide) (fun h44_3 => ?_) (fun h44_3 => ?_)
        · refine mr_aload_n ok (i := 0) d_T_gotPromise_48 rfl rfl ?_
          refine sx_getr ok hB fl_T_41 (tm_20 hb) rfl d_T_gotPromise_49 ?_
          refine mr_iload_n ok (i := 1) d_T_gotPromise_52 rfl rfl ?_
          refine mr_dup2 ok d_T_gotPromise_53 rfl rfl ?_
          refine rx_iald ok hB rfl (tm_33 hb) (ty_0 hb) rfl (lt5 hb hi) (by decide) d_T_gotPromise_54 ?_
          refine mr_iconst ok 1 d_T_gotPromise_55 (by decide) ?_
          refine mr_iload_n ok (i := 2) d_T_gotPromise_56 rfl rfl ?_
          refine mr_ishl ok d_T_gotPromise_57 ?_
          refine mr_ior ok d_T_gotPromise_58 ?_
          refine rx_iast ok hB rfl (tm_33 hb) (ty_0 hb) rfl (lt5 hb hi) (by decide) d_T_gotPromise_59 ?_
          refine mr_iload ok d_T_gotPromise_60 rfl ?_
          refine mr_aload_n ok (i := 0) d_T_gotPromise_62 rfl rfl ?_
          refine sx_getr ok hB fl_T_50 (tm_20 hb) rfl d_T_gotPromise_63 ?_
          refine mr_iload_n ok (i := 1) d_T_gotPromise_66 rfl rfl ?_
          refine rx_iald ok hB rfl (tm_36 hb) (ty_0 hb) rfl (lt5 hb hi) (by decide) d_T_gotPromise_67 ?_
          refine mr_icmp_le ok 87 d_T_gotPromise_68 (by decide) (fun h68_4 => ?_) (fun h68_4 => ?_)
          · refine mr_iconst ok 2 d_T_gotPromise_87 (by decide) ?_
            refine mr_aload_n ok (i := 0) d_T_gotPromise_88 rfl rfl ?_
            refine mr_aload_n ok (i := 0) d_T_gotPromise_89 rfl rfl ?_
            refine sx_getr ok hB fl_T_41 (tm_20 hb) rfl d_T_gotPromise_90 ?_
            refine mr_iload_n ok (i := 1) d_T_gotPromise_93 rfl rfl ?_
            refine rx_iald ok hB rfl (tm_33 hb) (ty_0 hb) rfl (lt5 hb hi) (by decide) d_T_gotPromise_94 ?_
            refine sx_cVi ok hB [_] rfl cb_T_108 cv_T_count (tm_20 hb) rfl rfl (c_T_count hb) rfl (Nat.le_of_ble_eq_true rfl) (by decide) ⟨Nat.le_refl _, Nat.le_refl _⟩ d_T_gotPromise_95 ?_
            refine mr_imul ok d_T_gotPromise_98 ?_
            refine mr_aload_n ok (i := 0) d_T_gotPromise_99 rfl rfl ?_
            refine sx_getr ok hB fl_T_65 (tm_20 hb) rfl d_T_gotPromise_100 ?_
            refine mr_icmp_le ok 148 d_T_gotPromise_103 (by decide) (fun h103_5 => ?_) (fun h103_5 => ?_)
            · refine sx_vret ok en (Nat.le_refl _) (Nat.le_refl _) d_T_gotPromise_148 ?_
              exact ⟨rfl, (by first | rfl | simp only [s_T_gotPromise, if_pos h7_0, if_pos h17_1, if_pos h30_2, if_neg h44_3, if_pos h68_4, if_pos h103_5])⟩
            · refine mr_aload_n ok (i := 0) d_T_gotPromise_106 rfl rfl ?_
              refine sx_getr ok hB fl_T_35 (tm_20 hb) rfl d_T_gotPromise_107 ?_
              refine mr_iload_n ok (i := 1) d_T_gotPromise_110 rfl rfl ?_
              refine mr_iconst ok 2 d_T_gotPromise_111 (by decide) ?_
              refine rx_iast ok hB rfl (tm_31 hb) (ty_0 hb) rfl (lt5 hb hi) (by decide) d_T_gotPromise_112 ?_
              refine mr_aload_n ok (i := 0) d_T_gotPromise_113 rfl rfl ?_
              refine sx_getr ok hB fl_T_41 (tm_20 hb) rfl d_T_gotPromise_114 ?_
              refine mr_iload_n ok (i := 1) d_T_gotPromise_117 rfl rfl ?_
              refine mr_iconst ok 0 d_T_gotPromise_118 (by decide) ?_
              refine rx_iast ok hB rfl (tm_33 hb) (ty_0 hb) rfl (lt5 hb hi) (by decide) d_T_gotPromise_119 ?_
              refine mr_aload_n ok (i := 0) d_T_gotPromise_120 rfl rfl ?_
              refine sx_getr ok hB fl_T_47 (tm_20 hb) rfl d_T_gotPromise_121 ?_
              refine mr_iload_n ok (i := 1) d_T_gotPromise_124 rfl rfl ?_
              refine rx_iald ok hB rfl (tm_35 hb) (ty_0 hb) rfl (lt5 hb hi) (by decide) d_T_gotPromise_125 ?_
              refine mr_if_le ok 143 d_T_gotPromise_126 (by decide) (fun h126_6 => ?_) (fun h126_6 => ?_)
              · refine mr_aload_n ok (i := 0) d_T_gotPromise_143 rfl rfl ?_
                refine mr_iload_n ok (i := 1) d_T_gotPromise_144 rfl rfl ?_
                refine sx_cVv ok hB [_] rfl cb_T_112 cv_T_propose (tm_20 hb) rfl rfl (c_T_propose hb hi (by exact hc)) rfl (Nat.le_of_ble_eq_true rfl) (by decide) ⟨Nat.le_refl _, Nat.le_refl _⟩ d_T_gotPromise_145 ?_
                refine sx_vret ok en (Nat.le_refl _) (Nat.le_refl _) d_T_gotPromise_148 ?_
                exact ⟨rfl, (by first | rfl | simp only [s_T_gotPromise, if_pos h7_0, if_pos h17_1, if_pos h30_2, if_neg h44_3, if_pos h68_4, if_neg h103_5, if_pos h126_6])⟩
              · refine mr_aload_n ok (i := 0) d_T_gotPromise_129 rfl rfl ?_
                refine mr_iload_n ok (i := 1) d_T_gotPromise_130 rfl rfl ?_
                refine mr_aload_n ok (i := 0) d_T_gotPromise_131 rfl rfl ?_
                refine sx_getr ok hB fl_T_47 (tm_20 hb) rfl d_T_gotPromise_132 ?_
                refine mr_iload_n ok (i := 1) d_T_gotPromise_135 rfl rfl ?_
                refine rx_iald ok hB rfl (tm_35 hb) (ty_0 hb) rfl (lt5 hb hi) (by decide) d_T_gotPromise_136 ?_
                refine sx_cVv ok hB [_, _] rfl cb_T_100 cv_T_proposeIt (tm_20 hb) rfl rfl (c_T_proposeIt hb hi (by exact hc)) rfl (Nat.le_of_ble_eq_true rfl) (by decide) ⟨Nat.le_refl _, Nat.le_refl _⟩ d_T_gotPromise_137 ?_
                refine mr_goto ok 148 d_T_gotPromise_140 (by decide) ?_
                refine sx_vret ok en (Nat.le_refl _) (Nat.le_refl _) d_T_gotPromise_148 ?_
                exact ⟨rfl, (by first | rfl | simp only [s_T_gotPromise, if_pos h7_0, if_pos h17_1, if_pos h30_2, if_neg h44_3, if_pos h68_4, if_neg h103_5, if_neg h126_6])⟩
          · refine mr_aload_n ok (i := 0) d_T_gotPromise_71 rfl rfl ?_
            refine sx_getr ok hB fl_T_47 (tm_20 hb) rfl d_T_gotPromise_72 ?_
            refine mr_iload_n ok (i := 1) d_T_gotPromise_75 rfl rfl ?_
            refine mr_iload ok d_T_gotPromise_76 rfl ?_
            refine rx_iast ok hB rfl (tm_35 hb) (ty_0 hb) rfl (lt5 hb hi) (by decide) d_T_gotPromise_78 ?_
            refine mr_aload_n ok (i := 0) d_T_gotPromise_79 rfl rfl ?_
            refine sx_getr ok hB fl_T_50 (tm_20 hb) rfl d_T_gotPromise_80 ?_
            refine mr_iload_n ok (i := 1) d_T_gotPromise_83 rfl rfl ?_
            refine mr_iload ok d_T_gotPromise_84 rfl ?_
            refine rx_iast ok hB rfl (tm_36 hb) (ty_0 hb) rfl (lt5 hb hi) (by decide) d_T_gotPromise_86 ?_
            refine mr_iconst ok 2 d_T_gotPromise_87 (by decide) ?_
            refine mr_aload_n ok (i := 0) d_T_gotPromise_88 rfl rfl ?_
            refine mr_aload_n ok (i := 0) d_T_gotPromise_89 rfl rfl ?_
            refine sx_getr ok hB fl_T_41 (tm_20 hb) rfl d_T_gotPromise_90 ?_
            refine mr_iload_n ok (i := 1) d_T_gotPromise_93 rfl rfl ?_
            refine rx_iald ok hB rfl (tm_33 hb) (ty_0 hb) rfl (lt5 hb hi) (by decide) d_T_gotPromise_94 ?_
            refine sx_cVi ok hB [_] rfl cb_T_108 cv_T_count (tm_20 hb) rfl rfl (c_T_count hb) rfl (Nat.le_of_ble_eq_true rfl) (by decide) ⟨Nat.le_refl _, Nat.le_refl _⟩ d_T_gotPromise_95 ?_
            refine mr_imul ok d_T_gotPromise_98 ?_
            refine mr_aload_n ok (i := 0) d_T_gotPromise_99 rfl rfl ?_
            refine sx_getr ok hB fl_T_65 (tm_20 hb) rfl d_T_gotPromise_100 ?_
            refine mr_icmp_le ok 148 d_T_gotPromise_103 (by decide) (fun h103_5 => ?_) (fun h103_5 => ?_)
            · refine sx_vret ok en (Nat.le_refl _) (Nat.le_refl _) d_T_gotPromise_148 ?_
              exact ⟨rfl, (by first | rfl | simp only [s_T_gotPromise, if_pos h7_0, if_pos h17_1, if_pos h30_2, if_neg h44_3, if_neg h68_4, if_pos h103_5])⟩
            · refine mr_aload_n ok (i := 0) d_T_gotPromise_106 rfl rfl ?_
              refine sx_getr ok hB fl_T_35 (tm_20 hb) rfl d_T_gotPromise_107 ?_
              refine mr_iload_n ok (i := 1) d_T_gotPromise_110 rfl rfl ?_
              refine mr_iconst ok 2 d_T_gotPromise_111 (by decide) ?_
              refine rx_iast ok hB rfl (tm_31 hb) (ty_0 hb) rfl (lt5 hb hi) (by decide) d_T_gotPromise_112 ?_
              refine mr_aload_n ok (i := 0) d_T_gotPromise_113 rfl rfl ?_
              refine sx_getr ok hB fl_T_41 (tm_20 hb) rfl d_T_gotPromise_114 ?_
              refine mr_iload_n ok (i := 1) d_T_gotPromise_117 rfl rfl ?_
              refine mr_iconst ok 0 d_T_gotPromise_118 (by decide) ?_
              refine rx_iast ok hB rfl (tm_33 hb) (ty_0 hb) rfl (lt5 hb hi) (by decide) d_T_gotPromise_119 ?_
              refine mr_aload_n ok (i := 0) d_T_gotPromise_120 rfl rfl ?_
              refine sx_getr ok hB fl_T_47 (tm_20 hb) rfl d_T_gotPromise_121 ?_
              refine mr_iload_n ok (i := 1) d_T_gotPromise_124 rfl rfl ?_
              refine rx_iald ok hB rfl (tm_35 hb) (ty_0 hb) rfl (lt5 hb hi) (by decide) d_T_gotPromise_125 ?_
              refine mr_if_le ok 143 d_T_gotPromise_126 (by decide) (fun h126_6 => ?_) (fun h126_6 => ?_)
              · refine mr_aload_n ok (i := 0) d_T_gotPromise_143 rfl rfl ?_
                refine mr_iload_n ok (i := 1) d_T_gotPromise_144 rfl rfl ?_
                refine sx_cVv ok hB [_] rfl cb_T_112 cv_T_propose (tm_20 hb) rfl rfl (c_T_propose hb hi (by exact hc)) rfl (Nat.le_of_ble_eq_true rfl) (by decide) ⟨Nat.le_refl _, Nat.le_refl _⟩ d_T_gotPromise_145 ?_
                refine sx_vret ok en (Nat.le_refl _) (Nat.le_refl _) d_T_gotPromise_148 ?_
                exact ⟨rfl, (by first | rfl | simp only [s_T_gotPromise, if_pos h7_0, if_pos h17_1, if_pos h30_2, if_neg h44_3, if_neg h68_4, if_neg h103_5, if_pos h126_6])⟩
              · refine mr_aload_n ok (i := 0) d_T_gotPromise_129 rfl rfl ?_
                refine mr_iload_n ok (i := 1) d_T_gotPromise_130 rfl rfl ?_
                refine mr_aload_n ok (i := 0) d_T_gotPromise_131 rfl rfl ?_
                refine sx_getr ok hB fl_T_47 (tm_20 hb) rfl d_T_gotPromise_132 ?_
                refine mr_iload_n ok (i := 1) d_T_gotPromise_135 rfl rfl ?_
                refine rx_iald ok hB rfl (tm_35 hb) (ty_0 hb) rfl (lt5 hb hi) (by decide) d_T_gotPromise_136 ?_
                refine sx_cVv ok hB [_, _] rfl cb_T_100 cv_T_proposeIt (tm_20 hb) rfl rfl (c_T_proposeIt hb hi (by exact hc)) rfl (Nat.le_of_ble_eq_true rfl) (by decide) ⟨Nat.le_refl _, Nat.le_refl _⟩ d_T_gotPromise_137 ?_
                refine mr_goto ok 148 d_T_gotPromise_140 (by decide) ?_
                refine sx_vret ok en (Nat.le_refl _) (Nat.le_refl _) d_T_gotPromise_148 ?_
                exact ⟨rfl, (by first | rfl | simp only [s_T_gotPromise, if_pos h7_0, if_pos h17_1, if_pos h30_2, if_neg h44_3, if_neg h68_4, if_neg h103_5, if_neg h126_6])⟩
        · refine sx_vret ok en (Nat.le_refl _) (Nat.le_refl _) d_T_gotPromise_47 ?_
          exact ⟨rfl, (by first | rfl | simp only [s_T_gotPromise, if_pos h7_0, if_pos h17_1, if_pos h30_2, if_pos h44_3])⟩
def s_T_gotAccept (N L : Nat) (r : sh_S) (i : Nat) (x1 : Int32) (x2 : Int32) (x3 : Int32) (x4 : Int32) : sh_S := (if (r 24 0 i) < x3 then (if x3 ≤ ((r 24 0 i) + 1) then (if x2 < (r 27 0 i) then (let r1 := s_T_send N L r 7 (nI i) x1 (r 27 0 i) 0 0 0; r1) else (let r2 := sU r 27 0 i x2; (if (r2 31 0 i) = 1 then (let r3 := s_T_follow N L r2 i; (let r4 := sU r3 29 0 i x4; (let r5 := sU r4 28 0 i x2; (let r6 := s_T_send N L r5 4 (nI i) x1 x2 x3 0 0; r6)))) else (if (r2 31 0 i) = 2 then (if (r2 32 0 i) = x2 then (let r10 := sU r2 29 0 i x4; (let r11 := sU r10 28 0 i x2; (let r12 := s_T_send N L r11 4 (nI i) x1 x2 x3 0 0; r12))) else (let r13 := s_T_follow N L r2 i; (let r14 := sU r13 29 0 i x4; (let r15 := sU r14 28 0 i x2; (let r16 := s_T_send N L r15 4 (nI i) x1 x2 x3 0 0; r16))))) else (let r7 := sU r2 29 0 i x4; (let r8 := sU r7 28 0 i x2; (let r9 := s_T_send N L r8 4 (nI i) x1 x2 x3 0 0; r9))))))) else (let r17 := s_T_send N L r 6 (nI i) x1 0 ((r 24 0 i) + 1) 0 0; r17)) else (let r18 := s_T_help N L r i x1 x3; r18))
set_option maxHeartbeats 4000000 in
set_option maxRecDepth 100000 in
theorem c_T_gotAccept {B : sh_B} {Z : mx_Z} {N L : Nat} {cI cR cZ : ClassId} (hb : wB B Z N L cI cR cZ) {c r : sh_S} {i : Nat} (hi : i < N) {x1 : Int32} {x2 : Int32} {x3 : Int32} {x4 : Int32} (hc : rK N r) : sc B Z y_T_gotAccept b_T_gotAccept 6 none (rmm 2 51) [.ref (B.2.1 20 0), .int (nI i), .int x1, .int x2, .int x3, .int x4] (jn c r) (qe none (jn c (s_T_gotAccept N L r i x1 x2 x3 x4))) := by
  refine ct_of (by decide) (Nat.le_of_ble_eq_true rfl) (cat_of rfl) ?_
  intro X ok en _
  have hB := hb.1
  refine mr_lv [(0, .ref (B.2.1 20 0)), (1, .int (nI i)), (2, .int x1), (3, .int x2), (4, .int x3), (5, .int x4)] ⟨rfl, rfl, rfl, rfl, rfl, rfl, trivial⟩ ?_
  refine mr_iload ok d_T_gotAccept_0 rfl ?_
  refine mr_aload_n ok (i := 0) d_T_gotAccept_2 rfl rfl ?_
  refine sx_getr ok hB fl_T_13 (tm_20 hb) rfl d_T_gotAccept_3 ?_
  refine mr_iload_n ok (i := 1) d_T_gotAccept_6 rfl rfl ?_
  refine rx_iald ok hB rfl (tm_24 hb) (ty_0 hb) rfl (lt5 hb hi) (by decide) d_T_gotAccept_7 ?_
  refine mr_icmp_gt ok 22 d_T_gotAccept_8 (by decide) (fun h8_0 => ?_) (fun h8_0 => ?_)
  · refine mr_iload ok d_T_gotAccept_22 rfl ?_
    refine mr_aload_n ok (i := 0) d_T_gotAccept_24 rfl rfl ?_
    refine sx_getr ok hB fl_T_13 (tm_20 hb) rfl d_T_gotAccept_25 ?_
    refine mr_iload_n ok (i := 1) d_T_gotAccept_28 rfl rfl ?_
    refine rx_iald ok hB rfl (tm_24 hb) (ty_0 hb) rfl (lt5 hb hi) (by decide) d_T_gotAccept_29 ?_
    refine mr_iconst ok 1 d_T_gotAccept_30 (by decide) ?_
    refine mr_iadd ok d_T_gotAccept_31 ?_
    refine mr_icmp_le ok 57 d_T_gotAccept_32 (by decide) (fun h32_1 => ?_) (fun h32_1 => ?_)
    · refine mr_iload_n ok (i := 3) d_T_gotAccept_57 rfl rfl ?_
      refine mr_aload_n ok (i := 0) d_T_gotAccept_58 rfl rfl ?_
      refine sx_getr ok hB fl_T_23 (tm_20 hb) rfl d_T_gotAccept_59 ?_
      refine mr_iload_n ok (i := 1) d_T_gotAccept_62 rfl rfl ?_
      refine rx_iald ok hB rfl (tm_27 hb) (ty_0 hb) rfl (lt5 hb hi) (by decide) d_T_gotAccept_63 ?_
      refine mr_icmp_lt ok 139 d_T_gotAccept_64 (by decide) (fun h64_2 => ?_) (fun h64_2 => ?_)
      · refine mr_aload_n ok (i := 0) d_T_gotAccept_139 rfl rfl ?_
        refine mr_bipush ok 7 d_T_gotAccept_140 (by decide) ?_
        refine mr_iload_n ok (i := 1) d_T_gotAccept_142 rfl rfl ?_
        refine mr_iload_n ok (i := 2) d_T_gotAccept_143 rfl rfl ?_
        refine mr_aload_n ok (i := 0) d_T_gotAccept_144 rfl rfl ?_
        refine sx_getr ok hB fl_T_23 (tm_20 hb) rfl d_T_gotAccept_145 ?_
        refine mr_iload_n ok (i := 1) d_T_gotAccept_148 rfl rfl ?_
        refine rx_iald ok hB rfl (tm_27 hb) (ty_0 hb) rfl (lt5 hb hi) (by decide) d_T_gotAccept_149 ?_
        refine mr_iconst ok 0 d_T_gotAccept_150 (by decide) ?_
        refine mr_iconst ok 0 d_T_gotAccept_151 (by decide) ?_
        refine mr_iconst ok 0 d_T_gotAccept_152 (by decide) ?_
        refine sx_cVv ok hB [_, _, _, _, _, _, _] rfl cb_T_88 cv_T_send (tm_20 hb) rfl rfl (c_T_send hb (by exact hc.1)) rfl (Nat.le_of_ble_eq_true rfl) (by decide) ⟨Nat.le_refl _, Nat.le_refl _⟩ d_T_gotAccept_153 ?_
        have hc : rK N (s_T_send N L r 7 (nI i) x1 (r 27 0 i) 0 0 0) := rK_T_send (L := L) hc
        refine sx_vret ok en (Nat.le_refl _) (Nat.le_refl _) d_T_gotAccept_156 ?_
        exact ⟨rfl, (by first | rfl | simp only [s_T_gotAccept, if_pos h8_0, if_pos h32_1, if_pos h64_2])⟩
      · refine mr_aload_n ok (i := 0) d_T_gotAccept_67 rfl rfl ?_
        refine sx_getr ok hB fl_T_23 (tm_20 hb) rfl d_T_gotAccept_68 ?_
        refine mr_iload_n ok (i := 1) d_T_gotAccept_71 rfl rfl ?_
        refine mr_iload_n ok (i := 3) d_T_gotAccept_72 rfl rfl ?_
        refine rx_iast ok hB rfl (tm_27 hb) (ty_0 hb) rfl (lt5 hb hi) (by decide) d_T_gotAccept_73 ?_
        refine mr_aload_n ok (i := 0) d_T_gotAccept_74 rfl rfl ?_
        refine sx_getr ok hB fl_T_35 (tm_20 hb) rfl d_T_gotAccept_75 ?_
        refine mr_iload_n ok (i := 1) d_T_gotAccept_78 rfl rfl ?_
        refine rx_iald ok hB rfl (tm_31 hb) (ty_0 hb) rfl (lt5 hb hi) (by decide) d_T_gotAccept_79 ?_
        refine mr_iconst ok 1 d_T_gotAccept_80 (by decide) ?_
        refine mr_icmp_eq ok 104 d_T_gotAccept_81 (by decide) (fun h81_3 => ?_) (fun h81_3 => ?_)
        · refine mr_aload_n ok (i := 0) d_T_gotAccept_104 rfl rfl ?_
          refine mr_iload_n ok (i := 1) d_T_gotAccept_105 rfl rfl ?_
          refine sx_cVv ok hB [_] rfl cb_T_92 cv_T_follow (tm_20 hb) rfl rfl (c_T_follow hb hi) rfl (Nat.le_of_ble_eq_true rfl) (by decide) ⟨Nat.le_refl _, Nat.le_refl _⟩ d_T_gotAccept_106 ?_
          refine mr_aload_n ok (i := 0) d_T_gotAccept_109 rfl rfl ?_
          refine sx_getr ok hB fl_T_29 (tm_20 hb) rfl d_T_gotAccept_110 ?_
          refine mr_iload_n ok (i := 1) d_T_gotAccept_113 rfl rfl ?_
          refine mr_iload ok d_T_gotAccept_114 rfl ?_
          refine rx_iast ok hB rfl (tm_29 hb) (ty_0 hb) rfl (lt5 hb hi) (by decide) d_T_gotAccept_116 ?_
          refine mr_aload_n ok (i := 0) d_T_gotAccept_117 rfl rfl ?_
          refine sx_getr ok hB fl_T_26 (tm_20 hb) rfl d_T_gotAccept_118 ?_
          refine mr_iload_n ok (i := 1) d_T_gotAccept_121 rfl rfl ?_
          refine mr_iload_n ok (i := 3) d_T_gotAccept_122 rfl rfl ?_
          refine rx_iast ok hB rfl (tm_28 hb) (ty_0 hb) rfl (lt5 hb hi) (by decide) d_T_gotAccept_123 ?_
          refine mr_aload_n ok (i := 0) d_T_gotAccept_124 rfl rfl ?_
          refine mr_iconst ok 4 d_T_gotAccept_125 (by decide) ?_
          refine mr_iload_n ok (i := 1) d_T_gotAccept_126 rfl rfl ?_
          refine mr_iload_n ok (i := 2) d_T_gotAccept_127 rfl rfl ?_
          refine mr_iload_n ok (i := 3) d_T_gotAccept_128 rfl rfl ?_
          refine mr_iload ok d_T_gotAccept_129 rfl ?_
          refine mr_iconst ok 0 d_T_gotAccept_131 (by decide) ?_
          refine mr_iconst ok 0 d_T_gotAccept_132 (by decide) ?_
          refine sx_cVv ok hB [_, _, _, _, _, _, _] rfl cb_T_88 cv_T_send (tm_20 hb) rfl rfl (c_T_send hb (by exact hc.1)) rfl (Nat.le_of_ble_eq_true rfl) (by decide) ⟨Nat.le_refl _, Nat.le_refl _⟩ d_T_gotAccept_133 ?_
          have hc : rK N (s_T_send N L (sU (sU (s_T_follow N L (sU r 27 0 i x2) i) 29 0 i x4) 28 0 i x2) 4 (nI i) x1 x2 x3 0 0) := rK_T_send (L := L) hc
          refine mr_goto ok 156 d_T_gotAccept_136 (by decide) ?_
          refine sx_vret ok en (Nat.le_refl _) (Nat.le_refl _) d_T_gotAccept_156 ?_
          exact ⟨rfl, (by first | rfl | simp only [s_T_gotAccept, if_pos h8_0, if_pos h32_1, if_neg h64_2, if_pos h81_3])⟩
        · refine mr_aload_n ok (i := 0) d_T_gotAccept_84 rfl rfl ?_
          refine sx_getr ok hB fl_T_35 (tm_20 hb) rfl d_T_gotAccept_85 ?_
          refine mr_iload_n ok (i := 1) d_T_gotAccept_88 rfl rfl ?_
          refine rx_iald ok hB rfl (tm_31 hb) (ty_0 hb) rfl (lt5 hb hi) (by decide) d_T_gotAccept_89 ?_
          refine mr_iconst ok 2 d_T_gotAccept_90 (by decide) ?_
          refine mr_icmp_ne ok 109 d_T_gotAccept_91 (by decide) (fun h91_4 => ?_) (fun h91_4 => ?_)
          · refine mr_aload_n ok (i := 0) d_T_gotAccept_109 rfl rfl ?_
            refine sx_getr ok hB fl_T_29 (tm_20 hb) rfl d_T_gotAccept_110 ?_
            refine mr_iload_n ok (i := 1) d_T_gotAccept_113 rfl rfl ?_
            refine mr_iload ok d_T_gotAccept_114 rfl ?_
            refine rx_iast ok hB rfl (tm_29 hb) (ty_0 hb) rfl (lt5 hb hi) (by decide) d_T_gotAccept_116 ?_
            refine mr_aload_n ok (i := 0) d_T_gotAccept_117 rfl rfl ?_
            refine sx_getr ok hB fl_T_26 (tm_20 hb) rfl d_T_gotAccept_118 ?_
            refine mr_iload_n ok (i := 1) d_T_gotAccept_121 rfl rfl ?_
            refine mr_iload_n ok (i := 3) d_T_gotAccept_122 rfl rfl ?_
            refine rx_iast ok hB rfl (tm_28 hb) (ty_0 hb) rfl (lt5 hb hi) (by decide) d_T_gotAccept_123 ?_
            refine mr_aload_n ok (i := 0) d_T_gotAccept_124 rfl rfl ?_
            refine mr_iconst ok 4 d_T_gotAccept_125 (by decide) ?_
            refine mr_iload_n ok (i := 1) d_T_gotAccept_126 rfl rfl ?_
            refine mr_iload_n ok (i := 2) d_T_gotAccept_127 rfl rfl ?_
            refine mr_iload_n ok (i := 3) d_T_gotAccept_128 rfl rfl ?_
            refine mr_iload ok d_T_gotAccept_129 rfl ?_
            refine mr_iconst ok 0 d_T_gotAccept_131 (by decide) ?_
            refine mr_iconst ok 0 d_T_gotAccept_132 (by decide) ?_
            refine sx_cVv ok hB [_, _, _, _, _, _, _] rfl cb_T_88 cv_T_send (tm_20 hb) rfl rfl (c_T_send hb (by exact hc.1)) rfl (Nat.le_of_ble_eq_true rfl) (by decide) ⟨Nat.le_refl _, Nat.le_refl _⟩ d_T_gotAccept_133 ?_
            have hc : rK N (s_T_send N L (sU (sU (sU r 27 0 i x2) 29 0 i x4) 28 0 i x2) 4 (nI i) x1 x2 x3 0 0) := rK_T_send (L := L) hc
            refine mr_goto ok 156 d_T_gotAccept_136 (by decide) ?_
            refine sx_vret ok en (Nat.le_refl _) (Nat.le_refl _) d_T_gotAccept_156 ?_
            exact ⟨rfl, (by first | rfl | simp only [s_T_gotAccept, if_pos h8_0, if_pos h32_1, if_neg h64_2, if_neg h81_3, if_neg h91_4])⟩
          · refine mr_aload_n ok (i := 0) d_T_gotAccept_94 rfl rfl ?_
            refine sx_getr ok hB fl_T_38 (tm_20 hb) rfl d_T_gotAccept_95 ?_
            refine mr_iload_n ok (i := 1) d_T_gotAccept_98 rfl rfl ?_
            refine rx_iald ok hB rfl (tm_32 hb) (ty_0 hb) rfl (lt5 hb hi) (by decide) d_T_gotAccept_99 ?_
            refine mr_iload_n ok (i := 3) d_T_gotAccept_100 rfl rfl ?_
            refine mr_icmp_eq ok 109 d_T_gotAccept_101 (by decide) (fun h101_5 => ?_) (fun h101_5 => ?_)
            · refine mr_aload_n ok (i := 0) d_T_gotAccept_109 rfl rfl ?_
              refine sx_getr ok hB fl_T_29 (tm_20 hb) rfl d_T_gotAccept_110 ?_
              refine mr_iload_n ok (i := 1) d_T_gotAccept_113 rfl rfl ?_
              refine mr_iload ok d_T_gotAccept_114 rfl ?_
              refine rx_iast ok hB rfl (tm_29 hb) (ty_0 hb) rfl (lt5 hb hi) (by decide) d_T_gotAccept_116 ?_
              refine mr_aload_n ok (i := 0) d_T_gotAccept_117 rfl rfl ?_
              refine sx_getr ok hB fl_T_26 (tm_20 hb) rfl d_T_gotAccept_118 ?_
              refine mr_iload_n ok (i := 1) d_T_gotAccept_121 rfl rfl ?_
              refine mr_iload_n ok (i := 3) d_T_gotAccept_122 rfl rfl ?_
              refine rx_iast ok hB rfl (tm_28 hb) (ty_0 hb) rfl (lt5 hb hi) (by decide) d_T_gotAccept_123 ?_
              refine mr_aload_n ok (i := 0) d_T_gotAccept_124 rfl rfl ?_
              refine mr_iconst ok 4 d_T_gotAccept_125 (by decide) ?_
              refine mr_iload_n ok (i := 1) d_T_gotAccept_126 rfl rfl ?_
              refine mr_iload_n ok (i := 2) d_T_gotAccept_127 rfl rfl ?_
              refine mr_iload_n ok (i := 3) d_T_gotAccept_128 rfl rfl ?_
              refine mr_iload ok d_T_gotAccept_129 rfl ?_
              refine mr_iconst ok 0 d_T_gotAccept_131 (by decide) ?_
              refine mr_iconst ok 0 d_T_gotAccept_132 (by decide) ?_
              refine sx_cVv ok hB [_, _, _, _, _, _, _] rfl cb_T_88 cv_T_send (tm_20 hb) rfl rfl (c_T_send hb (by exact hc.1)) rfl (Nat.le_of_ble_eq_true rfl) (by decide) ⟨Nat.le_refl _, Nat.le_refl _⟩ d_T_gotAccept_133 ?_
              have hc : rK N (s_T_send N L (sU (sU (sU r 27 0 i x2) 29 0 i x4) 28 0 i x2) 4 (nI i) x1 x2 x3 0 0) := rK_T_send (L := L) hc
              refine mr_goto ok 156 d_T_gotAccept_136 (by decide) ?_
              refine sx_vret ok en (Nat.le_refl _) (Nat.le_refl _) d_T_gotAccept_156 ?_
              exact ⟨rfl, (by first | rfl | simp only [s_T_gotAccept, if_pos h8_0, if_pos h32_1, if_neg h64_2, if_neg h81_3, if_pos h91_4, if_pos h101_5])⟩
            · refine mr_aload_n ok (i := 0) d_T_gotAccept_104 rfl rfl ?_
              refine mr_iload_n ok (i := 1) d_T_gotAccept_105 rfl rfl ?_
              refine sx_cVv ok hB [_] rfl cb_T_92 cv_T_follow (tm_20 hb) rfl rfl (c_T_follow hb hi) rfl (Nat.le_of_ble_eq_true rfl) (by decide) ⟨Nat.le_refl _, Nat.le_refl _⟩ d_T_gotAccept_106 ?_
              refine mr_aload_n ok (i := 0) d_T_gotAccept_109 rfl rfl ?_
              refine sx_getr ok hB fl_T_29 (tm_20 hb) rfl d_T_gotAccept_110 ?_
              refine mr_iload_n ok (i := 1) d_T_gotAccept_113 rfl rfl ?_
              refine mr_iload ok d_T_gotAccept_114 rfl ?_
              refine rx_iast ok hB rfl (tm_29 hb) (ty_0 hb) rfl (lt5 hb hi) (by decide) d_T_gotAccept_116 ?_
              refine mr_aload_n ok (i := 0) d_T_gotAccept_117 rfl rfl ?_
              refine sx_getr ok hB fl_T_26 (tm_20 hb) rfl d_T_gotAccept_118 ?_
              refine mr_iload_n ok (i := 1) d_T_gotAccept_121 rfl rfl ?_
              refine mr_iload_n ok (i := 3) d_T_gotAccept_122 rfl rfl ?_
              refine rx_iast ok hB rfl (tm_28 hb) (ty_0 hb) rfl (lt5 hb hi) (by decide) d_T_gotAccept_123 ?_
              refine mr_aload_n ok (i := 0) d_T_gotAccept_124 rfl rfl ?_
              refine mr_iconst ok 4 d_T_gotAccept_125 (by decide) ?_
              refine mr_iload_n ok (i := 1) d_T_gotAccept_126 rfl rfl ?_
              refine mr_iload_n ok (i := 2) d_T_gotAccept_127 rfl rfl ?_
              refine mr_iload_n ok (i := 3) d_T_gotAccept_128 rfl rfl ?_
              refine mr_iload ok d_T_gotAccept_129 rfl ?_
              refine mr_iconst ok 0 d_T_gotAccept_131 (by decide) ?_
              refine mr_iconst ok 0 d_T_gotAccept_132 (by decide) ?_
              refine sx_cVv ok hB [_, _, _, _, _, _, _] rfl cb_T_88 cv_T_send (tm_20 hb) rfl rfl (c_T_send hb (by exact hc.1)) rfl (Nat.le_of_ble_eq_true rfl) (by decide) ⟨Nat.le_refl _, Nat.le_refl _⟩ d_T_gotAccept_133 ?_
              have hc : rK N (s_T_send N L (sU (sU (s_T_follow N L (sU r 27 0 i x2) i) 29 0 i x4) 28 0 i x2) 4 (nI i) x1 x2 x3 0 0) := rK_T_send (L := L) hc
              refine mr_goto ok 156 d_T_gotAccept_136 (by decide) ?_
              refine sx_vret ok en (Nat.le_refl _) (Nat.le_refl _) d_T_gotAccept_156 ?_
              exact ⟨rfl, (by first | rfl | simp only [s_T_gotAccept, if_pos h8_0, if_pos h32_1, if_neg h64_2, if_neg h81_3, if_pos h91_4, if_neg h101_5])⟩
    · refine mr_aload_n ok (i := 0) d_T_gotAccept_35 rfl rfl ?_
      refine mr_bipush ok 6 d_T_gotAccept_36 (by decide) ?_
      refine mr_iload_n ok (i := 1) d_T_gotAccept_38 rfl rfl ?_
      refine mr_iload_n ok (i := 2) d_T_gotAccept_39 rfl rfl ?_
      refine mr_iconst ok 0 d_T_gotAccept_40 (by decide) ?_
      refine mr_aload_n ok (i := 0) d_T_gotAccept_41 rfl rfl ?_
      refine sx_getr ok hB fl_T_13 (tm_20 hb) rfl d_T_gotAccept_42 ?_
      refine mr_iload_n ok (i := 1) d_T_gotAccept_45 rfl rfl ?_
      refine rx_iald ok hB rfl (tm_24 hb) (ty_0 hb) rfl (lt5 hb hi) (by decide) d_T_gotAccept_46 ?_
      refine mr_iconst ok 1 d_T_gotAccept_47 (by decide) ?_
      refine mr_iadd ok d_T_gotAccept_48 ?_
      refine mr_iconst ok 0 d_T_gotAccept_49 (by decide) ?_
      refine mr_iconst ok 0 d_T_gotAccept_50 (by decide) ?_
      refine sx_cVv ok hB [_, _, _, _, _, _, _] rfl cb_T_88 cv_T_send (tm_20 hb) rfl rfl (c_T_send hb (by exact hc.1)) rfl (Nat.le_of_ble_eq_true rfl) (by decide) ⟨Nat.le_refl _, Nat.le_refl _⟩ d_T_gotAccept_51 ?_
      have hc : rK N (s_T_send N L r 6 (nI i) x1 0 ((r 24 0 i) + 1) 0 0) := rK_T_send (L := L) hc
      refine mr_goto ok 156 d_T_gotAccept_54 (by decide) ?_
      refine sx_vret ok en (Nat.le_refl _) (Nat.le_refl _) d_T_gotAccept_156 ?_
      exact ⟨rfl, (by first | rfl | simp only [s_T_gotAccept, if_pos h8_0, if_neg h32_1])⟩
  · refine mr_aload_n ok (i := 0) d_T_gotAccept_11 rfl rfl ?_
    refine mr_iload_n ok (i := 1) d_T_gotAccept_12 rfl rfl ?_
    refine mr_iload_n ok (i := 2) d_T_gotAccept_13 rfl rfl ?_
    refine mr_iload ok d_T_gotAccept_14 rfl ?_
    refine sx_cVv ok hB [_, _, _] rfl cb_T_104 cv_T_help (tm_20 hb) rfl rfl (c_T_help hb hi (by exact hc)) rfl (Nat.le_of_ble_eq_true rfl) (by decide) ⟨Nat.le_refl _, Nat.le_refl _⟩ d_T_gotAccept_16 ?_
    refine mr_goto ok 156 d_T_gotAccept_19 (by decide) ?_
    refine sx_vret ok en (Nat.le_refl _) (Nat.le_refl _) d_T_gotAccept_156 ?_
    exact ⟨rfl, (by first | rfl | simp only [s_T_gotAccept, if_neg h8_0])⟩
def s_T_gotAccepted (N L : Nat) (r : sh_S) (i : Nat) (x1 : Int32) (x2 : Int32) (x3 : Int32) : sh_S := (if (r 31 0 i) = 2 then (if (r 32 0 i) = x2 then (if (r 34 0 i) = 0 then r else (if x3 = ((r 24 0 i) + 1) then (if (((r 33 0 i) >>> (x1 &&& 31)) &&& 1) = 1 then r else (let r1 := sU r 33 0 i ((r 33 0 i) ||| (1 <<< (x1 &&& 31))); (if (2 * (v_T_count N L r1 (r1 33 0 i))) ≤ (nI N) then r1 else (let r2 := s_T_sendAll N L r1 5 (nI i) 0 x3 (r1 34 0 i); (let r3 := s_T_learn N L r2 i (r1 34 0 i); (let r4 := s_T_propose N L r3 i; r4)))))) else r)) else r) else r)
set_option maxHeartbeats 4000000 in
set_option maxRecDepth 100000 in
theorem c_T_gotAccepted {B : sh_B} {Z : mx_Z} {N L : Nat} {cI cR cZ : ClassId} (hb : wB B Z N L cI cR cZ) {c r : sh_S} {i : Nat} (hi : i < N) {x1 : Int32} {x2 : Int32} {x3 : Int32} (hc : rK N r) (hx : ∀ i, i < N → ¬ r 24 0 i + 1 < 0) : sc B Z y_T_gotAccepted b_T_gotAccepted 6 none (rmm 4 97) [.ref (B.2.1 20 0), .int (nI i), .int x1, .int x2, .int x3] (jn c r) (qe none (jn c (s_T_gotAccepted N L r i x1 x2 x3))) := by
  refine ct_of (by decide) (Nat.le_of_ble_eq_true rfl) (cat_of rfl) ?_
  intro X ok en _
  have hB := hb.1
  refine mr_lv [(0, .ref (B.2.1 20 0)), (1, .int (nI i)), (2, .int x1), (3, .int x2), (4, .int x3)] ⟨rfl, rfl, rfl, rfl, rfl, trivial⟩ ?_
  refine mr_aload_n ok (i := 0) d_T_gotAccepted_0 rfl rfl ?_
  refine sx_getr ok hB fl_T_35 (tm_20 hb) rfl d_T_gotAccepted_1 ?_
  refine mr_iload_n ok (i := 1) d_T_gotAccepted_4 rfl rfl ?_
  refine rx_iald ok hB rfl (tm_31 hb) (ty_0 hb) rfl (lt5 hb hi) (by decide) d_T_gotAccepted_5 ?_
  refine mr_iconst ok 2 d_T_gotAccepted_6 (by decide) ?_
  refine mr_icmp_ne ok 56 d_T_gotAccepted_7 (by decide) (fun h7_0 => ?_) (fun h7_0 => ?_)
  · refine sx_vret ok en (Nat.le_refl _) (Nat.le_refl _) d_T_gotAccepted_56 ?_
    exact ⟨rfl, (by first | rfl | simp only [s_T_gotAccepted, if_neg h7_0])⟩
  · refine mr_aload_n ok (i := 0) d_T_gotAccepted_10 rfl rfl ?_
    refine sx_getr ok hB fl_T_38 (tm_20 hb) rfl d_T_gotAccepted_11 ?_
    refine mr_iload_n ok (i := 1) d_T_gotAccepted_14 rfl rfl ?_
    refine rx_iald ok hB rfl (tm_32 hb) (ty_0 hb) rfl (lt5 hb hi) (by decide) d_T_gotAccepted_15 ?_
    refine mr_iload_n ok (i := 3) d_T_gotAccepted_16 rfl rfl ?_
    refine mr_icmp_ne ok 56 d_T_gotAccepted_17 (by decide) (fun h17_1 => ?_) (fun h17_1 => ?_)
    · refine sx_vret ok en (Nat.le_refl _) (Nat.le_refl _) d_T_gotAccepted_56 ?_
      exact ⟨rfl, (by first | rfl | simp only [s_T_gotAccepted, if_pos h7_0, if_neg h17_1])⟩
    · refine mr_aload_n ok (i := 0) d_T_gotAccepted_20 rfl rfl ?_
      refine sx_getr ok hB fl_T_44 (tm_20 hb) rfl d_T_gotAccepted_21 ?_
      refine mr_iload_n ok (i := 1) d_T_gotAccepted_24 rfl rfl ?_
      refine rx_iald ok hB rfl (tm_34 hb) (ty_0 hb) rfl (lt5 hb hi) (by decide) d_T_gotAccepted_25 ?_
      refine mr_if_eq ok 56 d_T_gotAccepted_26 (by decide) (fun h26_2 => ?_) (fun h26_2 => ?_)
      · refine sx_vret ok en (Nat.le_refl _) (Nat.le_refl _) d_T_gotAccepted_56 ?_
        exact ⟨rfl, (by first | rfl | simp only [s_T_gotAccepted, if_pos h7_0, if_pos h17_1, if_pos h26_2])⟩
      · refine mr_iload ok d_T_gotAccepted_29 rfl ?_
        refine mr_aload_n ok (i := 0) d_T_gotAccepted_31 rfl rfl ?_
        refine sx_getr ok hB fl_T_13 (tm_20 hb) rfl d_T_gotAccepted_32 ?_
        refine mr_iload_n ok (i := 1) d_T_gotAccepted_35 rfl rfl ?_
        refine rx_iald ok hB rfl (tm_24 hb) (ty_0 hb) rfl (lt5 hb hi) (by decide) d_T_gotAccepted_36 ?_
        refine mr_iconst ok 1 d_T_gotAccepted_37 (by decide) ?_
        refine mr_iadd ok d_T_gotAccepted_38 ?_
        refine mr_icmp_ne ok 56 d_T_gotAccepted_39 (by decide) (fun h39_3 => ?_) (fun h39_3 => ?_)
        · refine sx_vret ok en (Nat.le_refl _) (Nat.le_refl _) d_T_gotAccepted_56 ?_
          exact ⟨rfl, (by first | rfl | simp only [s_T_gotAccepted, if_pos h7_0, if_pos h17_1, if_neg h26_2, if_neg h39_3])⟩
        · refine mr_aload_n ok (i := 0) d_T_gotAccepted_42 rfl rfl ?_
          refine sx_getr ok hB fl_T_41 (tm_20 hb) rfl d_T_gotAccepted_43 ?_
          refine mr_iload_n ok (i := 1) d_T_gotAccepted_46 rfl rfl ?_
          refine rx_iald ok hB rfl (tm_33 hb) (ty_0 hb) rfl (lt5 hb hi) (by decide) d_T_gotAccepted_47 ?_
          refine mr_iload_n ok (i := 2) d_T_gotAccepted_48 rfl rfl ?_
          refine mr_ishr ok d_T_gotAccepted_49 ?_
          refine mr_iconst ok 1 d_T_gotAccepted_50 (by decide) ?_
          refine mr_iand ok d_T_gotAccepted_51 ?_
          refine mr_iconst ok 1 d_T_gotAccepted_52 (by decide) ?_
          refine mr_icmp_ne ok 57 d_T_gotAccepted_53 (by decide) (fun h53_4 => ?_) (fun h53_4 => ?_)
          · refine mr_aload_n ok (i := 0) d_T_gotAccepted_57 rfl rfl ?_
            refine sx_getr ok hB fl_T_41 (tm_20 hb) rfl d_T_gotAccepted_58 ?_
            refine mr_iload_n ok (i := 1) d_T_gotAccepted_61 rfl rfl ?_
            refine mr_dup2 ok d_T_gotAccepted_62 rfl rfl ?_
            refine rx_iald ok hB rfl (tm_33 hb) (ty_0 hb) rfl (lt5 hb hi) (by decide) d_T_gotAccepted_63 ?_
            refine mr_iconst ok 1 d_T_gotAccepted_64 (by decide) ?_
            refine mr_iload_n ok (i := 2) d_T_gotAccepted_65 rfl rfl ?_
            refine mr_ishl ok d_T_gotAccepted_66 ?_
            refine mr_ior ok d_T_gotAccepted_67 ?_
            refine rx_iast ok hB rfl (tm_33 hb) (ty_0 hb) rfl (lt5 hb hi) (by decide) d_T_gotAccepted_68 ?_
            refine mr_iconst ok 2 d_T_gotAccepted_69 (by decide) ?_
            refine mr_aload_n ok (i := 0) d_T_gotAccepted_70 rfl rfl ?_
            refine mr_aload_n ok (i := 0) d_T_gotAccepted_71 rfl rfl ?_
            refine sx_getr ok hB fl_T_41 (tm_20 hb) rfl d_T_gotAccepted_72 ?_
            refine mr_iload_n ok (i := 1) d_T_gotAccepted_75 rfl rfl ?_
            refine rx_iald ok hB rfl (tm_33 hb) (ty_0 hb) rfl (lt5 hb hi) (by decide) d_T_gotAccepted_76 ?_
            refine sx_cVi ok hB [_] rfl cb_T_108 cv_T_count (tm_20 hb) rfl rfl (c_T_count hb) rfl (Nat.le_of_ble_eq_true rfl) (by decide) ⟨Nat.le_refl _, Nat.le_refl _⟩ d_T_gotAccepted_77 ?_
            refine mr_imul ok d_T_gotAccepted_80 ?_
            refine mr_aload_n ok (i := 0) d_T_gotAccepted_81 rfl rfl ?_
            refine sx_getr ok hB fl_T_65 (tm_20 hb) rfl d_T_gotAccepted_82 ?_
            refine mr_icmp_le ok 119 d_T_gotAccepted_85 (by decide) (fun h85_5 => ?_) (fun h85_5 => ?_)
            · refine sx_vret ok en (Nat.le_refl _) (Nat.le_refl _) d_T_gotAccepted_119 ?_
              exact ⟨rfl, (by first | rfl | simp only [s_T_gotAccepted, if_pos h7_0, if_pos h17_1, if_neg h26_2, if_pos h39_3, if_neg h53_4, if_pos h85_5])⟩
            · refine mr_aload_n ok (i := 0) d_T_gotAccepted_88 rfl rfl ?_
              refine sx_getr ok hB fl_T_44 (tm_20 hb) rfl d_T_gotAccepted_89 ?_
              refine mr_iload_n ok (i := 1) d_T_gotAccepted_92 rfl rfl ?_
              refine rx_iald ok hB rfl (tm_34 hb) (ty_0 hb) rfl (lt5 hb hi) (by decide) d_T_gotAccepted_93 ?_
              refine mr_istore ok d_T_gotAccepted_94 (by decide) ?_
              refine mr_aload_n ok (i := 0) d_T_gotAccepted_96 rfl rfl ?_
              refine mr_iconst ok 5 d_T_gotAccepted_97 (by decide) ?_
              refine mr_iload_n ok (i := 1) d_T_gotAccepted_98 rfl rfl ?_
              refine mr_iconst ok 0 d_T_gotAccepted_99 (by decide) ?_
              refine mr_iload ok d_T_gotAccepted_100 rfl ?_
              refine mr_iload ok d_T_gotAccepted_102 rfl ?_
              refine sx_cVv ok hB [_, _, _, _, _] rfl cb_T_96 cv_T_sendAll (tm_20 hb) rfl rfl (c_T_sendAll hb (by exact hc)) rfl (Nat.le_of_ble_eq_true rfl) (by decide) ⟨Nat.le_refl _, Nat.le_refl _⟩ d_T_gotAccepted_104 ?_
              have hc : rK N (s_T_sendAll N L (sU r 33 0 i ((r 33 0 i) ||| (1 <<< (x1 &&& 31)))) 5 (nI i) 0 x3 ((sU r 33 0 i ((r 33 0 i) ||| (1 <<< (x1 &&& 31)))) 34 0 i)) := rK_T_sendAll (L := L) hc
              refine mr_aload_n ok (i := 0) d_T_gotAccepted_107 rfl rfl ?_
              refine mr_iload_n ok (i := 1) d_T_gotAccepted_108 rfl rfl ?_
              refine mr_iload ok d_T_gotAccepted_109 rfl ?_
              refine sx_cVv ok hB [_, _] rfl cb_T_115 cv_T_learn (tm_20 hb) rfl rfl (c_T_learn hb hi (by exact hc) (by exact x24_sendAll.symm ▸ hx i hi)) rfl (Nat.le_of_ble_eq_true rfl) (by decide) ⟨Nat.le_refl _, Nat.le_refl _⟩ d_T_gotAccepted_111 ?_
              have hc : rK N (s_T_learn N L (s_T_sendAll N L (sU r 33 0 i ((r 33 0 i) ||| (1 <<< (x1 &&& 31)))) 5 (nI i) 0 x3 ((sU r 33 0 i ((r 33 0 i) ||| (1 <<< (x1 &&& 31)))) 34 0 i)) i ((sU r 33 0 i ((r 33 0 i) ||| (1 <<< (x1 &&& 31)))) 34 0 i)) := rK_T_learn (L := L) hi (by exact x24_sendAll.symm ▸ hx i hi) hc
              refine mr_aload_n ok (i := 0) d_T_gotAccepted_114 rfl rfl ?_
              refine mr_iload_n ok (i := 1) d_T_gotAccepted_115 rfl rfl ?_
              refine sx_cVv ok hB [_] rfl cb_T_112 cv_T_propose (tm_20 hb) rfl rfl (c_T_propose hb hi (by exact hc)) rfl (Nat.le_of_ble_eq_true rfl) (by decide) ⟨Nat.le_refl _, Nat.le_refl _⟩ d_T_gotAccepted_116 ?_
              refine sx_vret ok en (Nat.le_refl _) (Nat.le_refl _) d_T_gotAccepted_119 ?_
              exact ⟨rfl, (by first | rfl | simp only [s_T_gotAccepted, if_pos h7_0, if_pos h17_1, if_neg h26_2, if_pos h39_3, if_neg h53_4, if_neg h85_5])⟩
          · refine sx_vret ok en (Nat.le_refl _) (Nat.le_refl _) d_T_gotAccepted_56 ?_
            exact ⟨rfl, (by first | rfl | simp only [s_T_gotAccepted, if_pos h7_0, if_pos h17_1, if_neg h26_2, if_pos h39_3, if_pos h53_4])⟩
def s_T_gotState (N L : Nat) (r : sh_S) (i : Nat) (x : Int32) (y : Int32) : sh_S := (if x ≤ (r 24 0 i) then r else (let r1 := sU r 24 0 i x; (let r2 := sU r1 25 0 i y; (let r3 := sU r2 26 0 i x; (let r4 := sU r3 29 0 i 0; (let r5 := sU r4 28 0 i 0; (let r6 := s_T_follow N L r5 i; r6)))))))
set_option maxHeartbeats 4000000 in
set_option maxRecDepth 100000 in
theorem c_T_gotState {B : sh_B} {Z : mx_Z} {N L : Nat} {cI cR cZ : ClassId} (hb : wB B Z N L cI cR cZ) {c r : sh_S} {i : Nat} (hi : i < N) {x : Int32} {y : Int32} (hc : rK N r) : sc B Z y_T_gotState b_T_gotState 4 none (rmm 1 21) [.ref (B.2.1 20 0), .int (nI i), .int x, .int y] (jn c r) (qe none (jn c (s_T_gotState N L r i x y))) := by
  refine ct_of (by decide) (Nat.le_of_ble_eq_true rfl) (cat_of rfl) ?_
  intro X ok en _
  have hB := hb.1
  refine mr_lv [(0, .ref (B.2.1 20 0)), (1, .int (nI i)), (2, .int x), (3, .int y)] ⟨rfl, rfl, rfl, rfl, trivial⟩ ?_
  refine mr_iload_n ok (i := 2) d_T_gotState_0 rfl rfl ?_
  refine mr_aload_n ok (i := 0) d_T_gotState_1 rfl rfl ?_
  refine sx_getr ok hB fl_T_13 (tm_20 hb) rfl d_T_gotState_2 ?_
  refine mr_iload_n ok (i := 1) d_T_gotState_5 rfl rfl ?_
  refine rx_iald ok hB rfl (tm_24 hb) (ty_0 hb) rfl (lt5 hb hi) (by decide) d_T_gotState_6 ?_
  refine mr_icmp_le ok 50 d_T_gotState_7 (by decide) (fun h7_0 => ?_) (fun h7_0 => ?_)
  · refine sx_vret ok en (Nat.le_refl _) (Nat.le_refl _) d_T_gotState_50 ?_
    exact ⟨rfl, (by first | rfl | simp only [s_T_gotState, if_pos h7_0])⟩
  · refine mr_aload_n ok (i := 0) d_T_gotState_10 rfl rfl ?_
    refine sx_getr ok hB fl_T_13 (tm_20 hb) rfl d_T_gotState_11 ?_
    refine mr_iload_n ok (i := 1) d_T_gotState_14 rfl rfl ?_
    refine mr_iload_n ok (i := 2) d_T_gotState_15 rfl rfl ?_
    refine rx_iast ok hB rfl (tm_24 hb) (ty_0 hb) rfl (lt5 hb hi) (by decide) d_T_gotState_16 ?_
    refine mr_aload_n ok (i := 0) d_T_gotState_17 rfl rfl ?_
    refine sx_getr ok hB fl_T_17 (tm_20 hb) rfl d_T_gotState_18 ?_
    refine mr_iload_n ok (i := 1) d_T_gotState_21 rfl rfl ?_
    refine mr_iload_n ok (i := 3) d_T_gotState_22 rfl rfl ?_
    refine rx_iast ok hB rfl (tm_25 hb) (ty_0 hb) rfl (lt5 hb hi) (by decide) d_T_gotState_23 ?_
    refine mr_aload_n ok (i := 0) d_T_gotState_24 rfl rfl ?_
    refine sx_getr ok hB fl_T_20 (tm_20 hb) rfl d_T_gotState_25 ?_
    refine mr_iload_n ok (i := 1) d_T_gotState_28 rfl rfl ?_
    refine mr_iload_n ok (i := 2) d_T_gotState_29 rfl rfl ?_
    refine rx_iast ok hB rfl (tm_26 hb) (ty_0 hb) rfl (lt5 hb hi) (by decide) d_T_gotState_30 ?_
    refine mr_aload_n ok (i := 0) d_T_gotState_31 rfl rfl ?_
    refine sx_getr ok hB fl_T_29 (tm_20 hb) rfl d_T_gotState_32 ?_
    refine mr_iload_n ok (i := 1) d_T_gotState_35 rfl rfl ?_
    refine mr_iconst ok 0 d_T_gotState_36 (by decide) ?_
    refine rx_iast ok hB rfl (tm_29 hb) (ty_0 hb) rfl (lt5 hb hi) (by decide) d_T_gotState_37 ?_
    refine mr_aload_n ok (i := 0) d_T_gotState_38 rfl rfl ?_
    refine sx_getr ok hB fl_T_26 (tm_20 hb) rfl d_T_gotState_39 ?_
    refine mr_iload_n ok (i := 1) d_T_gotState_42 rfl rfl ?_
    refine mr_iconst ok 0 d_T_gotState_43 (by decide) ?_
    refine rx_iast ok hB rfl (tm_28 hb) (ty_0 hb) rfl (lt5 hb hi) (by decide) d_T_gotState_44 ?_
    refine mr_aload_n ok (i := 0) d_T_gotState_45 rfl rfl ?_
    refine mr_iload_n ok (i := 1) d_T_gotState_46 rfl rfl ?_
    refine sx_cVv ok hB [_] rfl cb_T_92 cv_T_follow (tm_20 hb) rfl rfl (c_T_follow hb hi) rfl (Nat.le_of_ble_eq_true rfl) (by decide) ⟨Nat.le_refl _, Nat.le_refl _⟩ d_T_gotState_47 ?_
    refine sx_vret ok en (Nat.le_refl _) (Nat.le_refl _) d_T_gotState_50 ?_
    exact ⟨rfl, (by first | rfl | simp only [s_T_gotState, if_neg h7_0])⟩
def s_T_comes (N L : Nat) (r : sh_S) (i : Nat) (x1 : Int32) (x2 : Int32) (x4 : Int32) (x5 : Int32) (x6 : Int32) (x7 : Int32) : sh_S := (if x4 ≤ (r 37 0 i) then (let r1 := sU r 37 0 i (r 37 0 i); (if x1 = 1 then (let r2 := s_T_prepared N L r1 i x2 x4 x5; r2) else (if x1 = 2 then (let r3 := s_T_gotPromise N L r1 i x2 x4 x5 x6 x7; r3) else (if x1 = 3 then (let r4 := s_T_gotAccept N L r1 i x2 x4 x5 x6; r4) else (if x1 = 4 then (let r5 := s_T_gotAccepted N L r1 i x2 x4 x5; r5) else (if x1 = 5 then (if x5 = ((r1 24 0 i) + 1) then (let r7 := s_T_learn N L r1 i x6; r7) else (if x5 ≤ ((r1 24 0 i) + 1) then r1 else (let r6 := s_T_send N L r1 6 (nI i) x2 0 ((r1 24 0 i) + 1) 0 0; r6))) else (if x1 = 6 then (if (r1 24 0 i) < x5 then r1 else (let r8 := s_T_help N L r1 i x2 x5; r8)) else (if x1 = 7 then (if (r1 31 0 i) ≤ 0 then r1 else (if x4 ≤ (r1 32 0 i) then r1 else (let r9 := s_T_follow N L r1 i; r9))) else (let r10 := s_T_gotState N L r1 i x5 x6; r10))))))))) else (let r11 := sU r 37 0 i x4; (if x1 = 1 then (let r12 := s_T_prepared N L r11 i x2 x4 x5; r12) else (if x1 = 2 then (let r13 := s_T_gotPromise N L r11 i x2 x4 x5 x6 x7; r13) else (if x1 = 3 then (let r14 := s_T_gotAccept N L r11 i x2 x4 x5 x6; r14) else (if x1 = 4 then (let r15 := s_T_gotAccepted N L r11 i x2 x4 x5; r15) else (if x1 = 5 then (if x5 = ((r11 24 0 i) + 1) then (let r17 := s_T_learn N L r11 i x6; r17) else (if x5 ≤ ((r11 24 0 i) + 1) then r11 else (let r16 := s_T_send N L r11 6 (nI i) x2 0 ((r11 24 0 i) + 1) 0 0; r16))) else (if x1 = 6 then (if (r11 24 0 i) < x5 then r11 else (let r18 := s_T_help N L r11 i x2 x5; r18)) else (if x1 = 7 then (if (r11 31 0 i) ≤ 0 then r11 else (if x4 ≤ (r11 32 0 i) then r11 else (let r19 := s_T_follow N L r11 i; r19))) else (let r20 := s_T_gotState N L r11 i x5 x6; r20))))))))))
set_option maxHeartbeats 4000000 in
set_option maxRecDepth 100000 in
theorem c_T_comes {B : sh_B} {Z : mx_Z} {N L : Nat} {cI cR cZ : ClassId} (hb : wB B Z N L cI cR cZ) {c r : sh_S} {i : Nat} (hi : i < N) {x1 : Int32} {x2 : Int32} {x4 : Int32} {x5 : Int32} {x6 : Int32} {x7 : Int32} (hc : rK N r) (hx : ∀ i, i < N → ¬ r 24 0 i + 1 < 0) : sc B Z y_T_comes b_T_comes 8 none (rmm 5 123) [.ref (B.2.1 20 0), .int x1, .int x2, .int (nI i), .int x4, .int x5, .int x6, .int x7] (jn c r) (qe none (jn c (s_T_comes N L r i x1 x2 x4 x5 x6 x7))) := by
  refine ct_of (by decide) (Nat.le_of_ble_eq_true rfl) (cat_of rfl) ?_
  intro X ok en _
  have hB := hb.1
  refine mr_lv [(0, .ref (B.2.1 20 0)), (1, .int x1), (2, .int x2), (3, .int (nI i)), (4, .int x4), (5, .int x5), (6, .int x6), (7, .int x7)] ⟨rfl, rfl, rfl, rfl, rfl, rfl, rfl, rfl, trivial⟩ ?_
  refine mr_aload_n ok (i := 0) d_T_comes_0 rfl rfl ?_
  refine sx_getr ok hB fl_T_53 (tm_20 hb) rfl d_T_comes_1 ?_
  refine mr_iload_n ok (i := 3) d_T_comes_4 rfl rfl ?_
  refine mr_iload ok d_T_comes_5 rfl ?_
  refine mr_aload_n ok (i := 0) d_T_comes_7 rfl rfl ?_
  refine sx_getr ok hB fl_T_53 (tm_20 hb) rfl d_T_comes_8 ?_
  refine mr_iload_n ok (i := 3) d_T_comes_11 rfl rfl ?_
  refine rx_iald ok hB rfl (tm_37 hb) (ty_0 hb) rfl (lt5 hb hi) (by decide) d_T_comes_12 ?_
  refine mr_icmp_le ok 21 d_T_comes_13 (by decide) (fun h13_0 => ?_) (fun h13_0 => ?_)
  · refine mr_aload_n ok (i := 0) d_T_comes_21 rfl rfl ?_
    refine sx_getr ok hB fl_T_53 (tm_20 hb) rfl d_T_comes_22 ?_
    refine mr_iload_n ok (i := 3) d_T_comes_25 rfl rfl ?_
    refine rx_iald ok hB rfl (tm_37 hb) (ty_0 hb) rfl (lt5 hb hi) (by decide) d_T_comes_26 ?_
    refine rx_iast ok hB rfl (tm_37 hb) (ty_0 hb) rfl (lt5 hb hi) (by decide) d_T_comes_27 ?_
    refine mr_iload_n ok (i := 1) d_T_comes_28 rfl rfl ?_
    by_cases h29_1_1 : x1 = 1
    · refine mr_tableIn (off := 43) ok 72 d_T_comes_29 (by rw [h29_1_1]; decide) (by rw [h29_1_1]; decide) (by rw [h29_1_1]; decide) (by decide) ?_
      refine mr_aload_n ok (i := 0) d_T_comes_72 rfl rfl ?_
      refine mr_iload_n ok (i := 3) d_T_comes_73 rfl rfl ?_
      refine mr_iload_n ok (i := 2) d_T_comes_74 rfl rfl ?_
      refine mr_iload ok d_T_comes_75 rfl ?_
      refine mr_iload ok d_T_comes_77 rfl ?_
      refine sx_cVv ok hB [_, _, _, _] rfl cb_T_118 cv_T_prepared (tm_20 hb) rfl rfl (c_T_prepared hb hi (by exact hc)) rfl (Nat.le_of_ble_eq_true rfl) (by decide) ⟨Nat.le_refl _, Nat.le_refl _⟩ d_T_comes_79 ?_
      refine mr_goto ok 247 d_T_comes_82 (by decide) ?_
      refine sx_vret ok en (Nat.le_refl _) (Nat.le_refl _) d_T_comes_247 ?_
      exact ⟨rfl, (by first | rfl | simp only [s_T_comes, if_pos h13_0, if_pos h29_1_1])⟩
    by_cases h29_1_2 : x1 = 2
    · refine mr_tableIn (off := 56) ok 85 d_T_comes_29 (by rw [h29_1_2]; decide) (by rw [h29_1_2]; decide) (by rw [h29_1_2]; decide) (by decide) ?_
      refine mr_aload_n ok (i := 0) d_T_comes_85 rfl rfl ?_
      refine mr_iload_n ok (i := 3) d_T_comes_86 rfl rfl ?_
      refine mr_iload_n ok (i := 2) d_T_comes_87 rfl rfl ?_
      refine mr_iload ok d_T_comes_88 rfl ?_
      refine mr_iload ok d_T_comes_90 rfl ?_
      refine mr_iload ok d_T_comes_92 rfl ?_
      refine mr_iload ok d_T_comes_94 rfl ?_
      refine sx_cVv ok hB [_, _, _, _, _, _] rfl cb_T_122 cv_T_gotPromise (tm_20 hb) rfl rfl (c_T_gotPromise hb hi (by exact hc)) rfl (Nat.le_of_ble_eq_true rfl) (by decide) ⟨Nat.le_refl _, Nat.le_refl _⟩ d_T_comes_96 ?_
      refine mr_goto ok 247 d_T_comes_99 (by decide) ?_
      refine sx_vret ok en (Nat.le_refl _) (Nat.le_refl _) d_T_comes_247 ?_
      exact ⟨rfl, (by first | rfl | simp only [s_T_comes, if_pos h13_0, if_neg h29_1_1, if_pos h29_1_2])⟩
    by_cases h29_1_3 : x1 = 3
    · refine mr_tableIn (off := 73) ok 102 d_T_comes_29 (by rw [h29_1_3]; decide) (by rw [h29_1_3]; decide) (by rw [h29_1_3]; decide) (by decide) ?_
      refine mr_aload_n ok (i := 0) d_T_comes_102 rfl rfl ?_
      refine mr_iload_n ok (i := 3) d_T_comes_103 rfl rfl ?_
      refine mr_iload_n ok (i := 2) d_T_comes_104 rfl rfl ?_
      refine mr_iload ok d_T_comes_105 rfl ?_
      refine mr_iload ok d_T_comes_107 rfl ?_
      refine mr_iload ok d_T_comes_109 rfl ?_
      refine sx_cVv ok hB [_, _, _, _, _] rfl cb_T_126 cv_T_gotAccept (tm_20 hb) rfl rfl (c_T_gotAccept hb hi (by exact hc)) rfl (Nat.le_of_ble_eq_true rfl) (by decide) ⟨Nat.le_refl _, Nat.le_refl _⟩ d_T_comes_111 ?_
      refine mr_goto ok 247 d_T_comes_114 (by decide) ?_
      refine sx_vret ok en (Nat.le_refl _) (Nat.le_refl _) d_T_comes_247 ?_
      exact ⟨rfl, (by first | rfl | simp only [s_T_comes, if_pos h13_0, if_neg h29_1_1, if_neg h29_1_2, if_pos h29_1_3])⟩
    by_cases h29_1_4 : x1 = 4
    · refine mr_tableIn (off := 88) ok 117 d_T_comes_29 (by rw [h29_1_4]; decide) (by rw [h29_1_4]; decide) (by rw [h29_1_4]; decide) (by decide) ?_
      refine mr_aload_n ok (i := 0) d_T_comes_117 rfl rfl ?_
      refine mr_iload_n ok (i := 3) d_T_comes_118 rfl rfl ?_
      refine mr_iload_n ok (i := 2) d_T_comes_119 rfl rfl ?_
      refine mr_iload ok d_T_comes_120 rfl ?_
      refine mr_iload ok d_T_comes_122 rfl ?_
      refine sx_cVv ok hB [_, _, _, _] rfl cb_T_129 cv_T_gotAccepted (tm_20 hb) rfl rfl (c_T_gotAccepted hb hi (by exact hc) (by exact hx)) rfl (Nat.le_of_ble_eq_true rfl) (by decide) ⟨Nat.le_refl _, Nat.le_refl _⟩ d_T_comes_124 ?_
      refine mr_goto ok 247 d_T_comes_127 (by decide) ?_
      refine sx_vret ok en (Nat.le_refl _) (Nat.le_refl _) d_T_comes_247 ?_
      exact ⟨rfl, (by first | rfl | simp only [s_T_comes, if_pos h13_0, if_neg h29_1_1, if_neg h29_1_2, if_neg h29_1_3, if_pos h29_1_4])⟩
    by_cases h29_1_5 : x1 = 5
    · refine mr_tableIn (off := 101) ok 130 d_T_comes_29 (by rw [h29_1_5]; decide) (by rw [h29_1_5]; decide) (by rw [h29_1_5]; decide) (by decide) ?_
      refine mr_iload ok d_T_comes_130 rfl ?_
      refine mr_aload_n ok (i := 0) d_T_comes_132 rfl rfl ?_
      refine sx_getr ok hB fl_T_13 (tm_20 hb) rfl d_T_comes_133 ?_
      refine mr_iload_n ok (i := 3) d_T_comes_136 rfl rfl ?_
      refine rx_iald ok hB rfl (tm_24 hb) (ty_0 hb) rfl (lt5 hb hi) (by decide) d_T_comes_137 ?_
      refine mr_iconst ok 1 d_T_comes_138 (by decide) ?_
      refine mr_iadd ok d_T_comes_139 ?_
      refine mr_icmp_ne ok 153 d_T_comes_140 (by decide) (fun h140_6 => ?_) (fun h140_6 => ?_)
      · refine mr_iload ok d_T_comes_153 rfl ?_
        refine mr_aload_n ok (i := 0) d_T_comes_155 rfl rfl ?_
        refine sx_getr ok hB fl_T_13 (tm_20 hb) rfl d_T_comes_156 ?_
        refine mr_iload_n ok (i := 3) d_T_comes_159 rfl rfl ?_
        refine rx_iald ok hB rfl (tm_24 hb) (ty_0 hb) rfl (lt5 hb hi) (by decide) d_T_comes_160 ?_
        refine mr_iconst ok 1 d_T_comes_161 (by decide) ?_
        refine mr_iadd ok d_T_comes_162 ?_
        refine mr_icmp_le ok 247 d_T_comes_163 (by decide) (fun h163_7 => ?_) (fun h163_7 => ?_)
        · refine sx_vret ok en (Nat.le_refl _) (Nat.le_refl _) d_T_comes_247 ?_
          exact ⟨rfl, (by first | rfl | simp only [s_T_comes, if_pos h13_0, if_neg h29_1_1, if_neg h29_1_2, if_neg h29_1_3, if_neg h29_1_4, if_pos h29_1_5, if_neg h140_6, if_pos h163_7])⟩
        · refine mr_aload_n ok (i := 0) d_T_comes_166 rfl rfl ?_
          refine mr_bipush ok 6 d_T_comes_167 (by decide) ?_
          refine mr_iload_n ok (i := 3) d_T_comes_169 rfl rfl ?_
          refine mr_iload_n ok (i := 2) d_T_comes_170 rfl rfl ?_
          refine mr_iconst ok 0 d_T_comes_171 (by decide) ?_
          refine mr_aload_n ok (i := 0) d_T_comes_172 rfl rfl ?_
          refine sx_getr ok hB fl_T_13 (tm_20 hb) rfl d_T_comes_173 ?_
          refine mr_iload_n ok (i := 3) d_T_comes_176 rfl rfl ?_
          refine rx_iald ok hB rfl (tm_24 hb) (ty_0 hb) rfl (lt5 hb hi) (by decide) d_T_comes_177 ?_
          refine mr_iconst ok 1 d_T_comes_178 (by decide) ?_
          refine mr_iadd ok d_T_comes_179 ?_
          refine mr_iconst ok 0 d_T_comes_180 (by decide) ?_
          refine mr_iconst ok 0 d_T_comes_181 (by decide) ?_
          refine sx_cVv ok hB [_, _, _, _, _, _, _] rfl cb_T_88 cv_T_send (tm_20 hb) rfl rfl (c_T_send hb (by exact hc.1)) rfl (Nat.le_of_ble_eq_true rfl) (by decide) ⟨Nat.le_refl _, Nat.le_refl _⟩ d_T_comes_182 ?_
          have hc : rK N (s_T_send N L (sU r 37 0 i (r 37 0 i)) 6 (nI i) x2 0 (((sU r 37 0 i (r 37 0 i)) 24 0 i) + 1) 0 0) := rK_T_send (L := L) hc
          refine mr_goto ok 247 d_T_comes_185 (by decide) ?_
          refine sx_vret ok en (Nat.le_refl _) (Nat.le_refl _) d_T_comes_247 ?_
          exact ⟨rfl, (by first | rfl | simp only [s_T_comes, if_pos h13_0, if_neg h29_1_1, if_neg h29_1_2, if_neg h29_1_3, if_neg h29_1_4, if_pos h29_1_5, if_neg h140_6, if_neg h163_7])⟩
      · refine mr_aload_n ok (i := 0) d_T_comes_143 rfl rfl ?_
        refine mr_iload_n ok (i := 3) d_T_comes_144 rfl rfl ?_
        refine mr_iload ok d_T_comes_145 rfl ?_
        refine sx_cVv ok hB [_, _] rfl cb_T_115 cv_T_learn (tm_20 hb) rfl rfl (c_T_learn hb hi (by exact hc) (by exact hx i hi)) rfl (Nat.le_of_ble_eq_true rfl) (by decide) ⟨Nat.le_refl _, Nat.le_refl _⟩ d_T_comes_147 ?_
        have hc : rK N (s_T_learn N L (sU r 37 0 i (r 37 0 i)) i x6) := rK_T_learn (L := L) hi (by exact hx i hi) hc
        refine mr_goto ok 247 d_T_comes_150 (by decide) ?_
        refine sx_vret ok en (Nat.le_refl _) (Nat.le_refl _) d_T_comes_247 ?_
        exact ⟨rfl, (by first | rfl | simp only [s_T_comes, if_pos h13_0, if_neg h29_1_1, if_neg h29_1_2, if_neg h29_1_3, if_neg h29_1_4, if_pos h29_1_5, if_pos h140_6])⟩
    by_cases h29_1_6 : x1 = 6
    · refine mr_tableIn (off := 159) ok 188 d_T_comes_29 (by rw [h29_1_6]; decide) (by rw [h29_1_6]; decide) (by rw [h29_1_6]; decide) (by decide) ?_
      refine mr_iload ok d_T_comes_188 rfl ?_
      refine mr_aload_n ok (i := 0) d_T_comes_190 rfl rfl ?_
      refine sx_getr ok hB fl_T_13 (tm_20 hb) rfl d_T_comes_191 ?_
      refine mr_iload_n ok (i := 3) d_T_comes_194 rfl rfl ?_
      refine rx_iald ok hB rfl (tm_24 hb) (ty_0 hb) rfl (lt5 hb hi) (by decide) d_T_comes_195 ?_
      refine mr_icmp_gt ok 247 d_T_comes_196 (by decide) (fun h196_7 => ?_) (fun h196_7 => ?_)
      · refine sx_vret ok en (Nat.le_refl _) (Nat.le_refl _) d_T_comes_247 ?_
        exact ⟨rfl, (by first | rfl | simp only [s_T_comes, if_pos h13_0, if_neg h29_1_1, if_neg h29_1_2, if_neg h29_1_3, if_neg h29_1_4, if_neg h29_1_5, if_pos h29_1_6, if_pos h196_7])⟩
      · refine mr_aload_n ok (i := 0) d_T_comes_199 rfl rfl ?_
        refine mr_iload_n ok (i := 3) d_T_comes_200 rfl rfl ?_
        refine mr_iload_n ok (i := 2) d_T_comes_201 rfl rfl ?_
        refine mr_iload ok d_T_comes_202 rfl ?_
        refine sx_cVv ok hB [_, _, _] rfl cb_T_104 cv_T_help (tm_20 hb) rfl rfl (c_T_help hb hi (by exact hc)) rfl (Nat.le_of_ble_eq_true rfl) (by decide) ⟨Nat.le_refl _, Nat.le_refl _⟩ d_T_comes_204 ?_
        refine mr_goto ok 247 d_T_comes_207 (by decide) ?_
        refine sx_vret ok en (Nat.le_refl _) (Nat.le_refl _) d_T_comes_247 ?_
        exact ⟨rfl, (by first | rfl | simp only [s_T_comes, if_pos h13_0, if_neg h29_1_1, if_neg h29_1_2, if_neg h29_1_3, if_neg h29_1_4, if_neg h29_1_5, if_pos h29_1_6, if_neg h196_7])⟩
    by_cases h29_1_7 : x1 = 7
    · refine mr_tableIn (off := 181) ok 210 d_T_comes_29 (by rw [h29_1_7]; decide) (by rw [h29_1_7]; decide) (by rw [h29_1_7]; decide) (by decide) ?_
      refine mr_aload_n ok (i := 0) d_T_comes_210 rfl rfl ?_
      refine sx_getr ok hB fl_T_35 (tm_20 hb) rfl d_T_comes_211 ?_
      refine mr_iload_n ok (i := 3) d_T_comes_214 rfl rfl ?_
      refine rx_iald ok hB rfl (tm_31 hb) (ty_0 hb) rfl (lt5 hb hi) (by decide) d_T_comes_215 ?_
      refine mr_if_le ok 247 d_T_comes_216 (by decide) (fun h216_8 => ?_) (fun h216_8 => ?_)
      · refine sx_vret ok en (Nat.le_refl _) (Nat.le_refl _) d_T_comes_247 ?_
        exact ⟨rfl, (by first | rfl | simp only [s_T_comes, if_pos h13_0, if_neg h29_1_1, if_neg h29_1_2, if_neg h29_1_3, if_neg h29_1_4, if_neg h29_1_5, if_neg h29_1_6, if_pos h29_1_7, if_pos h216_8])⟩
      · refine mr_aload_n ok (i := 0) d_T_comes_219 rfl rfl ?_
        refine sx_getr ok hB fl_T_38 (tm_20 hb) rfl d_T_comes_220 ?_
        refine mr_iload_n ok (i := 3) d_T_comes_223 rfl rfl ?_
        refine rx_iald ok hB rfl (tm_32 hb) (ty_0 hb) rfl (lt5 hb hi) (by decide) d_T_comes_224 ?_
        refine mr_iload ok d_T_comes_225 rfl ?_
        refine mr_icmp_ge ok 247 d_T_comes_227 (by decide) (fun h227_9 => ?_) (fun h227_9 => ?_)
        · refine sx_vret ok en (Nat.le_refl _) (Nat.le_refl _) d_T_comes_247 ?_
          exact ⟨rfl, (by first | rfl | simp only [s_T_comes, if_pos h13_0, if_neg h29_1_1, if_neg h29_1_2, if_neg h29_1_3, if_neg h29_1_4, if_neg h29_1_5, if_neg h29_1_6, if_pos h29_1_7, if_neg h216_8, if_pos h227_9])⟩
        · refine mr_aload_n ok (i := 0) d_T_comes_230 rfl rfl ?_
          refine mr_iload_n ok (i := 3) d_T_comes_231 rfl rfl ?_
          refine sx_cVv ok hB [_] rfl cb_T_92 cv_T_follow (tm_20 hb) rfl rfl (c_T_follow hb hi) rfl (Nat.le_of_ble_eq_true rfl) (by decide) ⟨Nat.le_refl _, Nat.le_refl _⟩ d_T_comes_232 ?_
          refine mr_goto ok 247 d_T_comes_235 (by decide) ?_
          refine sx_vret ok en (Nat.le_refl _) (Nat.le_refl _) d_T_comes_247 ?_
          exact ⟨rfl, (by first | rfl | simp only [s_T_comes, if_pos h13_0, if_neg h29_1_1, if_neg h29_1_2, if_neg h29_1_3, if_neg h29_1_4, if_neg h29_1_5, if_neg h29_1_6, if_pos h29_1_7, if_neg h216_8, if_neg h227_9])⟩
    have th29_1_1 := lv_neT h29_1_1 (a := 1) (by decide)
    have th29_1_2 := lv_neT h29_1_2 (a := 2) (by decide)
    have th29_1_3 := lv_neT h29_1_3 (a := 3) (by decide)
    have th29_1_4 := lv_neT h29_1_4 (a := 4) (by decide)
    have th29_1_5 := lv_neT h29_1_5 (a := 5) (by decide)
    have th29_1_6 := lv_neT h29_1_6 (a := 6) (by decide)
    have th29_1_7 := lv_neT h29_1_7 (a := 7) (by decide)
    refine mr_tableOut ok 238 d_T_comes_29 (by omega) (by decide) ?_
    refine mr_aload_n ok (i := 0) d_T_comes_238 rfl rfl ?_
    refine mr_iload_n ok (i := 3) d_T_comes_239 rfl rfl ?_
    refine mr_iload ok d_T_comes_240 rfl ?_
    refine mr_iload ok d_T_comes_242 rfl ?_
    refine sx_cVv ok hB [_, _, _] rfl cb_T_132 cv_T_gotState (tm_20 hb) rfl rfl (c_T_gotState hb hi (by exact hc)) rfl (Nat.le_of_ble_eq_true rfl) (by decide) ⟨Nat.le_refl _, Nat.le_refl _⟩ d_T_comes_244 ?_
    refine sx_vret ok en (Nat.le_refl _) (Nat.le_refl _) d_T_comes_247 ?_
    exact ⟨rfl, (by first | rfl | simp only [s_T_comes, if_pos h13_0, if_neg h29_1_1, if_neg h29_1_2, if_neg h29_1_3, if_neg h29_1_4, if_neg h29_1_5, if_neg h29_1_6, if_neg h29_1_7])⟩
  · refine mr_iload ok d_T_comes_16 rfl ?_
    refine mr_goto ok 27 d_T_comes_18 (by decide) ?_
    refine rx_iast ok hB rfl (tm_37 hb) (ty_0 hb) rfl (lt5 hb hi) (by decide) d_T_comes_27 ?_
    refine mr_iload_n ok (i := 1) d_T_comes_28 rfl rfl ?_
    by_cases h29_1_1 : x1 = 1
    · refine mr_tableIn (off := 43) ok 72 d_T_comes_29 (by rw [h29_1_1]; decide) (by rw [h29_1_1]; decide) (by rw [h29_1_1]; decide) (by decide) ?_
      refine mr_aload_n ok (i := 0) d_T_comes_72 rfl rfl ?_
      refine mr_iload_n ok (i := 3) d_T_comes_73 rfl rfl ?_
      refine mr_iload_n ok (i := 2) d_T_comes_74 rfl rfl ?_
      refine mr_iload ok d_T_comes_75 rfl ?_
      refine mr_iload ok d_T_comes_77 rfl ?_
      refine sx_cVv ok hB [_, _, _, _] rfl cb_T_118 cv_T_prepared (tm_20 hb) rfl rfl (c_T_prepared hb hi (by exact hc)) rfl (Nat.le_of_ble_eq_true rfl) (by decide) ⟨Nat.le_refl _, Nat.le_refl _⟩ d_T_comes_79 ?_
      refine mr_goto ok 247 d_T_comes_82 (by decide) ?_
      refine sx_vret ok en (Nat.le_refl _) (Nat.le_refl _) d_T_comes_247 ?_
      exact ⟨rfl, (by first | rfl | simp only [s_T_comes, if_neg h13_0, if_pos h29_1_1])⟩
    by_cases h29_1_2 : x1 = 2
    · refine mr_tableIn (off := 56) ok 85 d_T_comes_29 (by rw [h29_1_2]; decide) (by rw [h29_1_2]; decide) (by rw [h29_1_2]; decide) (by decide) ?_
      refine mr_aload_n ok (i := 0) d_T_comes_85 rfl rfl ?_
      refine mr_iload_n ok (i := 3) d_T_comes_86 rfl rfl ?_
      refine mr_iload_n ok (i := 2) d_T_comes_87 rfl rfl ?_
      refine mr_iload ok d_T_comes_88 rfl ?_
      refine mr_iload ok d_T_comes_90 rfl ?_
      refine mr_iload ok d_T_comes_92 rfl ?_
      refine mr_iload ok d_T_comes_94 rfl ?_
      refine sx_cVv ok hB [_, _, _, _, _, _] rfl cb_T_122 cv_T_gotPromise (tm_20 hb) rfl rfl (c_T_gotPromise hb hi (by exact hc)) rfl (Nat.le_of_ble_eq_true rfl) (by decide) ⟨Nat.le_refl _, Nat.le_refl _⟩ d_T_comes_96 ?_
      refine mr_goto ok 247 d_T_comes_99 (by decide) ?_
      refine sx_vret ok en (Nat.le_refl _) (Nat.le_refl _) d_T_comes_247 ?_
      exact ⟨rfl, (by first | rfl | simp only [s_T_comes, if_neg h13_0, if_neg h29_1_1, if_pos h29_1_2])⟩
    by_cases h29_1_3 : x1 = 3
    · refine mr_tableIn (off := 73) ok 102 d_T_comes_29 (by rw [h29_1_3]; decide) (by rw [h29_1_3]; decide) (by rw [h29_1_3]; decide) (by decide) ?_
      refine mr_aload_n ok (i := 0) d_T_comes_102 rfl rfl ?_
      refine mr_iload_n ok (i := 3) d_T_comes_103 rfl rfl ?_
      refine mr_iload_n ok (i := 2) d_T_comes_104 rfl rfl ?_
      refine mr_iload ok d_T_comes_105 rfl ?_
      refine mr_iload ok d_T_comes_107 rfl ?_
      refine mr_iload ok d_T_comes_109 rfl ?_
      refine sx_cVv ok hB [_, _, _, _, _] rfl cb_T_126 cv_T_gotAccept (tm_20 hb) rfl rfl (c_T_gotAccept hb hi (by exact hc)) rfl (Nat.le_of_ble_eq_true rfl) (by decide) ⟨Nat.le_refl _, Nat.le_refl _⟩ d_T_comes_111 ?_
      refine mr_goto ok 247 d_T_comes_114 (by decide) ?_
      refine sx_vret ok en (Nat.le_refl _) (Nat.le_refl _) d_T_comes_247 ?_
      exact ⟨rfl, (by first | rfl | simp only [s_T_comes, if_neg h13_0, if_neg h29_1_1, if_neg h29_1_2, if_pos h29_1_3])⟩
    by_cases h29_1_4 : x1 = 4
    · refine mr_tableIn (off := 88) ok 117 d_T_comes_29 (by rw [h29_1_4]; decide) (by rw [h29_1_4]; decide) (by rw [h29_1_4]; decide) (by decide) ?_
      refine mr_aload_n ok (i := 0) d_T_comes_117 rfl rfl ?_
      refine mr_iload_n ok (i := 3) d_T_comes_118 rfl rfl ?_
      refine mr_iload_n ok (i := 2) d_T_comes_119 rfl rfl ?_
      refine mr_iload ok d_T_comes_120 rfl ?_
      refine mr_iload ok d_T_comes_122 rfl ?_
      refine sx_cVv ok hB [_, _, _, _] rfl cb_T_129 cv_T_gotAccepted (tm_20 hb) rfl rfl (c_T_gotAccepted hb hi (by exact hc) (by exact hx)) rfl (Nat.le_of_ble_eq_true rfl) (by decide) ⟨Nat.le_refl _, Nat.le_refl _⟩ d_T_comes_124 ?_
      refine mr_goto ok 247 d_T_comes_127 (by decide) ?_
      refine sx_vret ok en (Nat.le_refl _) (Nat.le_refl _) d_T_comes_247 ?_
      exact ⟨rfl, (by first | rfl | simp only [s_T_comes, if_neg h13_0, if_neg h29_1_1, if_neg h29_1_2, if_neg h29_1_3, if_pos h29_1_4])⟩
    by_cases h29_1_5 : x1 = 5
    · refine mr_tableIn (off := 101) ok 130 d_T_comes_29 (by rw [h29_1_5]; decide) (by rw [h29_1_5]; decide) (by rw [h29_1_5]; decide) (by decide) ?_
      refine mr_iload ok d_T_comes_130 rfl ?_
      refine mr_aload_n ok (i := 0) d_T_comes_132 rfl rfl ?_
      refine sx_getr ok hB fl_T_13 (tm_20 hb) rfl d_T_comes_133 ?_
      refine mr_iload_n ok (i := 3) d_T_comes_136 rfl rfl ?_
      refine rx_iald ok hB rfl (tm_24 hb) (ty_0 hb) rfl (lt5 hb hi) (by decide) d_T_comes_137 ?_
      refine mr_iconst ok 1 d_T_comes_138 (by decide) ?_
      refine mr_iadd ok d_T_comes_139 ?_
      refine mr_icmp_ne ok 153 d_T_comes_140 (by decide) (fun h140_6 => ?_) (fun h140_6 => ?_)
      · refine mr_iload ok d_T_comes_153 rfl ?_
        refine mr_aload_n ok (i := 0) d_T_comes_155 rfl rfl ?_
        refine sx_getr ok hB fl_T_13 (tm_20 hb) rfl d_T_comes_156 ?_
        refine mr_iload_n ok (i := 3) d_T_comes_159 rfl rfl ?_
        refine rx_iald ok hB rfl (tm_24 hb) (ty_0 hb) rfl (lt5 hb hi) (by decide) d_T_comes_160 ?_
        refine mr_iconst ok 1 d_T_comes_161 (by decide) ?_
        refine mr_iadd ok d_T_comes_162 ?_
        refine mr_icmp_le ok 247 d_T_comes_163 (by decide) (fun h163_7 => ?_) (fun h163_7 => ?_)
        · refine sx_vret ok en (Nat.le_refl _) (Nat.le_refl _) d_T_comes_247 ?_
          exact ⟨rfl, (by first | rfl | simp only [s_T_comes, if_neg h13_0, if_neg h29_1_1, if_neg h29_1_2, if_neg h29_1_3, if_neg h29_1_4, if_pos h29_1_5, if_neg h140_6, if_pos h163_7])⟩
        · refine mr_aload_n ok (i := 0) d_T_comes_166 rfl rfl ?_
          refine mr_bipush ok 6 d_T_comes_167 (by decide) ?_
          refine mr_iload_n ok (i := 3) d_T_comes_169 rfl rfl ?_
          refine mr_iload_n ok (i := 2) d_T_comes_170 rfl rfl ?_
          refine mr_iconst ok 0 d_T_comes_171 (by decide) ?_
          refine mr_aload_n ok (i := 0) d_T_comes_172 rfl rfl ?_
          refine sx_getr ok hB fl_T_13 (tm_20 hb) rfl d_T_comes_173 ?_
          refine mr_iload_n ok (i := 3) d_T_comes_176 rfl rfl ?_
          refine rx_iald ok hB rfl (tm_24 hb) (ty_0 hb) rfl (lt5 hb hi) (by decide) d_T_comes_177 ?_
          refine mr_iconst ok 1 d_T_comes_178 (by decide) ?_
          refine mr_iadd ok d_T_comes_179 ?_
          refine mr_iconst ok 0 d_T_comes_180 (by decide) ?_
          refine mr_iconst ok 0 d_T_comes_181 (by decide) ?_
          refine sx_cVv ok hB [_, _, _, _, _, _, _] rfl cb_T_88 cv_T_send (tm_20 hb) rfl rfl (c_T_send hb (by exact hc.1)) rfl (Nat.le_of_ble_eq_true rfl) (by decide) ⟨Nat.le_refl _, Nat.le_refl _⟩ d_T_comes_182 ?_
          have hc : rK N (s_T_send N L (sU r 37 0 i x4) 6 (nI i) x2 0 (((sU r 37 0 i x4) 24 0 i) + 1) 0 0) := rK_T_send (L := L) hc
          refine mr_goto ok 247 d_T_comes_185 (by decide) ?_
          refine sx_vret ok en (Nat.le_refl _) (Nat.le_refl _) d_T_comes_247 ?_
          exact ⟨rfl, (by first | rfl | simp only [s_T_comes, if_neg h13_0, if_neg h29_1_1, if_neg h29_1_2, if_neg h29_1_3, if_neg h29_1_4, if_pos h29_1_5, if_neg h140_6, if_neg h163_7])⟩
      · refine mr_aload_n ok (i := 0) d_T_comes_143 rfl rfl ?_
        refine mr_iload_n ok (i := 3) d_T_comes_144 rfl rfl ?_
        refine mr_iload ok d_T_comes_145 rfl ?_
        refine sx_cVv ok hB [_, _] rfl cb_T_115 cv_T_learn (tm_20 hb) rfl rfl (c_T_learn hb hi (by exact hc) (by exact hx i hi)) rfl (Nat.le_of_ble_eq_true rfl) (by decide) ⟨Nat.le_refl _, Nat.le_refl _⟩ d_T_comes_147 ?_
        have hc : rK N (s_T_learn N L (sU r 37 0 i x4) i x6) := rK_T_learn (L := L) hi (by exact hx i hi) hc
        refine mr_goto ok 247 d_T_comes_150 (by decide) ?_
        refine sx_vret ok en (Nat.le_refl _) (Nat.le_refl _) d_T_comes_247 ?_
        exact ⟨rfl, (by first | rfl | simp only [s_T_comes, if_neg h13_0, if_neg h29_1_1, if_neg h29_1_2, if_neg h29_1_3, if_neg h29_1_4, if_pos h29_1_5, if_pos h140_6])⟩
    by_cases h29_1_6 : x1 = 6
    · refine mr_tableIn (off := 159) ok 188 d_T_comes_29 (by rw [h29_1_6]; decide) (by rw [h29_1_6]; decide) (by rw [h29_1_6]; decide) (by decide) ?_
      refine mr_iload ok d_T_comes_188 rfl ?_
      refine mr_aload_n ok (i := 0) d_T_comes_190 rfl rfl ?_
      refine sx_getr ok hB fl_T_13 (tm_20 hb) rfl d_T_comes_191 ?_
      refine mr_iload_n ok (i := 3) d_T_comes_194 rfl rfl ?_
      refine rx_iald ok hB rfl (tm_24 hb) (ty_0 hb) rfl (lt5 hb hi) (by decide) d_T_comes_195 ?_
      refine mr_icmp_gt ok 247 d_T_comes_196 (by decide) (fun h196_7 => ?_) (fun h196_7 => ?_)
      · refine sx_vret ok en (Nat.le_refl _) (Nat.le_refl _) d_T_comes_247 ?_
        exact ⟨rfl, (by first | rfl | simp only [s_T_comes, if_neg h13_0, if_neg h29_1_1, if_neg h29_1_2, if_neg h29_1_3, if_neg h29_1_4, if_neg h29_1_5, if_pos h29_1_6, if_pos h196_7])⟩
      · refine mr_aload_n ok (i := 0) d_T_comes_199 rfl rfl ?_
        refine mr_iload_n ok (i := 3) d_T_comes_200 rfl rfl ?_
        refine mr_iload_n ok (i := 2) d_T_comes_201 rfl rfl ?_
        refine mr_iload ok d_T_comes_202 rfl ?_
        refine sx_cVv ok hB [_, _, _] rfl cb_T_104 cv_T_help (tm_20 hb) rfl rfl (c_T_help hb hi (by exact hc)) rfl (Nat.le_of_ble_eq_true rfl) (by decide) ⟨Nat.le_refl _, Nat.le_refl _⟩ d_T_comes_204 ?_
        refine mr_goto ok 247 d_T_comes_207 (by decide) ?_
        refine sx_vret ok en (Nat.le_refl _) (Nat.le_refl _) d_T_comes_247 ?_
        exact ⟨rfl, (by first | rfl | simp only [s_T_comes, if_neg h13_0, if_neg h29_1_1, if_neg h29_1_2, if_neg h29_1_3, if_neg h29_1_4, if_neg h29_1_5, if_pos h29_1_6, if_neg h196_7])⟩
    by_cases h29_1_7 : x1 = 7
    · refine mr_tableIn (off := 181) ok 210 d_T_comes_29 (by rw [h29_1_7]; decide) (by rw [h29_1_7]; decide) (by rw [h29_1_7]; decide) (by decide) ?_
      refine mr_aload_n ok (i := 0) d_T_comes_210 rfl rfl ?_
      refine sx_getr ok hB fl_T_35 (tm_20 hb) rfl d_T_comes_211 ?_
      refine mr_iload_n ok (i := 3) d_T_comes_214 rfl rfl ?_
      refine rx_iald ok hB rfl (tm_31 hb) (ty_0 hb) rfl (lt5 hb hi) (by decide) d_T_comes_215 ?_
      refine mr_if_le ok 247 d_T_comes_216 (by decide) (fun h216_8 => ?_) (fun h216_8 => ?_)
      · refine sx_vret ok en (Nat.le_refl _) (Nat.le_refl _) d_T_comes_247 ?_
        exact ⟨rfl, (by first | rfl | simp only [s_T_comes, if_neg h13_0, if_neg h29_1_1, if_neg h29_1_2, if_neg h29_1_3, if_neg h29_1_4, if_neg h29_1_5, if_neg h29_1_6, if_pos h29_1_7, if_pos h216_8])⟩
      · refine mr_aload_n ok (i := 0) d_T_comes_219 rfl rfl ?_
        refine sx_getr ok hB fl_T_38 (tm_20 hb) rfl d_T_comes_220 ?_
        refine mr_iload_n ok (i := 3) d_T_comes_223 rfl rfl ?_
        refine rx_iald ok hB rfl (tm_32 hb) (ty_0 hb) rfl (lt5 hb hi) (by decide) d_T_comes_224 ?_
        refine mr_iload ok d_T_comes_225 rfl ?_
        refine mr_icmp_ge ok 247 d_T_comes_227 (by decide) (fun h227_9 => ?_) (fun h227_9 => ?_)
        · refine sx_vret ok en (Nat.le_refl _) (Nat.le_refl _) d_T_comes_247 ?_
          exact ⟨rfl, (by first | rfl | simp only [s_T_comes, if_neg h13_0, if_neg h29_1_1, if_neg h29_1_2, if_neg h29_1_3, if_neg h29_1_4, if_neg h29_1_5, if_neg h29_1_6, if_pos h29_1_7, if_neg h216_8, if_pos h227_9])⟩
        · refine mr_aload_n ok (i := 0) d_T_comes_230 rfl rfl ?_
          refine mr_iload_n ok (i := 3) d_T_comes_231 rfl rfl ?_
          refine sx_cVv ok hB [_] rfl cb_T_92 cv_T_follow (tm_20 hb) rfl rfl (c_T_follow hb hi) rfl (Nat.le_of_ble_eq_true rfl) (by decide) ⟨Nat.le_refl _, Nat.le_refl _⟩ d_T_comes_232 ?_
          refine mr_goto ok 247 d_T_comes_235 (by decide) ?_
          refine sx_vret ok en (Nat.le_refl _) (Nat.le_refl _) d_T_comes_247 ?_
          exact ⟨rfl, (by first | rfl | simp only [s_T_comes, if_neg h13_0, if_neg h29_1_1, if_neg h29_1_2, if_neg h29_1_3, if_neg h29_1_4, if_neg h29_1_5, if_neg h29_1_6, if_pos h29_1_7, if_neg h216_8, if_neg h227_9])⟩
    have th29_1_1 := lv_neT h29_1_1 (a := 1) (by decide)
    have th29_1_2 := lv_neT h29_1_2 (a := 2) (by decide)
    have th29_1_3 := lv_neT h29_1_3 (a := 3) (by decide)
    have th29_1_4 := lv_neT h29_1_4 (a := 4) (by decide)
    have th29_1_5 := lv_neT h29_1_5 (a := 5) (by decide)
    have th29_1_6 := lv_neT h29_1_6 (a := 6) (by decide)
    have th29_1_7 := lv_neT h29_1_7 (a := 7) (by decide)
    refine mr_tableOut ok 238 d_T_comes_29 (by omega) (by decide) ?_
    refine mr_aload_n ok (i := 0) d_T_comes_238 rfl rfl ?_
    refine mr_iload_n ok (i := 3) d_T_comes_239 rfl rfl ?_
    refine mr_iload ok d_T_comes_240 rfl ?_
    refine mr_iload ok d_T_comes_242 rfl ?_
    refine sx_cVv ok hB [_, _, _] rfl cb_T_132 cv_T_gotState (tm_20 hb) rfl rfl (c_T_gotState hb hi (by exact hc)) rfl (Nat.le_of_ble_eq_true rfl) (by decide) ⟨Nat.le_refl _, Nat.le_refl _⟩ d_T_comes_244 ?_
    refine sx_vret ok en (Nat.le_refl _) (Nat.le_refl _) d_T_comes_247 ?_
    exact ⟨rfl, (by first | rfl | simp only [s_T_comes, if_neg h13_0, if_neg h29_1_1, if_neg h29_1_2, if_neg h29_1_3, if_neg h29_1_4, if_neg h29_1_5, if_neg h29_1_6, if_neg h29_1_7])⟩
