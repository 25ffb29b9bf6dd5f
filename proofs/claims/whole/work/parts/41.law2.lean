/-- what the two sides' relation must give: the bounds that the contracts ask for, equal answers, itself again -/
def RS (N L : Nat) (Rel : Nat → sh_S → sh_S → Prop) : Prop := ∀ (t : Nat) (c r : sh_S), Rel t c r →
  (kI N c ∧ rK N r ∧ (∀ i, i < N → ¬ r 24 0 i + 1 < 0) ∧ (∀ x : Int32, ¬ x < 0 → x < r 20 0 21 → kF N (r 40 0 ((7 * x + 2 : Int32).toNatClampNeg))) ∧ (∀ i, i < N → ∃ a b : Nat, a ≤ 10000 ∧ b ≤ 10000 ∧ r 27 0 i = nI a ∧ r 37 0 i = nI b)) ∧
  (t ≤ 511 → Rel (t + 1) c r ∧
  (∀ x y : Int32, (v_P_request N L c x y = u_T_request N L r x y ∧ Rel (t + 1) (s_P_request N L c x y) (z_T_request N L r x y))) ∧
  (∀ x : Int32, (v_P_tick N L c x = u_T_tick N L r x ∧ Rel (t + 1) (s_P_tick N L c x) (z_T_tick N L r x))) ∧
  (∀ x : Int32, (v_P_deliver N L c x = v_T_deliver N L r x ∧ Rel (t + 1) (s_P_deliver N L c x) (s_T_deliver N L r x))) ∧
  (∀ x : Int32, (v_P_lose N L c x = v_T_lose N L r x ∧ Rel (t + 1) (s_P_lose N L c x) (s_T_lose N L r x))) ∧
  (∀ x : Int32, (v_P_twice N L c x = v_T_twice N L r x ∧ Rel (t + 1) (s_P_twice N L c x) (s_T_twice N L r x))) ∧
  (∀ x y : Int32, (y = 0 ∨ y = 1) → (v_P_turn N L c x y = u_T_turn N L r x y ∧ Rel (t + 1) (s_P_turn N L c x y) (z_T_turn N L r x y))) ∧
  (∀ x y : Int32, (v_P_replica N L c x y = u_T_replica N L r x y ∧ Rel (t + 1) c (z_T_replica N L r x y))) ∧
  (∀ x y : Int32, (v_P_slot N L c x y = u_T_slot N L r x y ∧ Rel (t + 1) c (z_T_slot N L r x y))) ∧
  (∀ x y : Int32, (v_P_waiting N L c x y = u_T_waiting N L r x y ∧ Rel (t + 1) c (z_T_waiting N L r x y))) ∧
  (∀ x y : Int32, (v_P_message N L c x y = v_T_message N L r x y ∧ Rel (t + 1) c (s_T_message N L r x y))) ∧
  (∀ x : Int32, (v_P_look N L c x = v_T_look N L r x ∧ Rel (t + 1) c (s_T_look N L r x))))
theorem lw_lt {L j : Nat} (hL : L ≤ 1538) (hj : j ≤ 100000) (h : ¬ nI L - 3 < nI j) : j + 3 ≤ L := by
  have e : (nI L - 3).toInt = (L : Int) - 3 := pk_sub_toInt (a := L) (b := 3) (by omega) (by decide)
  have h2 : ¬ (nI L - 3).toInt < (nI j).toInt := fun z => h (Int32.lt_iff_toInt_lt.mpr z)
  rw [e, nI_toInt (by omega)] at h2
  omega
theorem lw_ij (j k : Nat) : nI j + nI k = nI (j + k) := nI_add j k
set_option maxHeartbeats 8000000 in
set_option maxRecDepth 100000 in
/-- THE LAW'S LOOP -/
theorem law_loop {B : sh_B} {Z : mx_Z} {N L' : Nat} {cI cR cZ : ClassId} (hb : wB B Z N L' cI cR cZ) {b L : Nat} {xs : Nat → Int32} (hL : L ≤ 1538) {X : mx_C} (ok : mx_ok X Z R_W b_W_law 4 room_1) (hs : mx_scr X b L xs) {n : Nat × Nat} (hn : n.1 ≤ room_1.cells ∧ n.2 ≤ room_1.slots) {Rel : Nat → sh_S → sh_S → Prop} (hRS : RS N L' Rel) (kx : ∀ (lv : List (Nat × Value)) (ws : va_W), mx X n 448 lv [.int 1] ws) :
    ∀ (f t : Nat) (c r : sh_S), Rel t c r → t ≤ 512 → 513 ≤ t + f → sx B X n 38 [(0, .ref b), (1, .ref (B.2.1 8 0)), (2, .ref (B.2.1 20 0)), (3, .int (nI (2 + 3 * t)))] [] (jn c r) := by
  have hB := hb.1
  intro f
  induction f with
  | zero =>
    intro t c r h0 h1 h2
    omega
  | succ f ih =>
    intro t c r hrel ht hf
    obtain ⟨hk, hst⟩ := hRS t c r hrel
    refine mr_iload_n ok (i := 3) d_W_law_38 rfl rfl ?_
    refine mr_aload_n ok (i := 0) d_W_law_39 rfl rfl ?_
    refine mr_slen ok hs d_W_law_40 ?_
    refine mr_iconst ok 3 d_W_law_41 (by decide) ?_
    refine mr_isub ok d_W_law_42 ?_
    refine mr_icmp_gt ok 447 d_W_law_43 (by decide) (fun h => ?_) (fun h => ?_)
    · refine mr_iconst ok 1 d_W_law_447 (by decide) ?_
      exact kx _ _
    · have hl := lw_lt hL (by omega) h
      have hst := hst (by omega)
      have kn : ∀ c r : sh_S, Rel (t + 1) c r → sx B X n 441 [(0, .ref b), (1, .ref (B.2.1 8 0)), (2, .ref (B.2.1 20 0)), (3, .int (nI (2 + 3 * t)))] [] (jn c r) := by
        intro c r hr
        refine mr_iinc ok (nI (2 + 3 * (t + 1))) d_W_law_441 rfl (by rw [show 2 + 3 * (t + 1) = 2 + 3 * t + 3 by omega]; exact nI_add _ 3) (by decide) ?_
        refine mr_goto ok 38 d_W_law_444 (by decide) ?_
        refine mr_lv [(0, .ref b), (1, .ref (B.2.1 8 0)), (2, .ref (B.2.1 20 0)), (3, .int (nI (2 + 3 * (t + 1))))] ⟨rfl, rfl, rfl, rfl, trivial⟩ ?_
        exact ih (t + 1) c r hr (by omega) (by omega)
      refine mr_aload_n ok (i := 0) d_W_law_46 rfl rfl ?_
      refine mr_iload_n ok (i := 3) d_W_law_47 rfl rfl ?_
      refine mr_sld ok hs (j := 2 + 3 * t) rfl (by omega) (by omega) d_W_law_48 ?_
      refine mr_bipush ok 15 d_W_law_49 (by decide) ?_
      refine mr_iand ok d_W_law_51 ?_
      generalize xs (2 + 3 * t) &&& 15 = op
      by_cases h0 : op = 0
      · refine mr_tableIn (off := 60) ok 112 d_W_law_52 (by rw [h0]; decide) (by rw [h0]; decide) (by rw [h0]; decide) (by decide) ?_
        refine mr_aload_n ok (i := 1) d_W_law_112 rfl rfl ?_
        refine mr_aload_n ok (i := 0) d_W_law_113 rfl rfl ?_
        refine mr_iload_n ok (i := 3) d_W_law_114 rfl rfl ?_
        refine mr_iconst ok 1 d_W_law_115 (by decide) ?_
        refine mr_iadd ok d_W_law_116 ?_
        refine mr_sld ok hs (j := 2 + 3 * t + 1) (nI_add _ 1) (by omega) (by omega) d_W_law_117 ?_
        refine mr_aload_n ok (i := 0) d_W_law_118 rfl rfl ?_
        refine mr_iload_n ok (i := 3) d_W_law_119 rfl rfl ?_
        refine mr_iconst ok 2 d_W_law_120 (by decide) ?_
        refine mr_iadd ok d_W_law_121 ?_
        refine mr_sld ok hs (j := 2 + 3 * t + 2) (nI_add _ 2) (by omega) (by omega) d_W_law_122 ?_
        refine sx_cVi ok hB [_, _] rfl cb_W_21 cv_P_request (tm_8 hb) rfl rfl (c_P_request hb hk.1) rfl (Nat.le_of_ble_eq_true rfl) (by decide) hn d_W_law_123 ?_
        refine mr_aload_n ok (i := 2) d_W_law_126 rfl rfl ?_
        refine mr_aload_n ok (i := 0) d_W_law_127 rfl rfl ?_
        refine mr_iload_n ok (i := 3) d_W_law_128 rfl rfl ?_
        refine mr_iconst ok 1 d_W_law_129 (by decide) ?_
        refine mr_iadd ok d_W_law_130 ?_
        refine mr_sld ok hs (j := 2 + 3 * t + 1) (nI_add _ 1) (by omega) (by omega) d_W_law_131 ?_
        refine mr_aload_n ok (i := 0) d_W_law_132 rfl rfl ?_
        refine mr_iload_n ok (i := 3) d_W_law_133 rfl rfl ?_
        refine mr_iconst ok 2 d_W_law_134 (by decide) ?_
        refine mr_iadd ok d_W_law_135 ?_
        refine mr_sld ok hs (j := 2 + 3 * t + 2) (nI_add _ 2) (by omega) (by omega) d_W_law_136 ?_
        refine sx_cVi ok hB [_, _] rfl cb_W_25 cv_T_request (tm_20 hb) rfl rfl (cc_T_request hb hk.2.1) rfl (Nat.le_of_ble_eq_true rfl) (by decide) hn d_W_law_137 ?_
        refine mr_icmp_eq ok 441 d_W_law_140 (by decide) (fun _ => ?_) (fun h => absurd (hst.2.1 (xs (2 + 3 * t + 1)) (xs (2 + 3 * t + 2))).1 h)
        exact kn _ _ (hst.2.1 (xs (2 + 3 * t + 1)) (xs (2 + 3 * t + 2))).2
      by_cases h1 : op = 1
      · refine mr_tableIn (off := 93) ok 145 d_W_law_52 (by rw [h1]; decide) (by rw [h1]; decide) (by rw [h1]; decide) (by decide) ?_
        refine mr_aload_n ok (i := 1) d_W_law_145 rfl rfl ?_
        refine mr_aload_n ok (i := 0) d_W_law_146 rfl rfl ?_
        refine mr_iload_n ok (i := 3) d_W_law_147 rfl rfl ?_
        refine mr_iconst ok 1 d_W_law_148 (by decide) ?_
        refine mr_iadd ok d_W_law_149 ?_
        refine mr_sld ok hs (j := 2 + 3 * t + 1) (nI_add _ 1) (by omega) (by omega) d_W_law_150 ?_
        refine sx_cVi ok hB [_] rfl cb_W_26 cv_P_tick (tm_8 hb) rfl rfl (c_P_tick hb hk.1) rfl (Nat.le_of_ble_eq_true rfl) (by decide) hn d_W_law_151 ?_
        refine mr_aload_n ok (i := 2) d_W_law_154 rfl rfl ?_
        refine mr_aload_n ok (i := 0) d_W_law_155 rfl rfl ?_
        refine mr_iload_n ok (i := 3) d_W_law_156 rfl rfl ?_
        refine mr_iconst ok 1 d_W_law_157 (by decide) ?_
        refine mr_iadd ok d_W_law_158 ?_
        refine mr_sld ok hs (j := 2 + 3 * t + 1) (nI_add _ 1) (by omega) (by omega) d_W_law_159 ?_
        refine sx_cVi ok hB [_] rfl cb_W_30 cv_T_tick (tm_20 hb) rfl rfl (cc_T_tick hb hk.2.1 hk.2.2.2.2) rfl (Nat.le_of_ble_eq_true rfl) (by decide) hn d_W_law_160 ?_
        refine mr_icmp_eq ok 441 d_W_law_163 (by decide) (fun _ => ?_) (fun h => absurd (hst.2.2.1 (xs (2 + 3 * t + 1))).1 h)
        exact kn _ _ (hst.2.2.1 (xs (2 + 3 * t + 1))).2
      by_cases h2 : op = 2
      · refine mr_tableIn (off := 116) ok 168 d_W_law_52 (by rw [h2]; decide) (by rw [h2]; decide) (by rw [h2]; decide) (by decide) ?_
        refine mr_aload_n ok (i := 1) d_W_law_168 rfl rfl ?_
        refine mr_aload_n ok (i := 0) d_W_law_169 rfl rfl ?_
        refine mr_iload_n ok (i := 3) d_W_law_170 rfl rfl ?_
        refine mr_iconst ok 1 d_W_law_171 (by decide) ?_
        refine mr_iadd ok d_W_law_172 ?_
        refine mr_sld ok hs (j := 2 + 3 * t + 1) (nI_add _ 1) (by omega) (by omega) d_W_law_173 ?_
        refine sx_cVi ok hB [_] rfl cb_W_31 cv_P_deliver (tm_8 hb) rfl rfl (c_P_deliver hb hk.1) rfl (Nat.le_of_ble_eq_true rfl) (by decide) hn d_W_law_174 ?_
        refine mr_aload_n ok (i := 2) d_W_law_177 rfl rfl ?_
        refine mr_aload_n ok (i := 0) d_W_law_178 rfl rfl ?_
        refine mr_iload_n ok (i := 3) d_W_law_179 rfl rfl ?_
        refine mr_iconst ok 1 d_W_law_180 (by decide) ?_
        refine mr_iadd ok d_W_law_181 ?_
        refine mr_sld ok hs (j := 2 + 3 * t + 1) (nI_add _ 1) (by omega) (by omega) d_W_law_182 ?_
        refine sx_cVi ok hB [_] rfl cb_W_34 cv_T_deliver (tm_20 hb) rfl rfl (c_T_deliver hb hk.2.1 hk.2.2.1 (hk.2.2.2.1 _)) rfl (Nat.le_of_ble_eq_true rfl) (by decide) hn d_W_law_183 ?_
        refine mr_icmp_eq ok 441 d_W_law_186 (by decide) (fun _ => ?_) (fun h => absurd (hst.2.2.2.1 (xs (2 + 3 * t + 1))).1 h)
        exact kn _ _ (hst.2.2.2.1 (xs (2 + 3 * t + 1))).2
      by_cases h3 : op = 3
      · refine mr_tableIn (off := 139) ok 191 d_W_law_52 (by rw [h3]; decide) (by rw [h3]; decide) (by rw [h3]; decide) (by decide) ?_
        refine mr_aload_n ok (i := 1) d_W_law_191 rfl rfl ?_
        refine mr_aload_n ok (i := 0) d_W_law_192 rfl rfl ?_
        refine mr_iload_n ok (i := 3) d_W_law_193 rfl rfl ?_
        refine mr_iconst ok 1 d_W_law_194 (by decide) ?_
        refine mr_iadd ok d_W_law_195 ?_
        refine mr_sld ok hs (j := 2 + 3 * t + 1) (nI_add _ 1) (by omega) (by omega) d_W_law_196 ?_
        refine sx_cVi ok hB [_] rfl cb_W_35 cv_P_lose (tm_8 hb) rfl rfl (c_P_lose hb hk.1) rfl (Nat.le_of_ble_eq_true rfl) (by decide) hn d_W_law_197 ?_
        refine mr_aload_n ok (i := 2) d_W_law_200 rfl rfl ?_
        refine mr_aload_n ok (i := 0) d_W_law_201 rfl rfl ?_
        refine mr_iload_n ok (i := 3) d_W_law_202 rfl rfl ?_
        refine mr_iconst ok 1 d_W_law_203 (by decide) ?_
        refine mr_iadd ok d_W_law_204 ?_
        refine mr_sld ok hs (j := 2 + 3 * t + 1) (nI_add _ 1) (by omega) (by omega) d_W_law_205 ?_
        refine sx_cVi ok hB [_] rfl cb_W_39 cv_T_lose (tm_20 hb) rfl rfl (c_T_lose hb hk.2.1) rfl (Nat.le_of_ble_eq_true rfl) (by decide) hn d_W_law_206 ?_
        refine mr_icmp_eq ok 441 d_W_law_209 (by decide) (fun _ => ?_) (fun h => absurd (hst.2.2.2.2.1 (xs (2 + 3 * t + 1))).1 h)
        exact kn _ _ (hst.2.2.2.2.1 (xs (2 + 3 * t + 1))).2
      by_cases h4 : op = 4
      · refine mr_tableIn (off := 162) ok 214 d_W_law_52 (by rw [h4]; decide) (by rw [h4]; decide) (by rw [h4]; decide) (by decide) ?_
        refine mr_aload_n ok (i := 1) d_W_law_214 rfl rfl ?_
        refine mr_aload_n ok (i := 0) d_W_law_215 rfl rfl ?_
        refine mr_iload_n ok (i := 3) d_W_law_216 rfl rfl ?_
        refine mr_iconst ok 1 d_W_law_217 (by decide) ?_
        refine mr_iadd ok d_W_law_218 ?_
        refine mr_sld ok hs (j := 2 + 3 * t + 1) (nI_add _ 1) (by omega) (by omega) d_W_law_219 ?_
        refine sx_cVi ok hB [_] rfl cb_W_40 cv_P_twice (tm_8 hb) rfl rfl (c_P_twice hb hk.1) rfl (Nat.le_of_ble_eq_true rfl) (by decide) hn d_W_law_220 ?_
        refine mr_aload_n ok (i := 2) d_W_law_223 rfl rfl ?_
        refine mr_aload_n ok (i := 0) d_W_law_224 rfl rfl ?_
        refine mr_iload_n ok (i := 3) d_W_law_225 rfl rfl ?_
        refine mr_iconst ok 1 d_W_law_226 (by decide) ?_
        refine mr_iadd ok d_W_law_227 ?_
        refine mr_sld ok hs (j := 2 + 3 * t + 1) (nI_add _ 1) (by omega) (by omega) d_W_law_228 ?_
        refine sx_cVi ok hB [_] rfl cb_W_43 cv_T_twice (tm_20 hb) rfl rfl (c_T_twice hb hk.2.1) rfl (Nat.le_of_ble_eq_true rfl) (by decide) hn d_W_law_229 ?_
        refine mr_icmp_eq ok 441 d_W_law_232 (by decide) (fun _ => ?_) (fun h => absurd (hst.2.2.2.2.2.1 (xs (2 + 3 * t + 1))).1 h)
        exact kn _ _ (hst.2.2.2.2.2.1 (xs (2 + 3 * t + 1))).2
      by_cases h5 : op = 5
      · refine mr_tableIn (off := 185) ok 237 d_W_law_52 (by rw [h5]; decide) (by rw [h5]; decide) (by rw [h5]; decide) (by decide) ?_
        by_cases hz : (xs (2 + 3 * t + 2)) = 0
        · refine mr_aload_n ok (i := 1) d_W_law_237 rfl rfl ?_
          refine mr_aload_n ok (i := 0) d_W_law_238 rfl rfl ?_
          refine mr_iload_n ok (i := 3) d_W_law_239 rfl rfl ?_
          refine mr_iconst ok 1 d_W_law_240 (by decide) ?_
          refine mr_iadd ok d_W_law_241 ?_
          refine mr_sld ok hs (j := 2 + 3 * t + 1) (nI_add _ 1) (by omega) (by omega) d_W_law_242 ?_
          refine mr_aload_n ok (i := 0) d_W_law_243 rfl rfl ?_
          refine mr_iload_n ok (i := 3) d_W_law_244 rfl rfl ?_
          refine mr_iconst ok 2 d_W_law_245 (by decide) ?_
          refine mr_iadd ok d_W_law_246 ?_
          refine mr_sld ok hs (j := 2 + 3 * t + 2) (nI_add _ 2) (by omega) (by omega) d_W_law_247 ?_
          refine mr_if_eq ok 255 d_W_law_248 (by decide) (fun _ => ?_) (fun h => absurd hz h)
          refine mr_iconst ok 0 d_W_law_255 (by decide) ?_
          refine sx_cVi ok hB [_, _] rfl cb_W_44 cv_P_turn (tm_8 hb) rfl rfl (c_P_turn hb hk.1 ⟨rfl, rfl⟩) rfl (Nat.le_of_ble_eq_true rfl) (by decide) hn d_W_law_256 ?_
          refine mr_aload_n ok (i := 2) d_W_law_259 rfl rfl ?_
          refine mr_aload_n ok (i := 0) d_W_law_260 rfl rfl ?_
          refine mr_iload_n ok (i := 3) d_W_law_261 rfl rfl ?_
          refine mr_iconst ok 1 d_W_law_262 (by decide) ?_
          refine mr_iadd ok d_W_law_263 ?_
          refine mr_sld ok hs (j := 2 + 3 * t + 1) (nI_add _ 1) (by omega) (by omega) d_W_law_264 ?_
          refine mr_aload_n ok (i := 0) d_W_law_265 rfl rfl ?_
          refine mr_iload_n ok (i := 3) d_W_law_266 rfl rfl ?_
          refine mr_iconst ok 2 d_W_law_267 (by decide) ?_
          refine mr_iadd ok d_W_law_268 ?_
          refine mr_sld ok hs (j := 2 + 3 * t + 2) (nI_add _ 2) (by omega) (by omega) d_W_law_269 ?_
          refine mr_if_eq ok 277 d_W_law_270 (by decide) (fun _ => ?_) (fun h => absurd hz h)
          refine mr_iconst ok 0 d_W_law_277 (by decide) ?_
          refine sx_cVi ok hB [_, _] rfl cb_W_48 cv_T_turn (tm_20 hb) rfl rfl (cc_T_turn hb rfl) rfl (Nat.le_of_ble_eq_true rfl) (by decide) hn d_W_law_278 ?_
          refine mr_icmp_eq ok 441 d_W_law_281 (by decide) (fun _ => ?_) (fun h => absurd (hst.2.2.2.2.2.2.1 (xs (2 + 3 * t + 1)) 0 (by decide)).1 h)
          exact kn _ _ (hst.2.2.2.2.2.2.1 (xs (2 + 3 * t + 1)) 0 (by decide)).2
        · refine mr_aload_n ok (i := 1) d_W_law_237 rfl rfl ?_
          refine mr_aload_n ok (i := 0) d_W_law_238 rfl rfl ?_
          refine mr_iload_n ok (i := 3) d_W_law_239 rfl rfl ?_
          refine mr_iconst ok 1 d_W_law_240 (by decide) ?_
          refine mr_iadd ok d_W_law_241 ?_
          refine mr_sld ok hs (j := 2 + 3 * t + 1) (nI_add _ 1) (by omega) (by omega) d_W_law_242 ?_
          refine mr_aload_n ok (i := 0) d_W_law_243 rfl rfl ?_
          refine mr_iload_n ok (i := 3) d_W_law_244 rfl rfl ?_
          refine mr_iconst ok 2 d_W_law_245 (by decide) ?_
          refine mr_iadd ok d_W_law_246 ?_
          refine mr_sld ok hs (j := 2 + 3 * t + 2) (nI_add _ 2) (by omega) (by omega) d_W_law_247 ?_
          refine mr_if_eq ok 255 d_W_law_248 (by decide) (fun h => absurd h hz) (fun _ => ?_)
          refine mr_iconst ok 1 d_W_law_251 (by decide) ?_
          refine mr_goto ok 256 d_W_law_252 (by decide) ?_
          refine sx_cVi ok hB [_, _] rfl cb_W_44 cv_P_turn (tm_8 hb) rfl rfl (c_P_turn hb hk.1 ⟨rfl, rfl⟩) rfl (Nat.le_of_ble_eq_true rfl) (by decide) hn d_W_law_256 ?_
          refine mr_aload_n ok (i := 2) d_W_law_259 rfl rfl ?_
          refine mr_aload_n ok (i := 0) d_W_law_260 rfl rfl ?_
          refine mr_iload_n ok (i := 3) d_W_law_261 rfl rfl ?_
          refine mr_iconst ok 1 d_W_law_262 (by decide) ?_
          refine mr_iadd ok d_W_law_263 ?_
          refine mr_sld ok hs (j := 2 + 3 * t + 1) (nI_add _ 1) (by omega) (by omega) d_W_law_264 ?_
          refine mr_aload_n ok (i := 0) d_W_law_265 rfl rfl ?_
          refine mr_iload_n ok (i := 3) d_W_law_266 rfl rfl ?_
          refine mr_iconst ok 2 d_W_law_267 (by decide) ?_
          refine mr_iadd ok d_W_law_268 ?_
          refine mr_sld ok hs (j := 2 + 3 * t + 2) (nI_add _ 2) (by omega) (by omega) d_W_law_269 ?_
          refine mr_if_eq ok 277 d_W_law_270 (by decide) (fun h => absurd h hz) (fun _ => ?_)
          refine mr_iconst ok 1 d_W_law_273 (by decide) ?_
          refine mr_goto ok 278 d_W_law_274 (by decide) ?_
          refine sx_cVi ok hB [_, _] rfl cb_W_48 cv_T_turn (tm_20 hb) rfl rfl (cc_T_turn hb rfl) rfl (Nat.le_of_ble_eq_true rfl) (by decide) hn d_W_law_278 ?_
          refine mr_icmp_eq ok 441 d_W_law_281 (by decide) (fun _ => ?_) (fun h => absurd (hst.2.2.2.2.2.2.1 (xs (2 + 3 * t + 1)) 1 (by decide)).1 h)
          exact kn _ _ (hst.2.2.2.2.2.2.1 (xs (2 + 3 * t + 1)) 1 (by decide)).2
      by_cases h6 : op = 6
      · refine mr_tableIn (off := 234) ok 286 d_W_law_52 (by rw [h6]; decide) (by rw [h6]; decide) (by rw [h6]; decide) (by decide) ?_
        refine mr_aload_n ok (i := 1) d_W_law_286 rfl rfl ?_
        refine mr_aload_n ok (i := 0) d_W_law_287 rfl rfl ?_
        refine mr_iload_n ok (i := 3) d_W_law_288 rfl rfl ?_
        refine mr_iconst ok 1 d_W_law_289 (by decide) ?_
        refine mr_iadd ok d_W_law_290 ?_
        refine mr_sld ok hs (j := 2 + 3 * t + 1) (nI_add _ 1) (by omega) (by omega) d_W_law_291 ?_
        refine mr_aload_n ok (i := 0) d_W_law_292 rfl rfl ?_
        refine mr_iload_n ok (i := 3) d_W_law_293 rfl rfl ?_
        refine mr_iconst ok 2 d_W_law_294 (by decide) ?_
        refine mr_iadd ok d_W_law_295 ?_
        refine mr_sld ok hs (j := 2 + 3 * t + 2) (nI_add _ 2) (by omega) (by omega) d_W_law_296 ?_
        refine sx_cVi ok hB [_, _] rfl cb_W_49 cv_P_replica (tm_8 hb) rfl rfl (c_P_replica hb hk.1) rfl (Nat.le_of_ble_eq_true rfl) (by decide) hn d_W_law_297 ?_
        refine mr_aload_n ok (i := 2) d_W_law_300 rfl rfl ?_
        refine mr_aload_n ok (i := 0) d_W_law_301 rfl rfl ?_
        refine mr_iload_n ok (i := 3) d_W_law_302 rfl rfl ?_
        refine mr_iconst ok 1 d_W_law_303 (by decide) ?_
        refine mr_iadd ok d_W_law_304 ?_
        refine mr_sld ok hs (j := 2 + 3 * t + 1) (nI_add _ 1) (by omega) (by omega) d_W_law_305 ?_
        refine mr_aload_n ok (i := 0) d_W_law_306 rfl rfl ?_
        refine mr_iload_n ok (i := 3) d_W_law_307 rfl rfl ?_
        refine mr_iconst ok 2 d_W_law_308 (by decide) ?_
        refine mr_iadd ok d_W_law_309 ?_
        refine mr_sld ok hs (j := 2 + 3 * t + 2) (nI_add _ 2) (by omega) (by omega) d_W_law_310 ?_
        refine sx_cVi ok hB [_, _] rfl cb_W_53 cv_T_replica (tm_20 hb) rfl rfl (cc_T_replica hb) rfl (Nat.le_of_ble_eq_true rfl) (by decide) hn d_W_law_311 ?_
        refine mr_icmp_eq ok 441 d_W_law_314 (by decide) (fun _ => ?_) (fun h => absurd (hst.2.2.2.2.2.2.2.1 (xs (2 + 3 * t + 1)) (xs (2 + 3 * t + 2))).1 h)
        exact kn _ _ (hst.2.2.2.2.2.2.2.1 (xs (2 + 3 * t + 1)) (xs (2 + 3 * t + 2))).2
      by_cases h7 : op = 7
      · refine mr_tableIn (off := 267) ok 319 d_W_law_52 (by rw [h7]; decide) (by rw [h7]; decide) (by rw [h7]; decide) (by decide) ?_
        refine mr_aload_n ok (i := 1) d_W_law_319 rfl rfl ?_
        refine mr_aload_n ok (i := 0) d_W_law_320 rfl rfl ?_
        refine mr_iload_n ok (i := 3) d_W_law_321 rfl rfl ?_
        refine mr_iconst ok 1 d_W_law_322 (by decide) ?_
        refine mr_iadd ok d_W_law_323 ?_
        refine mr_sld ok hs (j := 2 + 3 * t + 1) (nI_add _ 1) (by omega) (by omega) d_W_law_324 ?_
        refine mr_aload_n ok (i := 0) d_W_law_325 rfl rfl ?_
        refine mr_iload_n ok (i := 3) d_W_law_326 rfl rfl ?_
        refine mr_iconst ok 2 d_W_law_327 (by decide) ?_
        refine mr_iadd ok d_W_law_328 ?_
        refine mr_sld ok hs (j := 2 + 3 * t + 2) (nI_add _ 2) (by omega) (by omega) d_W_law_329 ?_
        refine sx_cVi ok hB [_, _] rfl cb_W_54 cv_P_slot (tm_8 hb) rfl rfl (c_P_slot hb hk.1) rfl (Nat.le_of_ble_eq_true rfl) (by decide) hn d_W_law_330 ?_
        refine mr_aload_n ok (i := 2) d_W_law_333 rfl rfl ?_
        refine mr_aload_n ok (i := 0) d_W_law_334 rfl rfl ?_
        refine mr_iload_n ok (i := 3) d_W_law_335 rfl rfl ?_
        refine mr_iconst ok 1 d_W_law_336 (by decide) ?_
        refine mr_iadd ok d_W_law_337 ?_
        refine mr_sld ok hs (j := 2 + 3 * t + 1) (nI_add _ 1) (by omega) (by omega) d_W_law_338 ?_
        refine mr_aload_n ok (i := 0) d_W_law_339 rfl rfl ?_
        refine mr_iload_n ok (i := 3) d_W_law_340 rfl rfl ?_
        refine mr_iconst ok 2 d_W_law_341 (by decide) ?_
        refine mr_iadd ok d_W_law_342 ?_
        refine mr_sld ok hs (j := 2 + 3 * t + 2) (nI_add _ 2) (by omega) (by omega) d_W_law_343 ?_
        refine sx_cVi ok hB [_, _] rfl cb_W_57 cv_T_slot (tm_20 hb) rfl rfl (cc_T_slot hb hk.2.1) rfl (Nat.le_of_ble_eq_true rfl) (by decide) hn d_W_law_344 ?_
        refine mr_icmp_eq ok 441 d_W_law_347 (by decide) (fun _ => ?_) (fun h => absurd (hst.2.2.2.2.2.2.2.2.1 (xs (2 + 3 * t + 1)) (xs (2 + 3 * t + 2))).1 h)
        exact kn _ _ (hst.2.2.2.2.2.2.2.2.1 (xs (2 + 3 * t + 1)) (xs (2 + 3 * t + 2))).2
      by_cases h8 : op = 8
      · refine mr_tableIn (off := 300) ok 352 d_W_law_52 (by rw [h8]; decide) (by rw [h8]; decide) (by rw [h8]; decide) (by decide) ?_
        refine mr_aload_n ok (i := 1) d_W_law_352 rfl rfl ?_
        refine mr_aload_n ok (i := 0) d_W_law_353 rfl rfl ?_
        refine mr_iload_n ok (i := 3) d_W_law_354 rfl rfl ?_
        refine mr_iconst ok 1 d_W_law_355 (by decide) ?_
        refine mr_iadd ok d_W_law_356 ?_
        refine mr_sld ok hs (j := 2 + 3 * t + 1) (nI_add _ 1) (by omega) (by omega) d_W_law_357 ?_
        refine mr_aload_n ok (i := 0) d_W_law_358 rfl rfl ?_
        refine mr_iload_n ok (i := 3) d_W_law_359 rfl rfl ?_
        refine mr_iconst ok 2 d_W_law_360 (by decide) ?_
        refine mr_iadd ok d_W_law_361 ?_
        refine mr_sld ok hs (j := 2 + 3 * t + 2) (nI_add _ 2) (by omega) (by omega) d_W_law_362 ?_
        refine sx_cVi ok hB [_, _] rfl cb_W_58 cv_P_waiting (tm_8 hb) rfl rfl (c_P_waiting hb hk.1) rfl (Nat.le_of_ble_eq_true rfl) (by decide) hn d_W_law_363 ?_
        refine mr_aload_n ok (i := 2) d_W_law_366 rfl rfl ?_
        refine mr_aload_n ok (i := 0) d_W_law_367 rfl rfl ?_
        refine mr_iload_n ok (i := 3) d_W_law_368 rfl rfl ?_
        refine mr_iconst ok 1 d_W_law_369 (by decide) ?_
        refine mr_iadd ok d_W_law_370 ?_
        refine mr_sld ok hs (j := 2 + 3 * t + 1) (nI_add _ 1) (by omega) (by omega) d_W_law_371 ?_
        refine mr_aload_n ok (i := 0) d_W_law_372 rfl rfl ?_
        refine mr_iload_n ok (i := 3) d_W_law_373 rfl rfl ?_
        refine mr_iconst ok 2 d_W_law_374 (by decide) ?_
        refine mr_iadd ok d_W_law_375 ?_
        refine mr_sld ok hs (j := 2 + 3 * t + 2) (nI_add _ 2) (by omega) (by omega) d_W_law_376 ?_
        refine sx_cVi ok hB [_, _] rfl cb_W_61 cv_T_waiting (tm_20 hb) rfl rfl (cc_T_waiting hb hk.2.1) rfl (Nat.le_of_ble_eq_true rfl) (by decide) hn d_W_law_377 ?_
        refine mr_icmp_eq ok 441 d_W_law_380 (by decide) (fun _ => ?_) (fun h => absurd (hst.2.2.2.2.2.2.2.2.2.1 (xs (2 + 3 * t + 1)) (xs (2 + 3 * t + 2))).1 h)
        exact kn _ _ (hst.2.2.2.2.2.2.2.2.2.1 (xs (2 + 3 * t + 1)) (xs (2 + 3 * t + 2))).2
      by_cases h9 : op = 9
      · refine mr_tableIn (off := 333) ok 385 d_W_law_52 (by rw [h9]; decide) (by rw [h9]; decide) (by rw [h9]; decide) (by decide) ?_
        refine mr_aload_n ok (i := 1) d_W_law_385 rfl rfl ?_
        refine mr_aload_n ok (i := 0) d_W_law_386 rfl rfl ?_
        refine mr_iload_n ok (i := 3) d_W_law_387 rfl rfl ?_
        refine mr_iconst ok 1 d_W_law_388 (by decide) ?_
        refine mr_iadd ok d_W_law_389 ?_
        refine mr_sld ok hs (j := 2 + 3 * t + 1) (nI_add _ 1) (by omega) (by omega) d_W_law_390 ?_
        refine mr_aload_n ok (i := 0) d_W_law_391 rfl rfl ?_
        refine mr_iload_n ok (i := 3) d_W_law_392 rfl rfl ?_
        refine mr_iconst ok 2 d_W_law_393 (by decide) ?_
        refine mr_iadd ok d_W_law_394 ?_
        refine mr_sld ok hs (j := 2 + 3 * t + 2) (nI_add _ 2) (by omega) (by omega) d_W_law_395 ?_
        refine sx_cVi ok hB [_, _] rfl cb_W_62 cv_P_message (tm_8 hb) rfl rfl (c_P_message hb hk.1) rfl (Nat.le_of_ble_eq_true rfl) (by decide) hn d_W_law_396 ?_
        refine mr_aload_n ok (i := 2) d_W_law_399 rfl rfl ?_
        refine mr_aload_n ok (i := 0) d_W_law_400 rfl rfl ?_
        refine mr_iload_n ok (i := 3) d_W_law_401 rfl rfl ?_
        refine mr_iconst ok 1 d_W_law_402 (by decide) ?_
        refine mr_iadd ok d_W_law_403 ?_
        refine mr_sld ok hs (j := 2 + 3 * t + 1) (nI_add _ 1) (by omega) (by omega) d_W_law_404 ?_
        refine mr_aload_n ok (i := 0) d_W_law_405 rfl rfl ?_
        refine mr_iload_n ok (i := 3) d_W_law_406 rfl rfl ?_
        refine mr_iconst ok 2 d_W_law_407 (by decide) ?_
        refine mr_iadd ok d_W_law_408 ?_
        refine mr_sld ok hs (j := 2 + 3 * t + 2) (nI_add _ 2) (by omega) (by omega) d_W_law_409 ?_
        refine sx_cVi ok hB [_, _] rfl cb_W_65 cv_T_message (tm_20 hb) rfl rfl (c_T_message hb hk.2.1) rfl (Nat.le_of_ble_eq_true rfl) (by decide) hn d_W_law_410 ?_
        refine mr_icmp_eq ok 441 d_W_law_413 (by decide) (fun _ => ?_) (fun h => absurd (hst.2.2.2.2.2.2.2.2.2.2.1 (xs (2 + 3 * t + 1)) (xs (2 + 3 * t + 2))).1 h)
        exact kn _ _ (hst.2.2.2.2.2.2.2.2.2.2.1 (xs (2 + 3 * t + 1)) (xs (2 + 3 * t + 2))).2
      by_cases h10 : op = 10
      · refine mr_tableIn (off := 366) ok 418 d_W_law_52 (by rw [h10]; decide) (by rw [h10]; decide) (by rw [h10]; decide) (by decide) ?_
        refine mr_aload_n ok (i := 1) d_W_law_418 rfl rfl ?_
        refine mr_aload_n ok (i := 0) d_W_law_419 rfl rfl ?_
        refine mr_iload_n ok (i := 3) d_W_law_420 rfl rfl ?_
        refine mr_iconst ok 1 d_W_law_421 (by decide) ?_
        refine mr_iadd ok d_W_law_422 ?_
        refine mr_sld ok hs (j := 2 + 3 * t + 1) (nI_add _ 1) (by omega) (by omega) d_W_law_423 ?_
        refine sx_cVi ok hB [_] rfl cb_W_66 cv_P_look (tm_8 hb) rfl rfl (c_P_look hb hk.1) rfl (Nat.le_of_ble_eq_true rfl) (by decide) hn d_W_law_424 ?_
        refine mr_aload_n ok (i := 2) d_W_law_427 rfl rfl ?_
        refine mr_aload_n ok (i := 0) d_W_law_428 rfl rfl ?_
        refine mr_iload_n ok (i := 3) d_W_law_429 rfl rfl ?_
        refine mr_iconst ok 1 d_W_law_430 (by decide) ?_
        refine mr_iadd ok d_W_law_431 ?_
        refine mr_sld ok hs (j := 2 + 3 * t + 1) (nI_add _ 1) (by omega) (by omega) d_W_law_432 ?_
        refine sx_cVi ok hB [_] rfl cb_W_69 cv_T_look (tm_20 hb) rfl rfl (c_T_look hb) rfl (Nat.le_of_ble_eq_true rfl) (by decide) hn d_W_law_433 ?_
        refine mr_icmp_eq ok 441 d_W_law_436 (by decide) (fun _ => ?_) (fun h => absurd (hst.2.2.2.2.2.2.2.2.2.2.2 (xs (2 + 3 * t + 1))).1 h)
        exact kn _ _ (hst.2.2.2.2.2.2.2.2.2.2.2 (xs (2 + 3 * t + 1))).2
      have t0 := lv_neT h0 (a := 0) (by decide)
      have t1 := lv_neT h1 (a := 1) (by decide)
      have t2 := lv_neT h2 (a := 2) (by decide)
      have t3 := lv_neT h3 (a := 3) (by decide)
      have t4 := lv_neT h4 (a := 4) (by decide)
      have t5 := lv_neT h5 (a := 5) (by decide)
      have t6 := lv_neT h6 (a := 6) (by decide)
      have t7 := lv_neT h7 (a := 7) (by decide)
      have t8 := lv_neT h8 (a := 8) (by decide)
      have t9 := lv_neT h9 (a := 9) (by decide)
      have t10 := lv_neT h10 (a := 10) (by decide)
      refine mr_tableOut ok 441 d_W_law_52 (by omega) (by decide) ?_
      exact kn c r hst.1
