/-! side rows of the loop of Line.drop and of Flight -/
theorem kd_lt {c : sh_S} {i q k : Nat} {b : Int32} (h1 : q ≤ 8) (h2 : c 3 i 1 = nI q) (h3 : b = nI k) (h6 : k ≤ q) (h : ¬ c 3 i 1 ≤ b) : k < q := by
  rw [h2, h3] at h
  exact Nat.lt_of_not_le fun z => h (nI_le z (by omega))
theorem kd_at {c : sh_S} {i q k : Nat} {b : Int32} (h1 : q ≤ 8) (h2 : c 3 i 1 = nI q) (h3 : b = nI k) (h6 : k ≤ q) (h : ¬ c 3 i 1 ≤ b) : vp_in b 8 := by
  have := kd_lt h1 h2 h3 h6 h
  rw [h3]
  exact vp_in_nI (by omega) (by decide)
theorem kd_at2 {c : sh_S} {i q k p : Nat} {a b : Int32} (h1 : q ≤ 8) (h2 : c 3 i 1 = nI q) (h3 : b = nI k) (h4 : a = nI p) (h5 : p ≤ k) (h6 : k ≤ q) (h : ¬ c 3 i 1 ≤ b) : vp_in a 8 := by
  have := kd_lt h1 h2 h3 h6 h
  rw [h4]
  exact vp_in_nI (by omega) (by decide)
theorem kd_rec {c c' : sh_S} {i q k p n : Nat} {a b a' : Int32} (h1 : q ≤ 8) (h2 : c 3 i 1 = nI q) (h3 : b = nI k) (h4 : a = nI p) (h5 : p ≤ k) (h6 : k ≤ q) (h7 : q + 1 ≤ k + (n + 1)) (h : ¬ c 3 i 1 ≤ b) (hc' : c' 3 i 1 = c 3 i 1) (ha : a' = a ∨ a' = a + 1) : ∃ q k p : Nat, q ≤ 8 ∧ c' 3 i 1 = nI q ∧ b + 1 = nI k ∧ a' = nI p ∧ p ≤ k ∧ k ≤ q ∧ q + 1 ≤ k + n := by
  have hl := kd_lt h1 h2 h3 h6 h
  rcases ha with ha | ha
  · exact ⟨q, k + 1, p, h1, hc'.trans h2, by rw [h3, nI_1], by rw [ha, h4], by omega, by omega, by omega⟩
  · exact ⟨q, k + 1, p + 1, h1, hc'.trans h2, by rw [h3, nI_1], by rw [ha, h4, nI_1], by omega, by omega, by omega⟩
theorem kd_init {c : sh_S} {i : Nat} (hc : ∃ q : Nat, q ≤ 8 ∧ c 3 i 1 = nI q) : ∃ q k p : Nat, q ≤ 8 ∧ c 3 i 1 = nI q ∧ (0 : Int32) = nI k ∧ (0 : Int32) = nI p ∧ p ≤ k ∧ k ≤ q ∧ q + 1 ≤ k + 9 := by
  obtain ⟨q, h1, h2⟩ := hc
  exact ⟨q, 0, 0, h1, h2, rfl, rfl, Nat.le_refl _, Nat.zero_le _, by omega⟩
theorem n7 : (7 : Int32) = nI 7 := rfl
theorem kf_has {N L : Nat} {c : sh_S} {x : Int32} (hc : ∃ q : Nat, q ≤ 200 ∧ c 5 0 1 = nI q) (hv : ¬ (if x < 0 then (0 : Int32) else (if (c 5 0 1) ≤ x then 0 else 1)) = 0) : ∃ q j : Nat, q ≤ 200 ∧ c 5 0 1 = nI q ∧ j < q ∧ x = nI j := by
  obtain ⟨q, h1, h2⟩ := hc
  by_cases h0 : x < 0
  · rw [if_pos h0] at hv; exact absurd rfl hv
  · rw [if_neg h0] at hv
    by_cases h : c 5 0 1 ≤ x
    · rw [if_pos h] at hv; exact absurd rfl hv
    · rw [h2] at h
      obtain ⟨j, hj, e, -⟩ := pk_mu h0 h (by omega)
      exact ⟨q, j, h1, h2, hj, e⟩

def ls_L_drop (N L : Nat) : Nat → sh_S → Nat → Int32 → Int32 → Int32 → sh_S
  | 0, c, _, _, _, _ => c
  | n + 1, c, i, x, a, b => (if (c 3 i 1) ≤ b then (let c1 := sU c 3 i 1 a; c1) else (if (c 4 i ((b : Int32).toNatClampNeg)) = x then (ls_L_drop N L n c i x a (b + 1)) else (let c2 := sU c 4 i ((a : Int32).toNatClampNeg) (c 4 i ((b : Int32).toNatClampNeg)); (ls_L_drop N L n c2 i x (a + 1) (b + 1)))))
set_option maxHeartbeats 4000000 in
set_option maxRecDepth 100000 in
theorem l_L_drop {B : sh_B} {Z : mx_Z} {N L : Nat} {cI cR cZ : ClassId} (hb : wB B Z N L cI cR cZ) {r : sh_S} {i : Nat} (hi : i < N) {x : Int32} {X : mx_C} {V0 : Option Value} {S0 : sh_S} (ok : mx_ok X Z R_L b_L_drop 4 (rmm 0 0)) (en : sx_end B X none (rmm 0 0) (qe V0 S0)) (hV : V0 = none) : ∀ (n : Nat) (c : sh_S) (a : Int32) (b : Int32), (∃ q k p : Nat, q ≤ 8 ∧ c 3 i 1 = nI q ∧ b = nI k ∧ a = nI p ∧ p ≤ k ∧ k ≤ q ∧ q + 1 ≤ k + n) → S0 = (jn (ls_L_drop N L n c i x a b) r) → sx B X (0, 0) 4 [(0, .ref (B.2.1 3 i)), (1, .int x), (2, .int a), (3, .int b)] [] (jn c r) := by
  have hB := hb.1
  intro n
  induction n with
  | zero =>
    intro c a b hh _
    obtain ⟨q, k, p, h1, h2, h3, h4, h5, h6, h7⟩ := hh
    omega
  | succ n ih =>
    intro c a b hh hS
    obtain ⟨q, k, p, h1, h2, h3, h4, h5, h6, h7⟩ := hh
    refine mr_iload_n ok (i := 3) d_L_drop_4 rfl rfl ?_
    refine mr_aload_n ok (i := 0) d_L_drop_5 rfl rfl ?_
    refine cx_geti ok hB rfl fl_L_15 (tm_3 hb hi) rfl d_L_drop_6 ?_
    refine mr_icmp_ge ok 43 d_L_drop_9 (by decide) (fun h9_0 => ?_) (fun h9_0 => ?_)
    · refine mr_aload_n ok (i := 0) d_L_drop_43 rfl rfl ?_
      refine mr_iload_n ok (i := 2) d_L_drop_44 rfl rfl ?_
      refine cx_put ok hB rfl fw_L_15 (tm_3 hb hi) rfl rfl rfl d_L_drop_45 ?_
      refine sx_vret ok en (Nat.le_refl _) (Nat.le_refl _) d_L_drop_48 ?_
      exact ⟨(by rw [hV]), (by rw [hS]; simp only [ls_L_drop, if_pos h9_0])⟩
    · refine mr_aload_n ok (i := 0) d_L_drop_12 rfl rfl ?_
      refine sx_getr ok hB fl_L_9 (tm_3 hb hi) rfl d_L_drop_13 ?_
      refine mr_iload_n ok (i := 3) d_L_drop_16 rfl rfl ?_
      refine cx_ialdC ok hB rfl (tm_4 hb hi) (ty_0 hb) (kd_at h1 h2 h3 h6 ‹_›) d_L_drop_17 ?_
      refine mr_iload_n ok (i := 1) d_L_drop_18 rfl rfl ?_
      refine mr_icmp_eq ok 37 d_L_drop_19 (by decide) (fun h19_1 => ?_) (fun h19_1 => ?_)
      · refine mr_iinc ok _ d_L_drop_37 rfl rfl (by decide) ?_
        refine mr_goto ok 4 d_L_drop_40 (by decide) ?_
        refine mr_lv [(0, .ref (B.2.1 3 i)), (1, .int x), (2, .int a), (3, .int (b + 1))] ⟨rfl, rfl, rfl, rfl, trivial⟩ ?_
        exact ih _ _ _ (kd_rec h1 h2 h3 h4 h5 h6 h7 ‹_› rfl (by first | exact Or.inl rfl | exact Or.inr rfl)) (hS.trans (by simp only [ls_L_drop, if_neg h9_0, if_pos h19_1]))
      · refine mr_aload_n ok (i := 0) d_L_drop_22 rfl rfl ?_
        refine sx_getr ok hB fl_L_9 (tm_3 hb hi) rfl d_L_drop_23 ?_
        refine mr_iload_n ok (i := 2) d_L_drop_26 rfl rfl ?_
        refine mr_aload_n ok (i := 0) d_L_drop_27 rfl rfl ?_
        refine sx_getr ok hB fl_L_9 (tm_3 hb hi) rfl d_L_drop_28 ?_
        refine mr_iload_n ok (i := 3) d_L_drop_31 rfl rfl ?_
        refine cx_ialdC ok hB rfl (tm_4 hb hi) (ty_0 hb) (kd_at h1 h2 h3 h6 ‹_›) d_L_drop_32 ?_
        refine cx_iastC ok hB rfl (tm_4 hb hi) (ty_0 hb) (kd_at2 h1 h2 h3 h4 h5 h6 ‹_›) d_L_drop_33 ?_
        refine mr_iinc ok _ d_L_drop_34 rfl rfl (by decide) ?_
        refine mr_iinc ok _ d_L_drop_37 rfl rfl (by decide) ?_
        refine mr_goto ok 4 d_L_drop_40 (by decide) ?_
        refine mr_lv [(0, .ref (B.2.1 3 i)), (1, .int x), (2, .int (a + 1)), (3, .int (b + 1))] ⟨rfl, rfl, rfl, rfl, trivial⟩ ?_
        exact ih _ _ _ (kd_rec h1 h2 h3 h4 h5 h6 h7 ‹_› rfl (by first | exact Or.inl rfl | exact Or.inr rfl)) (hS.trans (by simp only [ls_L_drop, if_neg h9_0, if_neg h19_1]))
def s_L_drop (N L : Nat) (c : sh_S) (i : Nat) (x : Int32) : sh_S := (ls_L_drop N L 9 c i x 0 0)
set_option maxHeartbeats 4000000 in
set_option maxRecDepth 100000 in
theorem c_L_drop {B : sh_B} {Z : mx_Z} {N L : Nat} {cI cR cZ : ClassId} (hb : wB B Z N L cI cR cZ) {c r : sh_S} {i : Nat} (hi : i < N) {x : Int32} (hc : ∃ q : Nat, q ≤ 8 ∧ c 3 i 1 = nI q) : sc B Z y_L_drop b_L_drop 4 none (rmm 0 0) [.ref (B.2.1 3 i), .int x] (jn c r) (qe none (jn (s_L_drop N L c i x) r)) := by
  refine ct_of (by decide) (Nat.le_of_ble_eq_true rfl) (cat_of rfl) ?_
  intro X ok en _
  have hB := hb.1
  refine mr_lv [(0, .ref (B.2.1 3 i)), (1, .int x)] ⟨rfl, rfl, trivial⟩ ?_
  refine mr_iconst ok 0 d_L_drop_0 (by decide) ?_
  refine mr_istore_n ok (i := 2) d_L_drop_1 rfl (by decide) ?_
  refine mr_iconst ok 0 d_L_drop_2 (by decide) ?_
  refine mr_istore_n ok (i := 3) d_L_drop_3 rfl (by decide) ?_
  refine mr_lv [(0, .ref (B.2.1 3 i)), (1, .int x), (2, .int 0), (3, .int 0)] ⟨rfl, rfl, rfl, rfl, trivial⟩ ?_
  exact l_L_drop hb hi ok en rfl 9 _ _ _ (kd_init hc) rfl
def s_R_learn (N L : Nat) (c : sh_S) (i : Nat) (x : Int32) : sh_S := (let c1 := s_G_append N L c i x; (let c2 := s_R_dropAccepted N L c1 i; (if (c2 0 i 7) = 1 then (let c6 := s_R_becomeFollower N L c2 i; (let c7 := sU c6 0 i 10 0; (let c8 := sU c7 0 i 9 0; (let c9 := s_L_drop N L c8 i x; c9)))) else (let c3 := sU c2 0 i 10 0; (let c4 := sU c3 0 i 9 0; (let c5 := s_L_drop N L c4 i x; c5))))))
set_option maxHeartbeats 4000000 in
set_option maxRecDepth 100000 in
theorem c_R_learn {B : sh_B} {Z : mx_Z} {N L : Nat} {cI cR cZ : ClassId} (hb : wB B Z N L cI cR cZ) {c r : sh_S} {i : Nat} (hi : i < N) {x : Int32} (hc : ∃ q : Nat, q ≤ 8 ∧ c 3 i 1 = nI q) : sc B Z y_R_learn b_R_learn 2 none (rmm 1 23) [.ref (B.2.1 0 i), .int x] (jn c r) (qe none (jn (s_R_learn N L c i x) r)) := by
  refine ct_of (by decide) (Nat.le_of_ble_eq_true rfl) (cat_of rfl) ?_
  intro X ok en _
  have hB := hb.1
  refine mr_lv [(0, .ref (B.2.1 0 i)), (1, .int x)] ⟨rfl, rfl, trivial⟩ ?_
  refine mr_aload_n ok (i := 0) d_R_learn_0 rfl rfl ?_
  refine sx_getr ok hB fl_R_20 (tm_0 hb hi) rfl d_R_learn_1 ?_
  refine mr_iload_n ok (i := 1) d_R_learn_4 rfl rfl ?_
  refine sx_cVv ok hB [_] rfl cb_R_78 cv_G_append (tm_1 hb hi) rfl rfl (c_G_append hb hi) rfl (Nat.le_of_ble_eq_true rfl) (by decide) ⟨Nat.le_refl _, Nat.le_refl _⟩ d_R_learn_5 ?_
  refine mr_aload_n ok (i := 0) d_R_learn_8 rfl rfl ?_
  refine sx_cVv ok hB [] rfl cb_R_81 cv_R_dropAccepted (tm_0 hb hi) rfl rfl (c_R_dropAccepted hb hi) rfl (Nat.le_of_ble_eq_true rfl) (by decide) ⟨Nat.le_refl _, Nat.le_refl _⟩ d_R_learn_9 ?_
  refine mr_aload_n ok (i := 0) d_R_learn_12 rfl rfl ?_
  refine cx_geti ok hB rfl fl_R_47 (tm_0 hb hi) rfl d_R_learn_13 ?_
  refine mr_iconst ok 1 d_R_learn_16 (by decide) ?_
  refine mr_icmp_ne ok 24 d_R_learn_17 (by decide) (fun h17_0 => ?_) (fun h17_0 => ?_)
  · refine mr_aload_n ok (i := 0) d_R_learn_24 rfl rfl ?_
    refine mr_iconst ok 0 d_R_learn_25 (by decide) ?_
    refine cx_put ok hB rfl fw_R_56 (tm_0 hb hi) rfl rfl rfl d_R_learn_26 ?_
    refine mr_aload_n ok (i := 0) d_R_learn_29 rfl rfl ?_
    refine mr_iconst ok 0 d_R_learn_30 (by decide) ?_
    refine cx_put ok hB rfl fw_R_53 (tm_0 hb hi) rfl rfl rfl d_R_learn_31 ?_
    refine mr_aload_n ok (i := 0) d_R_learn_34 rfl rfl ?_
    refine sx_getr ok hB fl_R_27 (tm_0 hb hi) rfl d_R_learn_35 ?_
    refine mr_iload_n ok (i := 1) d_R_learn_38 rfl rfl ?_
    refine sx_cVv ok hB [_] rfl cb_R_84 cv_L_drop (tm_3 hb hi) rfl rfl (c_L_drop hb hi (by exact hc)) rfl (Nat.le_of_ble_eq_true rfl) (by decide) ⟨Nat.le_refl _, Nat.le_refl _⟩ d_R_learn_39 ?_
    refine sx_vret ok en (Nat.le_refl _) (Nat.le_refl _) d_R_learn_42 ?_
    exact ⟨rfl, (by first | rfl | simp only [s_R_learn, if_neg h17_0])⟩
  · refine mr_aload_n ok (i := 0) d_R_learn_20 rfl rfl ?_
    refine sx_cVv ok hB [] rfl cb_R_35 cv_R_becomeFollower (tm_0 hb hi) rfl rfl (c_R_becomeFollower hb hi) rfl (Nat.le_of_ble_eq_true rfl) (by decide) ⟨Nat.le_refl _, Nat.le_refl _⟩ d_R_learn_21 ?_
    refine mr_aload_n ok (i := 0) d_R_learn_24 rfl rfl ?_
    refine mr_iconst ok 0 d_R_learn_25 (by decide) ?_
    refine cx_put ok hB rfl fw_R_56 (tm_0 hb hi) rfl rfl rfl d_R_learn_26 ?_
    refine mr_aload_n ok (i := 0) d_R_learn_29 rfl rfl ?_
    refine mr_iconst ok 0 d_R_learn_30 (by decide) ?_
    refine cx_put ok hB rfl fw_R_53 (tm_0 hb hi) rfl rfl rfl d_R_learn_31 ?_
    refine mr_aload_n ok (i := 0) d_R_learn_34 rfl rfl ?_
    refine sx_getr ok hB fl_R_27 (tm_0 hb hi) rfl d_R_learn_35 ?_
    refine mr_iload_n ok (i := 1) d_R_learn_38 rfl rfl ?_
    refine sx_cVv ok hB [_] rfl cb_R_84 cv_L_drop (tm_3 hb hi) rfl rfl (c_L_drop hb hi (by exact hc)) rfl (Nat.le_of_ble_eq_true rfl) (by decide) ⟨Nat.le_refl _, Nat.le_refl _⟩ d_R_learn_39 ?_
    refine sx_vret ok en (Nat.le_refl _) (Nat.le_refl _) d_R_learn_42 ?_
    exact ⟨rfl, (by first | rfl | simp only [s_R_learn, if_pos h17_0])⟩
def v_F_has (N L : Nat) (c : sh_S) (x : Int32) : Int32 := (if x < 0 then 0 else (if (c 5 0 1) ≤ x then 0 else 1))
set_option maxHeartbeats 4000000 in
set_option maxRecDepth 100000 in
theorem c_F_has {B : sh_B} {Z : mx_Z} {N L : Nat} {cI cR cZ : ClassId} (hb : wB B Z N L cI cR cZ) {c r : sh_S} {x : Int32} : sc B Z y_F_has b_F_has 2 (some (.boolean)) (rmm 0 0) [.ref (B.2.1 5 0), .int x] (jn c r) (qe (some (.int (v_F_has N L c x))) (jn c r)) := by
  refine ct_of (by decide) (Nat.le_of_ble_eq_true rfl) (cat_of rfl) ?_
  intro X ok en _
  have hB := hb.1
  refine mr_lv [(0, .ref (B.2.1 5 0)), (1, .int x)] ⟨rfl, rfl, trivial⟩ ?_
  refine mr_iload_n ok (i := 1) d_F_has_0 rfl rfl ?_
  refine mr_if_lt ok 16 d_F_has_1 (by decide) (fun h1_0 => ?_) (fun h1_0 => ?_)
  · refine mr_iconst ok 0 d_F_has_16 (by decide) ?_
    refine sx_zret rfl ok en (Nat.le_refl _) (Nat.le_refl _) d_F_has_17 ?_
    exact ⟨(by first | rfl | simp only [v_F_has, if_pos h1_0]), (by first | rfl | simp only [s_F_has, if_pos h1_0])⟩
  · refine mr_iload_n ok (i := 1) d_F_has_4 rfl rfl ?_
    refine mr_aload_n ok (i := 0) d_F_has_5 rfl rfl ?_
    refine cx_geti ok hB rfl fl_F_15 (tm_5 hb) rfl d_F_has_6 ?_
    refine mr_icmp_ge ok 16 d_F_has_9 (by decide) (fun h9_1 => ?_) (fun h9_1 => ?_)
    · refine mr_iconst ok 0 d_F_has_16 (by decide) ?_
      refine sx_zret rfl ok en (Nat.le_refl _) (Nat.le_refl _) d_F_has_17 ?_
      exact ⟨(by first | rfl | simp only [v_F_has, if_neg h1_0, if_pos h9_1]), (by first | rfl | simp only [s_F_has, if_neg h1_0, if_pos h9_1])⟩
    · refine mr_iconst ok 1 d_F_has_12 (by decide) ?_
      refine mr_goto ok 17 d_F_has_13 (by decide) ?_
      refine sx_zret rfl ok en (Nat.le_refl _) (Nat.le_refl _) d_F_has_17 ?_
      exact ⟨(by first | rfl | simp only [v_F_has, if_neg h1_0, if_neg h9_1]), (by first | rfl | simp only [s_F_has, if_neg h1_0, if_neg h9_1])⟩
theorem kf_cell {N L : Nat} {c : sh_S} {x y : Int32} (hc : ∃ q : Nat, q ≤ 200 ∧ c 5 0 1 = nI q) (hv : ¬ v_F_has N L c x = 0) (h0 : ¬ y < 0) (h7 : ¬ 7 ≤ y) : vp_in (x * 7 + y) 1400 := by
  obtain ⟨q, j, h1, h2, h3, rfl⟩ := kf_has (N := N) (L := L) hc hv
  obtain ⟨w, hw, rfl, -⟩ := pk_mu (L := 7) h0 h7 (by decide)
  rw [n7, pk_mul, nI_add]
  exact vp_in_nI (by omega) (by decide)
theorem kf_s0 {c : sh_S} (hc : ∃ q : Nat, q ≤ 200 ∧ c 5 0 1 = nI q) (h : c 5 0 1 < 200) : vp_in (c 5 0 1 * 7) 1400 := by
  obtain ⟨q, h1, h2⟩ := hc
  rw [h2] at h ⊢
  have : q < 200 := (nI_ltI (by omega) (by decide)).mp h
  rw [n7, pk_mul]
  exact vp_in_nI (by omega) (by decide)
theorem kf_s {c : sh_S} (hc : ∃ q : Nat, q ≤ 200 ∧ c 5 0 1 = nI q) (h : c 5 0 1 < 200) (k : Nat) (hk : k < 7) : vp_in (c 5 0 1 * 7 + nI k) 1400 := by
  obtain ⟨q, h1, h2⟩ := hc
  rw [h2] at h ⊢
  have : q < 200 := (nI_ltI (by omega) (by decide)).mp h
  rw [n7, pk_mul, nI_add]
  exact vp_in_nI (by omega) (by decide)
theorem kf_rem {N L : Nat} {c : sh_S} {x : Int32} (hc : ∃ q : Nat, q ≤ 200 ∧ c 5 0 1 = nI q) (hv : ¬ v_F_has N L c x = 0) : (¬ (x + 1) * 7 < 0 ∧ ¬ x * 7 < 0 ∧ ¬ (c 5 0 1 - x - 1) * 7 < 0) ∧ ((x + 1) * 7).toNatClampNeg + ((c 5 0 1 - x - 1) * 7).toNatClampNeg ≤ 1400 ∧ (x * 7).toNatClampNeg + ((c 5 0 1 - x - 1) * 7).toNatClampNeg ≤ 1400 := by
  obtain ⟨q, j, h1, h2, h3, rfl⟩ := kf_has (N := N) (L := L) hc hv
  have e1 : (nI j + 1) * 7 = nI ((j + 1) * 7) := by rw [nI_1, n7, pk_mul]
  have e2 : nI j * 7 = nI (j * 7) := by rw [n7, pk_mul]
  have e3 : (c 5 0 1 - nI j - 1) * 7 = nI ((q - j - 1) * 7) := by
    rw [h2, pk_sub (by omega), show (1 : Int32) = nI 1 from rfl, pk_sub (by omega), n7, pk_mul]
  rw [e1, e2, e3, nI_clamp (by omega), nI_clamp (by omega), nI_clamp (by omega)]
  exact ⟨⟨nI_pos (by omega), nI_pos (by omega), nI_pos (by omega)⟩, by omega, by omega⟩
theorem kf_rep {N L : Nat} {c : sh_S} {x : Int32} (hc : ∃ q : Nat, q ≤ 200 ∧ c 5 0 1 = nI q) (hv : ¬ v_F_has N L c x = 0) (h : c 5 0 1 < 200) : (¬ x * 7 < 0 ∧ ¬ c 5 0 1 * 7 < 0 ∧ ¬ (7 : Int32) < 0) ∧ (x * 7).toNatClampNeg + (7 : Int32).toNatClampNeg ≤ 1400 ∧ (c 5 0 1 * 7).toNatClampNeg + (7 : Int32).toNatClampNeg ≤ 1400 := by
  obtain ⟨q, j, h1, h2, h3, rfl⟩ := kf_has (N := N) (L := L) hc hv
  rw [h2] at h ⊢
  have hq : q < 200 := (nI_ltI (by omega) (by decide)).mp h
  rw [n7, pk_mul, pk_mul, nI_clamp (by omega), nI_clamp (by omega), nI_clamp (by omega)]
  exact ⟨⟨nI_pos (by omega), nI_pos (by omega), nI_pos (by decide)⟩, by omega, by omega⟩

def v_F_cell (N L : Nat) (c : sh_S) (x : Int32) (y : Int32) : Int32 := (if (v_F_has N L c x) = 0 then (-1) else (if y < 0 then (-1) else (if 7 ≤ y then (-1) else (c 6 0 ((((x * 7) + y) : Int32).toNatClampNeg)))))
set_option maxHeartbeats 4000000 in
set_option maxRecDepth 100000 in
theorem c_F_cell {B : sh_B} {Z : mx_Z} {N L : Nat} {cI cR cZ : ClassId} (hb : wB B Z N L cI cR cZ) {c r : sh_S} {x : Int32} {y : Int32} (hc : ∃ q : Nat, q ≤ 200 ∧ c 5 0 1 = nI q) : sc B Z y_F_cell b_F_cell 3 (some (.int)) (rmm 1 21) [.ref (B.2.1 5 0), .int x, .int y] (jn c r) (qe (some (.int (v_F_cell N L c x y))) (jn c r)) := by
  refine ct_of (by decide) (Nat.le_of_ble_eq_true rfl) (cat_of rfl) ?_
  intro X ok en _
  have hB := hb.1
  refine mr_lv [(0, .ref (B.2.1 5 0)), (1, .int x), (2, .int y)] ⟨rfl, rfl, rfl, trivial⟩ ?_
  refine mr_aload_n ok (i := 0) d_F_cell_0 rfl rfl ?_
  refine mr_iload_n ok (i := 1) d_F_cell_1 rfl rfl ?_
  refine sx_cVi ok hB [_] rfl cb_F_19 cv_F_has (tm_5 hb) rfl rfl (c_F_has hb) rfl (Nat.le_of_ble_eq_true rfl) (by decide) ⟨Nat.le_refl _, Nat.le_refl _⟩ d_F_cell_2 ?_
  refine mr_if_eq ok 32 d_F_cell_5 (by decide) (fun h5_0 => ?_) (fun h5_0 => ?_)
  · refine mr_iconst ok (-1) d_F_cell_32 (by decide) ?_
    refine sx_iret ok en (Nat.le_refl _) (Nat.le_refl _) d_F_cell_33 ?_
    exact ⟨(by first | rfl | simp only [v_F_cell, if_pos h5_0]), (by first | rfl | simp only [s_F_cell, if_pos h5_0])⟩
  · refine mr_iload_n ok (i := 2) d_F_cell_8 rfl rfl ?_
    refine mr_if_lt ok 32 d_F_cell_9 (by decide) (fun h9_1 => ?_) (fun h9_1 => ?_)
    · refine mr_iconst ok (-1) d_F_cell_32 (by decide) ?_
      refine sx_iret ok en (Nat.le_refl _) (Nat.le_refl _) d_F_cell_33 ?_
      exact ⟨(by first | rfl | simp only [v_F_cell, if_neg h5_0, if_pos h9_1]), (by first | rfl | simp only [s_F_cell, if_neg h5_0, if_pos h9_1])⟩
    · refine mr_iload_n ok (i := 2) d_F_cell_12 rfl rfl ?_
      refine mr_bipush ok 7 d_F_cell_13 (by decide) ?_
      refine mr_icmp_ge ok 32 d_F_cell_15 (by decide) (fun h15_2 => ?_) (fun h15_2 => ?_)
      · refine mr_iconst ok (-1) d_F_cell_32 (by decide) ?_
        refine sx_iret ok en (Nat.le_refl _) (Nat.le_refl _) d_F_cell_33 ?_
        exact ⟨(by first | rfl | simp only [v_F_cell, if_neg h5_0, if_neg h9_1, if_pos h15_2]), (by first | rfl | simp only [s_F_cell, if_neg h5_0, if_neg h9_1, if_pos h15_2])⟩
      · refine mr_aload_n ok (i := 0) d_F_cell_18 rfl rfl ?_
        refine sx_getr ok hB fl_F_11 (tm_5 hb) rfl d_F_cell_19 ?_
        refine mr_iload_n ok (i := 1) d_F_cell_22 rfl rfl ?_
        refine mr_bipush ok 7 d_F_cell_23 (by decide) ?_
        refine mr_imul ok d_F_cell_25 ?_
        refine mr_iload_n ok (i := 2) d_F_cell_26 rfl rfl ?_
        refine mr_iadd ok d_F_cell_27 ?_
        refine cx_ialdC ok hB rfl (tm_6 hb) (ty_0 hb) (kf_cell hc ‹_› ‹_› ‹_›) d_F_cell_28 ?_
        refine mr_goto ok 33 d_F_cell_29 (by decide) ?_
        refine sx_iret ok en (Nat.le_refl _) (Nat.le_refl _) d_F_cell_33 ?_
        exact ⟨(by first | rfl | simp only [v_F_cell, if_neg h5_0, if_neg h9_1, if_neg h15_2]), (by first | rfl | simp only [s_F_cell, if_neg h5_0, if_neg h9_1, if_neg h15_2])⟩
def s_F_send (N L : Nat) (c : sh_S) (x1 : Int32) (x2 : Int32) (x3 : Int32) (x4 : Int32) (x5 : Int32) (x6 : Int32) (x7 : Int32) : sh_S := (let c1 := sU c 5 0 2 ((c 5 0 2) + 1); (if (c1 5 0 1) < 200 then (let c2 := sU c1 6 0 ((((c1 5 0 1) * 7) : Int32).toNatClampNeg) x1; (let c3 := sU c2 6 0 (((((c1 5 0 1) * 7) + 1) : Int32).toNatClampNeg) x2; (let c4 := sU c3 6 0 (((((c1 5 0 1) * 7) + 2) : Int32).toNatClampNeg) x3; (let c5 := sU c4 6 0 (((((c1 5 0 1) * 7) + 3) : Int32).toNatClampNeg) x4; (let c6 := sU c5 6 0 (((((c1 5 0 1) * 7) + 4) : Int32).toNatClampNeg) x5; (let c7 := sU c6 6 0 (((((c1 5 0 1) * 7) + 5) : Int32).toNatClampNeg) x6; (let c8 := sU c7 6 0 (((((c1 5 0 1) * 7) + 6) : Int32).toNatClampNeg) x7; (let c9 := sU c8 5 0 1 ((c8 5 0 1) + 1); c9)))))))) else (let c10 := sU c1 5 0 3 ((c1 5 0 3) + 1); c10)))
set_option maxHeartbeats 4000000 in
set_option maxRecDepth 100000 in
theorem c_F_send {B : sh_B} {Z : mx_Z} {N L : Nat} {cI cR cZ : ClassId} (hb : wB B Z N L cI cR cZ) {c r : sh_S} {x1 : Int32} {x2 : Int32} {x3 : Int32} {x4 : Int32} {x5 : Int32} {x6 : Int32} {x7 : Int32} (hc : ∃ q : Nat, q ≤ 200 ∧ c 5 0 1 = nI q) : sc B Z y_F_send b_F_send 9 none (rmm 0 0) [.ref (B.2.1 5 0), .int x1, .int x2, .int x3, .int x4, .int x5, .int x6, .int x7] (jn c r) (qe none (jn (s_F_send N L c x1 x2 x3 x4 x5 x6 x7) r)) := by
  refine ct_of (by decide) (Nat.le_of_ble_eq_true rfl) (cat_of rfl) ?_
  intro X ok en _
  have hB := hb.1
  refine mr_lv [(0, .ref (B.2.1 5 0)), (1, .int x1), (2, .int x2), (3, .int x3), (4, .int x4), (5, .int x5), (6, .int x6), (7, .int x7)] ⟨rfl, rfl, rfl, rfl, rfl, rfl, rfl, rfl, trivial⟩ ?_
  refine mr_aload_n ok (i := 0) d_F_send_0 rfl rfl ?_
  refine mr_dup ok d_F_send_1 rfl ?_
  refine cx_geti ok hB rfl fl_F_23 (tm_5 hb) rfl d_F_send_2 ?_
  refine mr_iconst ok 1 d_F_send_5 (by decide) ?_
  refine mr_iadd ok d_F_send_6 ?_
  refine cx_put ok hB rfl fw_F_23 (tm_5 hb) rfl rfl rfl d_F_send_7 ?_
  refine mr_aload_n ok (i := 0) d_F_send_10 rfl rfl ?_
  refine cx_geti ok hB rfl fl_F_15 (tm_5 hb) rfl d_F_send_11 ?_
  refine mr_sipush ok 200 d_F_send_14 (by decide) ?_
  refine mr_icmp_lt ok 31 d_F_send_17 (by decide) (fun h17_0 => ?_) (fun h17_0 => ?_)
  · refine mr_aload_n ok (i := 0) d_F_send_31 rfl rfl ?_
    refine cx_geti ok hB rfl fl_F_15 (tm_5 hb) rfl d_F_send_32 ?_
    refine mr_bipush ok 7 d_F_send_35 (by decide) ?_
    refine mr_imul ok d_F_send_37 ?_
    refine mr_istore ok d_F_send_38 (by decide) ?_
    refine mr_aload_n ok (i := 0) d_F_send_40 rfl rfl ?_
    refine sx_getr ok hB fl_F_11 (tm_5 hb) rfl d_F_send_41 ?_
    refine mr_iload ok d_F_send_44 rfl ?_
    refine mr_iload_n ok (i := 1) d_F_send_46 rfl rfl ?_
    refine cx_iastC ok hB rfl (tm_6 hb) (ty_0 hb) (kf_s0 hc ‹_›) d_F_send_47 ?_
    refine mr_aload_n ok (i := 0) d_F_send_48 rfl rfl ?_
    refine sx_getr ok hB fl_F_11 (tm_5 hb) rfl d_F_send_49 ?_
    refine mr_iload ok d_F_send_52 rfl ?_
    refine mr_iconst ok 1 d_F_send_54 (by decide) ?_
    refine mr_iadd ok d_F_send_55 ?_
    refine mr_iload_n ok (i := 2) d_F_send_56 rfl rfl ?_
    refine cx_iastC ok hB rfl (tm_6 hb) (ty_0 hb) (kf_s hc ‹_› 1 (by decide)) d_F_send_57 ?_
    refine mr_aload_n ok (i := 0) d_F_send_58 rfl rfl ?_
    refine sx_getr ok hB fl_F_11 (tm_5 hb) rfl d_F_send_59 ?_
    refine mr_iload ok d_F_send_62 rfl ?_
    refine mr_iconst ok 2 d_F_send_64 (by decide) ?_
    refine mr_iadd ok d_F_send_65 ?_
    refine mr_iload_n ok (i := 3) d_F_send_66 rfl rfl ?_
    refine cx_iastC ok hB rfl (tm_6 hb) (ty_0 hb) (kf_s hc ‹_› 2 (by decide)) d_F_send_67 ?_
    refine mr_aload_n ok (i := 0) d_F_send_68 rfl rfl ?_
    refine sx_getr ok hB fl_F_11 (tm_5 hb) rfl d_F_send_69 ?_
    refine mr_iload ok d_F_send_72 rfl ?_
    refine mr_iconst ok 3 d_F_send_74 (by decide) ?_
    refine mr_iadd ok d_F_send_75 ?_
    refine mr_iload ok d_F_send_76 rfl ?_
    refine cx_iastC ok hB rfl (tm_6 hb) (ty_0 hb) (kf_s hc ‹_› 3 (by decide)) d_F_send_78 ?_
    refine mr_aload_n ok (i := 0) d_F_send_79 rfl rfl ?_
    refine sx_getr ok hB fl_F_11 (tm_5 hb) rfl d_F_send_80 ?_
    refine mr_iload ok d_F_send_83 rfl ?_
    refine mr_iconst ok 4 d_F_send_85 (by decide) ?_
    refine mr_iadd ok d_F_send_86 ?_
    refine mr_iload ok d_F_send_87 rfl ?_
    refine cx_iastC ok hB rfl (tm_6 hb) (ty_0 hb) (kf_s hc ‹_› 4 (by decide)) d_F_send_89 ?_
    refine mr_aload_n ok (i := 0) d_F_send_90 rfl rfl ?_
    refine sx_getr ok hB fl_F_11 (tm_5 hb) rfl d_F_send_91 ?_
    refine mr_iload ok d_F_send_94 rfl ?_
    refine mr_iconst ok 5 d_F_send_96 (by decide) ?_
    refine mr_iadd ok d_F_send_97 ?_
    refine mr_iload ok d_F_send_98 rfl ?_
    refine cx_iastC ok hB rfl (tm_6 hb) (ty_0 hb) (kf_s hc ‹_› 5 (by decide)) d_F_send_100 ?_
    refine mr_aload_n ok (i := 0) d_F_send_101 rfl rfl ?_
    refine sx_getr ok hB fl_F_11 (tm_5 hb) rfl d_F_send_102 ?_
    refine mr_iload ok d_F_send_105 rfl ?_
    refine mr_bipush ok 6 d_F_send_107 (by decide) ?_
    refine mr_iadd ok d_F_send_109 ?_
    refine mr_iload ok d_F_send_110 rfl ?_
    refine cx_iastC ok hB rfl (tm_6 hb) (ty_0 hb) (kf_s hc ‹_› 6 (by decide)) d_F_send_112 ?_
    refine mr_aload_n ok (i := 0) d_F_send_113 rfl rfl ?_
    refine mr_dup ok d_F_send_114 rfl ?_
    refine cx_geti ok hB rfl fl_F_15 (tm_5 hb) rfl d_F_send_115 ?_
    refine mr_iconst ok 1 d_F_send_118 (by decide) ?_
    refine mr_iadd ok d_F_send_119 ?_
    refine cx_put ok hB rfl fw_F_15 (tm_5 hb) rfl rfl rfl d_F_send_120 ?_
    refine sx_vret ok en (Nat.le_refl _) (Nat.le_refl _) d_F_send_123 ?_
    exact ⟨rfl, (by first | rfl | simp only [s_F_send, if_pos h17_0])⟩
  · refine mr_aload_n ok (i := 0) d_F_send_20 rfl rfl ?_
    refine mr_dup ok d_F_send_21 rfl ?_
    refine cx_geti ok hB rfl fl_F_26 (tm_5 hb) rfl d_F_send_22 ?_
    refine mr_iconst ok 1 d_F_send_25 (by decide) ?_
    refine mr_iadd ok d_F_send_26 ?_
    refine cx_put ok hB rfl fw_F_26 (tm_5 hb) rfl rfl rfl d_F_send_27 ?_
    refine sx_vret ok en (Nat.le_refl _) (Nat.le_refl _) d_F_send_30 ?_
    exact ⟨rfl, (by first | rfl | simp only [s_F_send, if_neg h17_0])⟩
def s_F_remove (N L : Nat) (c : sh_S) (x : Int32) : sh_S := (if (v_F_has N L c x) = 0 then c else (let c1 := sA c 6 0 (va_cpy (c 6 0) (c 6 0) ((((x + 1) * 7) : Int32).toNatClampNeg) (((x * 7) : Int32).toNatClampNeg) ((((((c 5 0 1) - x) - 1) * 7) : Int32).toNatClampNeg)); (let c2 := sU c1 5 0 1 ((c1 5 0 1) - 1); c2)))
set_option maxHeartbeats 4000000 in
set_option maxRecDepth 100000 in
theorem c_F_remove {B : sh_B} {Z : mx_Z} {N L : Nat} {cI cR cZ : ClassId} (hb : wB B Z N L cI cR cZ) {c r : sh_S} {x : Int32} (hc : ∃ q : Nat, q ≤ 200 ∧ c 5 0 1 = nI q) : sc B Z y_F_remove b_F_remove 3 none (rmm 1 40) [.ref (B.2.1 5 0), .int x] (jn c r) (qe none (jn (s_F_remove N L c x) r)) := by
  refine ct_of (by decide) (Nat.le_of_ble_eq_true rfl) (cat_of rfl) ?_
  intro X ok en _
  have hB := hb.1
  refine mr_lv [(0, .ref (B.2.1 5 0)), (1, .int x)] ⟨rfl, rfl, trivial⟩ ?_
  refine mr_aload_n ok (i := 0) d_F_remove_0 rfl rfl ?_
  refine mr_iload_n ok (i := 1) d_F_remove_1 rfl rfl ?_
  refine sx_cVi ok hB [_] rfl cb_F_19 cv_F_has (tm_5 hb) rfl rfl (c_F_has hb) rfl (Nat.le_of_ble_eq_true rfl) (by decide) ⟨Nat.le_refl _, Nat.le_refl _⟩ d_F_remove_2 ?_
  refine mr_if_ne ok 9 d_F_remove_5 (by decide) (fun h5_0 => ?_) (fun h5_0 => ?_)
  · refine mr_aload_n ok (i := 0) d_F_remove_9 rfl rfl ?_
    refine cx_geti ok hB rfl fl_F_15 (tm_5 hb) rfl d_F_remove_10 ?_
    refine mr_iload_n ok (i := 1) d_F_remove_13 rfl rfl ?_
    refine mr_isub ok d_F_remove_14 ?_
    refine mr_iconst ok 1 d_F_remove_15 (by decide) ?_
    refine mr_isub ok d_F_remove_16 ?_
    refine mr_istore_n ok (i := 2) d_F_remove_17 rfl (by decide) ?_
    refine mr_aload_n ok (i := 0) d_F_remove_18 rfl rfl ?_
    refine sx_getr ok hB fl_F_11 (tm_5 hb) rfl d_F_remove_19 ?_
    refine mr_iload_n ok (i := 1) d_F_remove_22 rfl rfl ?_
    refine mr_iconst ok 1 d_F_remove_23 (by decide) ?_
    refine mr_iadd ok d_F_remove_24 ?_
    refine mr_bipush ok 7 d_F_remove_25 (by decide) ?_
    refine mr_imul ok d_F_remove_27 ?_
    refine mr_aload_n ok (i := 0) d_F_remove_28 rfl rfl ?_
    refine sx_getr ok hB fl_F_11 (tm_5 hb) rfl d_F_remove_29 ?_
    refine mr_iload_n ok (i := 1) d_F_remove_32 rfl rfl ?_
    refine mr_bipush ok 7 d_F_remove_33 (by decide) ?_
    refine mr_imul ok d_F_remove_35 ?_
    refine mr_iload_n ok (i := 2) d_F_remove_36 rfl rfl ?_
    refine mr_bipush ok 7 d_F_remove_37 (by decide) ?_
    refine mr_imul ok d_F_remove_39 ?_
    refine cx_copyC ok hB ⟨mw 338 rfl rfl, mw 340 rfl rfl, mw 339 rfl rfl, mw 51 rfl rfl⟩ rfl (tm_6 hb) (ty_0 hb) (kf_rem hc ‹_›) (by decide) (Nat.le_of_ble_eq_true rfl) d_F_remove_40 ?_
    refine mr_aload_n ok (i := 0) d_F_remove_43 rfl rfl ?_
    refine mr_dup ok d_F_remove_44 rfl ?_
    refine cx_geti ok hB rfl fl_F_15 (tm_5 hb) rfl d_F_remove_45 ?_
    refine mr_iconst ok 1 d_F_remove_48 (by decide) ?_
    refine mr_isub ok d_F_remove_49 ?_
    refine cx_put ok hB rfl fw_F_15 (tm_5 hb) rfl rfl rfl d_F_remove_50 ?_
    refine sx_vret ok en (Nat.le_refl _) (Nat.le_refl _) d_F_remove_53 ?_
    exact ⟨rfl, (by first | rfl | simp only [s_F_remove, if_neg h5_0])⟩
  · refine sx_vret ok en (Nat.le_refl _) (Nat.le_refl _) d_F_remove_8 ?_
    exact ⟨rfl, (by first | rfl | simp only [s_F_remove, if_pos h5_0])⟩
def v_F_repeat (N L : Nat) (c : sh_S) (x : Int32) : Int32 := (if (v_F_has N L c x) = 0 then 0 else (if (c 5 0 1) < 200 then (let c1 := sA c 6 0 (va_cpy (c 6 0) (c 6 0) (((x * 7) : Int32).toNatClampNeg) ((((c 5 0 1) * 7) : Int32).toNatClampNeg) ((7 : Int32).toNatClampNeg)); (let c2 := sU c1 5 0 1 ((c1 5 0 1) + 1); 1)) else 0))
def s_F_repeat (N L : Nat) (c : sh_S) (x : Int32) : sh_S := (if (v_F_has N L c x) = 0 then c else (if (c 5 0 1) < 200 then (let c1 := sA c 6 0 (va_cpy (c 6 0) (c 6 0) (((x * 7) : Int32).toNatClampNeg) ((((c 5 0 1) * 7) : Int32).toNatClampNeg) ((7 : Int32).toNatClampNeg)); (let c2 := sU c1 5 0 1 ((c1 5 0 1) + 1); c2)) else c))
set_option maxHeartbeats 4000000 in
set_option maxRecDepth 100000 in
theorem c_F_repeat {B : sh_B} {Z : mx_Z} {N L : Nat} {cI cR cZ : ClassId} (hb : wB B Z N L cI cR cZ) {c r : sh_S} {x : Int32} (hc : ∃ q : Nat, q ≤ 200 ∧ c 5 0 1 = nI q) : sc B Z y_F_repeat b_F_repeat 2 (some (.boolean)) (rmm 1 40) [.ref (B.2.1 5 0), .int x] (jn c r) (qe (some (.int (v_F_repeat N L c x))) (jn (s_F_repeat N L c x) r)) := by
  refine ct_of (by decide) (Nat.le_of_ble_eq_true rfl) (cat_of rfl) ?_
  intro X ok en _
  have hB := hb.1
  refine mr_lv [(0, .ref (B.2.1 5 0)), (1, .int x)] ⟨rfl, rfl, trivial⟩ ?_
  refine mr_aload_n ok (i := 0) d_F_repeat_0 rfl rfl ?_
  refine mr_iload_n ok (i := 1) d_F_repeat_1 rfl rfl ?_
  refine sx_cVi ok hB [_] rfl cb_F_19 cv_F_has (tm_5 hb) rfl rfl (c_F_has hb) rfl (Nat.le_of_ble_eq_true rfl) (by decide) ⟨Nat.le_refl _, Nat.le_refl _⟩ d_F_repeat_2 ?_
  refine mr_if_eq ok 18 d_F_repeat_5 (by decide) (fun h5_0 => ?_) (fun h5_0 => ?_)
  · refine mr_iconst ok 0 d_F_repeat_18 (by decide) ?_
    refine sx_zret rfl ok en (Nat.le_refl _) (Nat.le_refl _) d_F_repeat_19 ?_
    exact ⟨(by first | rfl | simp only [v_F_repeat, if_pos h5_0]), (by first | rfl | simp only [s_F_repeat, if_pos h5_0])⟩
  · refine mr_aload_n ok (i := 0) d_F_repeat_8 rfl rfl ?_
    refine cx_geti ok hB rfl fl_F_15 (tm_5 hb) rfl d_F_repeat_9 ?_
    refine mr_sipush ok 200 d_F_repeat_12 (by decide) ?_
    refine mr_icmp_lt ok 20 d_F_repeat_15 (by decide) (fun h15_1 => ?_) (fun h15_1 => ?_)
    · refine mr_aload_n ok (i := 0) d_F_repeat_20 rfl rfl ?_
      refine sx_getr ok hB fl_F_11 (tm_5 hb) rfl d_F_repeat_21 ?_
      refine mr_iload_n ok (i := 1) d_F_repeat_24 rfl rfl ?_
      refine mr_bipush ok 7 d_F_repeat_25 (by decide) ?_
      refine mr_imul ok d_F_repeat_27 ?_
      refine mr_aload_n ok (i := 0) d_F_repeat_28 rfl rfl ?_
      refine sx_getr ok hB fl_F_11 (tm_5 hb) rfl d_F_repeat_29 ?_
      refine mr_aload_n ok (i := 0) d_F_repeat_32 rfl rfl ?_
      refine cx_geti ok hB rfl fl_F_15 (tm_5 hb) rfl d_F_repeat_33 ?_
      refine mr_bipush ok 7 d_F_repeat_36 (by decide) ?_
      refine mr_imul ok d_F_repeat_38 ?_
      refine mr_bipush ok 7 d_F_repeat_39 (by decide) ?_
      refine cx_copyC ok hB ⟨mw 338 rfl rfl, mw 340 rfl rfl, mw 339 rfl rfl, mw 51 rfl rfl⟩ rfl (tm_6 hb) (ty_0 hb) (kf_rep hc ‹_› ‹_›) (by decide) (Nat.le_of_ble_eq_true rfl) d_F_repeat_41 ?_
      refine mr_aload_n ok (i := 0) d_F_repeat_44 rfl rfl ?_
      refine mr_dup ok d_F_repeat_45 rfl ?_
      refine cx_geti ok hB rfl fl_F_15 (tm_5 hb) rfl d_F_repeat_46 ?_
      refine mr_iconst ok 1 d_F_repeat_49 (by decide) ?_
      refine mr_iadd ok d_F_repeat_50 ?_
      refine cx_put ok hB rfl fw_F_15 (tm_5 hb) rfl rfl rfl d_F_repeat_51 ?_
      refine mr_iconst ok 1 d_F_repeat_54 (by decide) ?_
      refine sx_zret rfl ok en (Nat.le_refl _) (Nat.le_refl _) d_F_repeat_55 ?_
      exact ⟨(by first | rfl | simp only [v_F_repeat, if_neg h5_0, if_pos h15_1]), (by first | rfl | simp only [s_F_repeat, if_neg h5_0, if_pos h15_1])⟩
    · refine mr_iconst ok 0 d_F_repeat_18 (by decide) ?_
      refine sx_zret rfl ok en (Nat.le_refl _) (Nat.le_refl _) d_F_repeat_19 ?_
      exact ⟨(by first | rfl | simp only [v_F_repeat, if_neg h5_0, if_neg h15_1]), (by first | rfl | simp only [s_F_repeat, if_neg h5_0, if_neg h15_1])⟩
def s_F_read (N L : Nat) (c : sh_S) (x : Int32) : sh_S := (let c1 := sU c 7 0 0 (v_F_cell N L c x 0); (let c2 := sU c1 7 0 1 (v_F_cell N L c1 x 1); (let c3 := sU c2 7 0 2 (v_F_cell N L c2 x 2); (let c4 := sU c3 7 0 3 (v_F_cell N L c3 x 3); (let c5 := sU c4 7 0 4 (v_F_cell N L c4 x 4); (let c6 := sU c5 7 0 5 (v_F_cell N L c5 x 5); (let c7 := sU c6 7 0 6 (v_F_cell N L c6 x 6); c7)))))))
set_option maxHeartbeats 4000000 in
set_option maxRecDepth 100000 in
theorem c_F_read {B : sh_B} {Z : mx_Z} {N L : Nat} {cI cR cZ : ClassId} (hb : wB B Z N L cI cR cZ) {c r : sh_S} {x : Int32} (hc : ∃ q : Nat, q ≤ 200 ∧ c 5 0 1 = nI q) : sc B Z y_F_read b_F_read 3 none (rmm 2 43) [.ref (B.2.1 5 0), .int x, .ref (B.2.1 7 0)] (jn c r) (qe none (jn (s_F_read N L c x) r)) := by
  refine ct_of (by decide) (Nat.le_of_ble_eq_true rfl) (cat_of rfl) ?_
  intro X ok en _
  have hB := hb.1
  refine mr_lv [(0, .ref (B.2.1 5 0)), (1, .int x), (2, .ref (B.2.1 7 0))] ⟨rfl, rfl, rfl, trivial⟩ ?_
  refine mr_aload_n ok (i := 2) d_F_read_0 rfl rfl ?_
  refine mr_aload_n ok (i := 0) d_F_read_1 rfl rfl ?_
  refine mr_iload_n ok (i := 1) d_F_read_2 rfl rfl ?_
  refine mr_iconst ok 0 d_F_read_3 (by decide) ?_
  refine sx_cVi ok hB [_, _] rfl cb_F_29 cv_F_cell (tm_5 hb) rfl rfl (c_F_cell hb (by exact hc)) rfl (Nat.le_of_ble_eq_true rfl) (by decide) ⟨Nat.le_refl _, Nat.le_refl _⟩ d_F_read_4 ?_
  refine cx_put ok hB rfl fw_F_33 (tm_7 hb) rfl rfl rfl d_F_read_7 ?_
  refine mr_aload_n ok (i := 2) d_F_read_10 rfl rfl ?_
  refine mr_aload_n ok (i := 0) d_F_read_11 rfl rfl ?_
  refine mr_iload_n ok (i := 1) d_F_read_12 rfl rfl ?_
  refine mr_iconst ok 1 d_F_read_13 (by decide) ?_
  refine sx_cVi ok hB [_, _] rfl cb_F_29 cv_F_cell (tm_5 hb) rfl rfl (c_F_cell hb (by exact hc)) rfl (Nat.le_of_ble_eq_true rfl) (by decide) ⟨Nat.le_refl _, Nat.le_refl _⟩ d_F_read_14 ?_
  refine cx_put ok hB rfl fw_F_38 (tm_7 hb) rfl rfl rfl d_F_read_17 ?_
  refine mr_aload_n ok (i := 2) d_F_read_20 rfl rfl ?_
  refine mr_aload_n ok (i := 0) d_F_read_21 rfl rfl ?_
  refine mr_iload_n ok (i := 1) d_F_read_22 rfl rfl ?_
  refine mr_iconst ok 2 d_F_read_23 (by decide) ?_
  refine sx_cVi ok hB [_, _] rfl cb_F_29 cv_F_cell (tm_5 hb) rfl rfl (c_F_cell hb (by exact hc)) rfl (Nat.le_of_ble_eq_true rfl) (by decide) ⟨Nat.le_refl _, Nat.le_refl _⟩ d_F_read_24 ?_
  refine cx_put ok hB rfl fw_F_41 (tm_7 hb) rfl rfl rfl d_F_read_27 ?_
  refine mr_aload_n ok (i := 2) d_F_read_30 rfl rfl ?_
  refine mr_aload_n ok (i := 0) d_F_read_31 rfl rfl ?_
  refine mr_iload_n ok (i := 1) d_F_read_32 rfl rfl ?_
  refine mr_iconst ok 3 d_F_read_33 (by decide) ?_
  refine sx_cVi ok hB [_, _] rfl cb_F_29 cv_F_cell (tm_5 hb) rfl rfl (c_F_cell hb (by exact hc)) rfl (Nat.le_of_ble_eq_true rfl) (by decide) ⟨Nat.le_refl _, Nat.le_refl _⟩ d_F_read_34 ?_
  refine cx_put ok hB rfl fw_F_44 (tm_7 hb) rfl rfl rfl d_F_read_37 ?_
  refine mr_aload_n ok (i := 2) d_F_read_40 rfl rfl ?_
  refine mr_aload_n ok (i := 0) d_F_read_41 rfl rfl ?_
  refine mr_iload_n ok (i := 1) d_F_read_42 rfl rfl ?_
  refine mr_iconst ok 4 d_F_read_43 (by decide) ?_
  refine sx_cVi ok hB [_, _] rfl cb_F_29 cv_F_cell (tm_5 hb) rfl rfl (c_F_cell hb (by exact hc)) rfl (Nat.le_of_ble_eq_true rfl) (by decide) ⟨Nat.le_refl _, Nat.le_refl _⟩ d_F_read_44 ?_
  refine cx_put ok hB rfl fw_F_47 (tm_7 hb) rfl rfl rfl d_F_read_47 ?_
  refine mr_aload_n ok (i := 2) d_F_read_50 rfl rfl ?_
  refine mr_aload_n ok (i := 0) d_F_read_51 rfl rfl ?_
  refine mr_iload_n ok (i := 1) d_F_read_52 rfl rfl ?_
  refine mr_iconst ok 5 d_F_read_53 (by decide) ?_
  refine sx_cVi ok hB [_, _] rfl cb_F_29 cv_F_cell (tm_5 hb) rfl rfl (c_F_cell hb (by exact hc)) rfl (Nat.le_of_ble_eq_true rfl) (by decide) ⟨Nat.le_refl _, Nat.le_refl _⟩ d_F_read_54 ?_
  refine cx_put ok hB rfl fw_F_50 (tm_7 hb) rfl rfl rfl d_F_read_57 ?_
  refine mr_aload_n ok (i := 2) d_F_read_60 rfl rfl ?_
  refine mr_aload_n ok (i := 0) d_F_read_61 rfl rfl ?_
  refine mr_iload_n ok (i := 1) d_F_read_62 rfl rfl ?_
  refine mr_bipush ok 6 d_F_read_63 (by decide) ?_
  refine sx_cVi ok hB [_, _] rfl cb_F_29 cv_F_cell (tm_5 hb) rfl rfl (c_F_cell hb (by exact hc)) rfl (Nat.le_of_ble_eq_true rfl) (by decide) ⟨Nat.le_refl _, Nat.le_refl _⟩ d_F_read_65 ?_
  refine cx_put ok hB rfl fw_F_53 (tm_7 hb) rfl rfl rfl d_F_read_68 ?_
  refine sx_vret ok en (Nat.le_refl _) (Nat.le_refl _) d_F_read_71 ?_
  exact ⟨rfl, (by first | rfl | simp only [s_F_read])⟩
