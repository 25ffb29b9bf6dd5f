theorem kt_rm {r : sh_S} {x : Int32} (hc : ∃ q : Nat, q ≤ 200 ∧ r 20 0 21 = nI q) (h0 : ¬ x < 0) (h : x < r 20 0 21) : ∃ q j : Nat, q ≤ 200 ∧ r 20 0 21 = nI q ∧ j < q ∧ x = nI j := by
  obtain ⟨q, h1, h2⟩ := hc
  obtain ⟨j, hj, rfl⟩ := nI_of h0
  rw [h2] at h
  exact ⟨q, j, h1, h2, (nI_ltI hj (by omega)).mp h, rfl⟩
theorem kt_rm' {r : sh_S} {x : Int32} (hc : ∃ q : Nat, q ≤ 200 ∧ r 20 0 21 = nI q) (h0 : ¬ x < 0) (h : ¬ r 20 0 21 ≤ x) : ∃ q j : Nat, q ≤ 200 ∧ r 20 0 21 = nI q ∧ j < q ∧ x = nI j := kt_rm hc h0 (Int32.not_le.mp h)
theorem kt_d0 {r : sh_S} {x : Int32} (hc : ∃ q j : Nat, q ≤ 200 ∧ r 20 0 21 = nI q ∧ j < q ∧ x = nI j) : vp_in (7 * x) 1407 := by
  obtain ⟨q, j, h1, h2, h3, rfl⟩ := hc
  rw [n7, pk_mul]
  exact vp_in_nI (by omega) (by decide)
theorem kt_d {r : sh_S} {x : Int32} (hc : ∃ q j : Nat, q ≤ 200 ∧ r 20 0 21 = nI q ∧ j < q ∧ x = nI j) (k : Nat) (hk : k < 7) : vp_in (7 * x + nI k) 1407 := by
  obtain ⟨q, j, h1, h2, h3, rfl⟩ := hc
  rw [n7, pk_mul, nI_add]
  exact vp_in_nI (by omega) (by decide)
theorem kt_dy {r : sh_S} {x y : Int32} (hc : ∃ q j : Nat, q ≤ 200 ∧ r 20 0 21 = nI q ∧ j < q ∧ x = nI j) (h0 : ¬ y < 0) (h6 : y ≤ 6) : vp_in (7 * x + y) 1407 := by
  obtain ⟨w, hw, rfl⟩ := nI_of2 (n := 6) (M := 6) rfl h0 h6
  exact kt_d hc w (by omega)
theorem kF_nI {N : Nat} {x : Int32} (h : kF N x) : x = nI x.toNatClampNeg := by
  obtain ⟨j, hj, rfl⟩ := nI_of h.1
  rw [nI_clamp hj]
theorem kt_q {r : sh_S} {i : Nat} (hi : i < 5) (hc : ∃ q : Nat, q ≤ 8 ∧ r 39 0 i = nI q) (h : ¬ r 39 0 i = 8) : vp_in (8 * nI i + r 39 0 i) 40 := by
  obtain ⟨q, h1, h2⟩ := hc
  refine kt_8 hi h2 ?_
  rcases Nat.lt_or_ge q 8 with z | z
  · exact z
  · exact absurd (by rw [h2, show q = 8 by omega]; rfl) h
theorem kt_w {r : sh_S} {i : Nat} {y : Int32} (hi : i < 5) (hc : ∃ q : Nat, q ≤ 8 ∧ r 39 0 i = nI q) (h0 : ¬ y < 0) (h : ¬ r 39 0 i ≤ y) : vp_in (8 * nI i + y) 40 := by
  obtain ⟨q, h1, h2⟩ := hc
  rw [h2] at h
  obtain ⟨j, hj, e, -⟩ := pk_mu h0 h (by omega)
  exact kt_8 hi e (by omega)
theorem kw_rec {k n : Nat} {a : Int32} (h1 : a = nI k) (h2 : k ≤ 7) (h3 : 8 ≤ k + (n + 1)) (h : ¬ 7 ≤ a) : ∃ k : Nat, a + 1 = nI k ∧ k ≤ 7 ∧ 8 ≤ k + n := by
  rw [h1] at h
  have : k < 7 := Nat.lt_of_not_le fun z => h (by rw [n7]; exact nI_le z (by omega))
  exact ⟨k + 1, by rw [h1, nI_1], by omega, by omega⟩
theorem kw_lt {k : Nat} {a : Int32} (h1 : a = nI k) (h2 : k ≤ 7) (h : ¬ 7 ≤ a) : k < 7 := by
  rw [h1] at h
  exact Nat.lt_of_not_le fun z => h (by rw [n7]; exact nI_le z (by omega))
theorem kw_in {r : sh_S} {q k : Nat} {a : Int32} (hq : q < 200) (e : r 20 0 21 = nI q) (h1 : a = nI k) (hk : k < 7) : vp_in (7 * r 20 0 21 + a) 1407 := by
  rw [e, h1, n7, pk_mul, nI_add]
  exact vp_in_nI (by omega) (by decide)

theorem kf5 {N k : Nat} {b : Int32} (h1 : b = nI k) (h : ¬ nI N ≤ b) (h2 : k ≤ N) (h5 : N ≤ 5) : k < N := by
  rw [h1] at h
  exact Nat.lt_of_not_le fun z => h (nI_le z (by omega))
def v_T_request (N L : Nat) (r : sh_S) (i : Nat) (y : Int32) : Int32 := (let r1 := sU r 20 0 0 0; (if (v_T_isUp N L r1 i) = 0 then 0 else (if (r1 39 0 i) = 8 then 0 else (if 1 ≤ y then (let r2 := sU r1 38 0 ((((8 * (nI i)) + (r1 39 0 i)) : Int32).toNatClampNeg) y; (let r3 := sU r2 39 0 i ((r2 39 0 i) + 1); 1)) else 0))))
def s_T_request (N L : Nat) (r : sh_S) (i : Nat) (y : Int32) : sh_S := (let r1 := sU r 20 0 0 0; (if (v_T_isUp N L r1 i) = 0 then r1 else (if (r1 39 0 i) = 8 then r1 else (if 1 ≤ y then (let r2 := sU r1 38 0 ((((8 * (nI i)) + (r1 39 0 i)) : Int32).toNatClampNeg) y; (let r3 := sU r2 39 0 i ((r2 39 0 i) + 1); r3)) else r1))))
set_option maxHeartbeats 4000000 in
set_option maxRecDepth 100000 in
theorem c_T_request {B : sh_B} {Z : mx_Z} {N L : Nat} {cI cR cZ : ClassId} (hb : wB B Z N L cI cR cZ) {c r : sh_S} {i : Nat} (hi : i < N) {y : Int32} (hc : rK N r) : sc B Z y_T_request b_T_request 3 (some (.boolean)) (rmm 2 42) [.ref (B.2.1 20 0), .int (nI i), .int y] (jn c r) (qe (some (.int (v_T_request N L r i y))) (jn c (s_T_request N L r i y))) := by
  refine ct_of (by decide) (Nat.le_of_ble_eq_true rfl) (cat_of rfl) ?_
  intro X ok en _
  have hB := hb.1
  refine mr_lv [(0, .ref (B.2.1 20 0)), (1, .int (nI i)), (2, .int y)] ⟨rfl, rfl, rfl, trivial⟩ ?_
  refine mr_aload_n ok (i := 0) d_T_request_0 rfl rfl ?_
  refine mr_iconst ok 0 d_T_request_1 (by decide) ?_
  refine rx_put ok hB rfl fw_T_72 (tm_20 hb) rfl rfl rfl d_T_request_2 ?_
  refine mr_aload_n ok (i := 0) d_T_request_5 rfl rfl ?_
  refine mr_iload_n ok (i := 1) d_T_request_6 rfl rfl ?_
  refine sx_cVi ok hB [_] rfl cb_T_135 cv_T_isUp (tm_20 hb) rfl rfl (c_T_isUp hb hi) rfl (Nat.le_of_ble_eq_true rfl) (by decide) ⟨Nat.le_refl _, Nat.le_refl _⟩ d_T_request_7 ?_
  refine mr_if_eq ok 41 d_T_request_10 (by decide) (fun h10_0 => ?_) (fun h10_0 => ?_)
  · refine mr_iconst ok 0 d_T_request_41 (by decide) ?_
    refine sx_zret rfl ok en (Nat.le_refl _) (Nat.le_refl _) d_T_request_42 ?_
    exact ⟨(by first | rfl | (simp only [v_T_request, if_pos h10_0]; done) | (simp only [v_T_request, if_pos h10_0]; rfl)), (by first | rfl | (simp only [s_T_request, if_pos h10_0]; done) | (simp only [s_T_request, if_pos h10_0]; rfl))⟩
  · refine mr_aload_n ok (i := 0) d_T_request_13 rfl rfl ?_
    refine sx_getr ok hB fl_T_59 (tm_20 hb) rfl d_T_request_14 ?_
    refine mr_aload_n ok (i := 0) d_T_request_17 rfl rfl ?_
    refine mr_iload_n ok (i := 1) d_T_request_18 rfl rfl ?_
    refine sx_cVi ok hB [_] rfl cb_T_135 cv_T_isUp (tm_20 hb) rfl rfl (c_T_isUp hb hi) rfl (Nat.le_of_ble_eq_true rfl) (by decide) ⟨Nat.le_refl _, Nat.le_refl _⟩ d_T_request_19 ?_
    refine mr_if_eq ok 29 d_T_request_22 (by decide) (fun h => absurd h h10_0) (fun _ => ?_)
    refine mr_iload_n ok (i := 1) d_T_request_25 rfl rfl ?_
    refine mr_goto ok 30 d_T_request_26 (by decide) ?_
    refine rx_iald ok hB rfl (tm_39 hb) (ty_0 hb) rfl (lt5 hb hi) (by decide) d_T_request_30 ?_
    refine mr_bipush ok 8 d_T_request_31 (by decide) ?_
    refine mr_icmp_eq ok 41 d_T_request_33 (by decide) (fun h33_1 => ?_) (fun h33_1 => ?_)
    · refine mr_iconst ok 0 d_T_request_41 (by decide) ?_
      refine sx_zret rfl ok en (Nat.le_refl _) (Nat.le_refl _) d_T_request_42 ?_
      exact ⟨(by first | rfl | (simp only [v_T_request, if_neg h10_0, if_pos h33_1]; done) | (simp only [v_T_request, if_neg h10_0, if_pos h33_1]; rfl)), (by first | rfl | (simp only [s_T_request, if_neg h10_0, if_pos h33_1]; done) | (simp only [s_T_request, if_neg h10_0, if_pos h33_1]; rfl))⟩
    · refine mr_iload_n ok (i := 2) d_T_request_36 rfl rfl ?_
      refine mr_iconst ok 1 d_T_request_37 (by decide) ?_
      refine mr_icmp_ge ok 43 d_T_request_38 (by decide) (fun h38_2 => ?_) (fun h38_2 => ?_)
      · refine mr_aload_n ok (i := 0) d_T_request_43 rfl rfl ?_
        refine sx_getr ok hB fl_T_56 (tm_20 hb) rfl d_T_request_44 ?_
        refine mr_bipush ok 8 d_T_request_47 (by decide) ?_
        refine mr_iload_n ok (i := 1) d_T_request_49 rfl rfl ?_
        refine mr_imul ok d_T_request_50 ?_
        refine mr_aload_n ok (i := 0) d_T_request_51 rfl rfl ?_
        refine sx_getr ok hB fl_T_59 (tm_20 hb) rfl d_T_request_52 ?_
        refine mr_iload_n ok (i := 1) d_T_request_55 rfl rfl ?_
        refine rx_iald ok hB rfl (tm_39 hb) (ty_0 hb) rfl (lt5 hb hi) (by decide) d_T_request_56 ?_
        refine mr_iadd ok d_T_request_57 ?_
        refine mr_iload_n ok (i := 2) d_T_request_58 rfl rfl ?_
        refine rx_iastC ok hB rfl (tm_38 hb) (ty_0 hb) (kt_q (lt5 hb hi) (hc.2 i hi).1 ‹_›) d_T_request_59 ?_
        refine mr_aload_n ok (i := 0) d_T_request_60 rfl rfl ?_
        refine sx_getr ok hB fl_T_59 (tm_20 hb) rfl d_T_request_61 ?_
        refine mr_iload_n ok (i := 1) d_T_request_64 rfl rfl ?_
        refine mr_dup2 ok d_T_request_65 rfl rfl ?_
        refine rx_iald ok hB rfl (tm_39 hb) (ty_0 hb) rfl (lt5 hb hi) (by decide) d_T_request_66 ?_
        refine mr_iconst ok 1 d_T_request_67 (by decide) ?_
        refine mr_iadd ok d_T_request_68 ?_
        refine rx_iast ok hB rfl (tm_39 hb) (ty_0 hb) rfl (lt5 hb hi) (by decide) d_T_request_69 ?_
        refine mr_iconst ok 1 d_T_request_70 (by decide) ?_
        refine sx_zret rfl ok en (Nat.le_refl _) (Nat.le_refl _) d_T_request_71 ?_
        exact ⟨(by first | rfl | (simp only [v_T_request, if_neg h10_0, if_neg h33_1, if_pos h38_2]; done) | (simp only [v_T_request, if_neg h10_0, if_neg h33_1, if_pos h38_2]; rfl)), (by first | rfl | (simp only [s_T_request, if_neg h10_0, if_neg h33_1, if_pos h38_2]; done) | (simp only [s_T_request, if_neg h10_0, if_neg h33_1, if_pos h38_2]; rfl))⟩
      · refine mr_iconst ok 0 d_T_request_41 (by decide) ?_
        refine sx_zret rfl ok en (Nat.le_refl _) (Nat.le_refl _) d_T_request_42 ?_
        exact ⟨(by first | rfl | (simp only [v_T_request, if_neg h10_0, if_neg h33_1, if_neg h38_2]; done) | (simp only [v_T_request, if_neg h10_0, if_neg h33_1, if_neg h38_2]; rfl)), (by first | rfl | (simp only [s_T_request, if_neg h10_0, if_neg h33_1, if_neg h38_2]; done) | (simp only [s_T_request, if_neg h10_0, if_neg h33_1, if_neg h38_2]; rfl))⟩
def v_T_request_o (N L : Nat) (r : sh_S) (x : Int32) (y : Int32) : Int32 := (let r1 := sU r 20 0 0 0; 0)
def s_T_request_o (N L : Nat) (r : sh_S) (x : Int32) (y : Int32) : sh_S := (let r1 := sU r 20 0 0 0; r1)
set_option maxHeartbeats 4000000 in
set_option maxRecDepth 100000 in
theorem c_T_request_o {B : sh_B} {Z : mx_Z} {N L : Nat} {cI cR cZ : ClassId} (hb : wB B Z N L cI cR cZ) {c r : sh_S} {x : Int32} {y : Int32} (ho : ¬ kF N x) : sc B Z y_T_request b_T_request 3 (some (.boolean)) (rmm 2 42) [.ref (B.2.1 20 0), .int x, .int y] (jn c r) (qe (some (.int (v_T_request_o N L r x y))) (jn c (s_T_request_o N L r x y))) := by
  refine ct_of (by decide) (Nat.le_of_ble_eq_true rfl) (cat_of rfl) ?_
  intro X ok en _
  have hB := hb.1
  refine mr_lv [(0, .ref (B.2.1 20 0)), (1, .int x), (2, .int y)] ⟨rfl, rfl, rfl, trivial⟩ ?_
  refine mr_aload_n ok (i := 0) d_T_request_0 rfl rfl ?_
  refine mr_iconst ok 0 d_T_request_1 (by decide) ?_
  refine rx_put ok hB rfl fw_T_72 (tm_20 hb) rfl rfl rfl d_T_request_2 ?_
  refine mr_aload_n ok (i := 0) d_T_request_5 rfl rfl ?_
  refine mr_iload_n ok (i := 1) d_T_request_6 rfl rfl ?_
  refine sx_cVi ok hB [_] rfl cb_T_135 cv_T_isUp (tm_20 hb) rfl rfl (c_T_isUp_o hb ho) rfl (Nat.le_of_ble_eq_true rfl) (by decide) ⟨Nat.le_refl _, Nat.le_refl _⟩ d_T_request_7 ?_
  refine sx_top (y := 0) rfl ?_
  refine mr_if_eq ok 41 d_T_request_10 (by decide) (fun _ => ?_) (fun h => absurd h (by decide))
  refine mr_iconst ok 0 d_T_request_41 (by decide) ?_
  refine sx_zret rfl ok en (Nat.le_refl _) (Nat.le_refl _) d_T_request_42 ?_
  exact ⟨(by first | rfl | (simp only [v_T_request_o]; done) | (simp only [v_T_request_o]; rfl)), (by first | rfl | (simp only [s_T_request_o]; done) | (simp only [s_T_request_o]; rfl))⟩
def v_T_tick (N L : Nat) (r : sh_S) (i : Nat) : Int32 := (let r1 := sU r 20 0 0 0; (if (v_T_isUp N L r1 i) = 0 then (-1) else (if (r1 31 0 i) = 2 then (if (r1 34 0 i) ≤ 0 then (let r5 := s_T_propose N L r1 i; (r5 20 0 21)) else (let r6 := s_T_sendAll N L r1 3 (nI i) (r1 32 0 i) ((r1 24 0 i) + 1) (r1 34 0 i); (r6 20 0 21))) else (if (r1 31 0 i) = 1 then (let r4 := s_T_sendAll N L r1 1 (nI i) (r1 32 0 i) ((r1 24 0 i) + 1) 0; (r4 20 0 21)) else (if (r1 39 0 i) ≤ 0 then (let r2 := s_T_send N L r1 6 (nI i) (((nI i) + 1) - ((nI i) + 1) / (nI N) * (nI N)) 0 ((r1 24 0 i) + 1) 0 0; (r2 20 0 21)) else (let r3 := s_T_campaign N L r1 i; (r3 20 0 21)))))))
def s_T_tick (N L : Nat) (r : sh_S) (i : Nat) : sh_S := (let r1 := sU r 20 0 0 0; (if (v_T_isUp N L r1 i) = 0 then r1 else (if (r1 31 0 i) = 2 then (if (r1 34 0 i) ≤ 0 then (let r5 := s_T_propose N L r1 i; r5) else (let r6 := s_T_sendAll N L r1 3 (nI i) (r1 32 0 i) ((r1 24 0 i) + 1) (r1 34 0 i); r6)) else (if (r1 31 0 i) = 1 then (let r4 := s_T_sendAll N L r1 1 (nI i) (r1 32 0 i) ((r1 24 0 i) + 1) 0; r4) else (if (r1 39 0 i) ≤ 0 then (let r2 := s_T_send N L r1 6 (nI i) (((nI i) + 1) - ((nI i) + 1) / (nI N) * (nI N)) 0 ((r1 24 0 i) + 1) 0 0; r2) else (let r3 := s_T_campaign N L r1 i; r3))))))
set_option maxHeartbeats 4000000 in
set_option maxRecDepth 100000 in
theorem c_T_tick {B : sh_B} {Z : mx_Z} {N L : Nat} {cI cR cZ : ClassId} (hb : wB B Z N L cI cR cZ) {c r : sh_S} {i : Nat} (hi : i < N) (hc : rK N r) (hp : ∃ a b : Nat, a ≤ 10000 ∧ b ≤ 10000 ∧ r 27 0 i = nI a ∧ r 37 0 i = nI b) : sc B Z y_T_tick b_T_tick 2 (some (.int)) (rmm 4 97) [.ref (B.2.1 20 0), .int (nI i)] (jn c r) (qe (some (.int (v_T_tick N L r i))) (jn c (s_T_tick N L r i))) := by
  refine ct_of (by decide) (Nat.le_of_ble_eq_true rfl) (cat_of rfl) ?_
  intro X ok en _
  have hB := hb.1
  refine mr_lv [(0, .ref (B.2.1 20 0)), (1, .int (nI i))] ⟨rfl, rfl, trivial⟩ ?_
  refine mr_aload_n ok (i := 0) d_T_tick_0 rfl rfl ?_
  refine mr_iconst ok 0 d_T_tick_1 (by decide) ?_
  refine rx_put ok hB rfl fw_T_72 (tm_20 hb) rfl rfl rfl d_T_tick_2 ?_
  refine mr_aload_n ok (i := 0) d_T_tick_5 rfl rfl ?_
  refine mr_iload_n ok (i := 1) d_T_tick_6 rfl rfl ?_
  refine sx_cVi ok hB [_] rfl cb_T_135 cv_T_isUp (tm_20 hb) rfl rfl (c_T_isUp hb hi) rfl (Nat.le_of_ble_eq_true rfl) (by decide) ⟨Nat.le_refl _, Nat.le_refl _⟩ d_T_tick_7 ?_
  refine mr_if_ne ok 15 d_T_tick_10 (by decide) (fun h10_0 => ?_) (fun h10_0 => ?_)
  · refine mr_aload_n ok (i := 0) d_T_tick_15 rfl rfl ?_
    refine sx_getr ok hB fl_T_35 (tm_20 hb) rfl d_T_tick_16 ?_
    refine mr_iload_n ok (i := 1) d_T_tick_19 rfl rfl ?_
    refine rx_iald ok hB rfl (tm_31 hb) (ty_0 hb) rfl (lt5 hb hi) (by decide) d_T_tick_20 ?_
    refine mr_iconst ok 2 d_T_tick_21 (by decide) ?_
    refine mr_icmp_ne ok 63 d_T_tick_22 (by decide) (fun h22_1 => ?_) (fun h22_1 => ?_)
    · refine mr_aload_n ok (i := 0) d_T_tick_63 rfl rfl ?_
      refine sx_getr ok hB fl_T_35 (tm_20 hb) rfl d_T_tick_64 ?_
      refine mr_iload_n ok (i := 1) d_T_tick_67 rfl rfl ?_
      refine rx_iald ok hB rfl (tm_31 hb) (ty_0 hb) rfl (lt5 hb hi) (by decide) d_T_tick_68 ?_
      refine mr_iconst ok 2 d_T_tick_69 (by decide) ?_
      refine mr_icmp_ne ok 81 d_T_tick_70 (by decide) (fun _ => ?_) (fun h => absurd h h22_1)
      refine mr_aload_n ok (i := 0) d_T_tick_81 rfl rfl ?_
      refine sx_getr ok hB fl_T_35 (tm_20 hb) rfl d_T_tick_82 ?_
      refine mr_iload_n ok (i := 1) d_T_tick_85 rfl rfl ?_
      refine rx_iald ok hB rfl (tm_31 hb) (ty_0 hb) rfl (lt5 hb hi) (by decide) d_T_tick_86 ?_
      refine mr_iconst ok 1 d_T_tick_87 (by decide) ?_
      refine mr_icmp_ne ok 115 d_T_tick_88 (by decide) (fun h88_2 => ?_) (fun h88_2 => ?_)
      · refine mr_aload_n ok (i := 0) d_T_tick_115 rfl rfl ?_
        refine sx_getr ok hB fl_T_59 (tm_20 hb) rfl d_T_tick_116 ?_
        refine mr_iload_n ok (i := 1) d_T_tick_119 rfl rfl ?_
        refine rx_iald ok hB rfl (tm_39 hb) (ty_0 hb) rfl (lt5 hb hi) (by decide) d_T_tick_120 ?_
        refine mr_if_le ok 132 d_T_tick_121 (by decide) (fun h121_3 => ?_) (fun h121_3 => ?_)
        · refine mr_aload_n ok (i := 0) d_T_tick_132 rfl rfl ?_
          refine mr_bipush ok 6 d_T_tick_133 (by decide) ?_
          refine mr_iload_n ok (i := 1) d_T_tick_135 rfl rfl ?_
          refine mr_iload_n ok (i := 1) d_T_tick_136 rfl rfl ?_
          refine mr_iconst ok 1 d_T_tick_137 (by decide) ?_
          refine mr_iadd ok d_T_tick_138 ?_
          refine mr_aload_n ok (i := 0) d_T_tick_139 rfl rfl ?_
          refine sx_getr ok hB fl_T_65 (tm_20 hb) rfl d_T_tick_140 ?_
          refine mr_irem ok d_T_tick_143 (kn_ne hb) ?_
          refine mr_iconst ok 0 d_T_tick_144 (by decide) ?_
          refine mr_aload_n ok (i := 0) d_T_tick_145 rfl rfl ?_
          refine sx_getr ok hB fl_T_13 (tm_20 hb) rfl d_T_tick_146 ?_
          refine mr_iload_n ok (i := 1) d_T_tick_149 rfl rfl ?_
          refine rx_iald ok hB rfl (tm_24 hb) (ty_0 hb) rfl (lt5 hb hi) (by decide) d_T_tick_150 ?_
          refine mr_iconst ok 1 d_T_tick_151 (by decide) ?_
          refine mr_iadd ok d_T_tick_152 ?_
          refine mr_iconst ok 0 d_T_tick_153 (by decide) ?_
          refine mr_iconst ok 0 d_T_tick_154 (by decide) ?_
          refine sx_cVv ok hB [_, _, _, _, _, _, _] rfl cb_T_88 cv_T_send (tm_20 hb) rfl rfl (c_T_send hb (by exact hc.1)) rfl (Nat.le_of_ble_eq_true rfl) (by decide) ⟨Nat.le_refl _, Nat.le_refl _⟩ d_T_tick_155 ?_
          have hc : rK N (s_T_send N L (sU r 20 0 0 0) 6 (nI i) (((nI i) + 1) - ((nI i) + 1) / (nI N) * (nI N)) 0 (((sU r 20 0 0 0) 24 0 i) + 1) 0 0) := rK_T_send (L := L) hc
          refine mr_aload_n ok (i := 0) d_T_tick_158 rfl rfl ?_
          refine rx_geti ok hB rfl fl_T_82 (tm_20 hb) rfl d_T_tick_159 ?_
          refine sx_iret ok en (Nat.le_refl _) (Nat.le_refl _) d_T_tick_162 ?_
          exact ⟨(by first | rfl | (simp only [v_T_tick, if_neg h10_0, if_neg h22_1, if_neg h88_2, if_pos h121_3]; done) | (simp only [v_T_tick, if_neg h10_0, if_neg h22_1, if_neg h88_2, if_pos h121_3]; rfl)), (by first | rfl | (simp only [s_T_tick, if_neg h10_0, if_neg h22_1, if_neg h88_2, if_pos h121_3]; done) | (simp only [s_T_tick, if_neg h10_0, if_neg h22_1, if_neg h88_2, if_pos h121_3]; rfl))⟩
        · refine mr_aload_n ok (i := 0) d_T_tick_124 rfl rfl ?_
          refine mr_iload_n ok (i := 1) d_T_tick_125 rfl rfl ?_
          refine sx_cVv ok hB [_] rfl cb_T_138 cv_T_campaign (tm_20 hb) rfl rfl (c_T_campaign hb hi (by exact hc) (by exact hp)) rfl (Nat.le_of_ble_eq_true rfl) (by decide) ⟨Nat.le_refl _, Nat.le_refl _⟩ d_T_tick_126 ?_
          refine mr_goto ok 158 d_T_tick_129 (by decide) ?_
          refine mr_aload_n ok (i := 0) d_T_tick_158 rfl rfl ?_
          refine rx_geti ok hB rfl fl_T_82 (tm_20 hb) rfl d_T_tick_159 ?_
          refine sx_iret ok en (Nat.le_refl _) (Nat.le_refl _) d_T_tick_162 ?_
          exact ⟨(by first | rfl | (simp only [v_T_tick, if_neg h10_0, if_neg h22_1, if_neg h88_2, if_neg h121_3]; done) | (simp only [v_T_tick, if_neg h10_0, if_neg h22_1, if_neg h88_2, if_neg h121_3]; rfl)), (by first | rfl | (simp only [s_T_tick, if_neg h10_0, if_neg h22_1, if_neg h88_2, if_neg h121_3]; done) | (simp only [s_T_tick, if_neg h10_0, if_neg h22_1, if_neg h88_2, if_neg h121_3]; rfl))⟩
      · refine mr_aload_n ok (i := 0) d_T_tick_91 rfl rfl ?_
        refine mr_iconst ok 1 d_T_tick_92 (by decide) ?_
        refine mr_iload_n ok (i := 1) d_T_tick_93 rfl rfl ?_
        refine mr_aload_n ok (i := 0) d_T_tick_94 rfl rfl ?_
        refine sx_getr ok hB fl_T_38 (tm_20 hb) rfl d_T_tick_95 ?_
        refine mr_iload_n ok (i := 1) d_T_tick_98 rfl rfl ?_
        refine rx_iald ok hB rfl (tm_32 hb) (ty_0 hb) rfl (lt5 hb hi) (by decide) d_T_tick_99 ?_
        refine mr_aload_n ok (i := 0) d_T_tick_100 rfl rfl ?_
        refine sx_getr ok hB fl_T_13 (tm_20 hb) rfl d_T_tick_101 ?_
        refine mr_iload_n ok (i := 1) d_T_tick_104 rfl rfl ?_
        refine rx_iald ok hB rfl (tm_24 hb) (ty_0 hb) rfl (lt5 hb hi) (by decide) d_T_tick_105 ?_
        refine mr_iconst ok 1 d_T_tick_106 (by decide) ?_
        refine mr_iadd ok d_T_tick_107 ?_
        refine mr_iconst ok 0 d_T_tick_108 (by decide) ?_
        refine sx_cVv ok hB [_, _, _, _, _] rfl cb_T_96 cv_T_sendAll (tm_20 hb) rfl rfl (c_T_sendAll hb (by exact hc)) rfl (Nat.le_of_ble_eq_true rfl) (by decide) ⟨Nat.le_refl _, Nat.le_refl _⟩ d_T_tick_109 ?_
        have hc : rK N (s_T_sendAll N L (sU r 20 0 0 0) 1 (nI i) ((sU r 20 0 0 0) 32 0 i) (((sU r 20 0 0 0) 24 0 i) + 1) 0) := rK_T_sendAll (L := L) hc
        refine mr_goto ok 158 d_T_tick_112 (by decide) ?_
        refine mr_aload_n ok (i := 0) d_T_tick_158 rfl rfl ?_
        refine rx_geti ok hB rfl fl_T_82 (tm_20 hb) rfl d_T_tick_159 ?_
        refine sx_iret ok en (Nat.le_refl _) (Nat.le_refl _) d_T_tick_162 ?_
        exact ⟨(by first | rfl | (simp only [v_T_tick, if_neg h10_0, if_neg h22_1, if_pos h88_2]; done) | (simp only [v_T_tick, if_neg h10_0, if_neg h22_1, if_pos h88_2]; rfl)), (by first | rfl | (simp only [s_T_tick, if_neg h10_0, if_neg h22_1, if_pos h88_2]; done) | (simp only [s_T_tick, if_neg h10_0, if_neg h22_1, if_pos h88_2]; rfl))⟩
    · refine mr_aload_n ok (i := 0) d_T_tick_25 rfl rfl ?_
      refine sx_getr ok hB fl_T_44 (tm_20 hb) rfl d_T_tick_26 ?_
      refine mr_iload_n ok (i := 1) d_T_tick_29 rfl rfl ?_
      refine rx_iald ok hB rfl (tm_34 hb) (ty_0 hb) rfl (lt5 hb hi) (by decide) d_T_tick_30 ?_
      refine mr_if_le ok 63 d_T_tick_31 (by decide) (fun h31_2 => ?_) (fun h31_2 => ?_)
      · refine mr_aload_n ok (i := 0) d_T_tick_63 rfl rfl ?_
        refine sx_getr ok hB fl_T_35 (tm_20 hb) rfl d_T_tick_64 ?_
        refine mr_iload_n ok (i := 1) d_T_tick_67 rfl rfl ?_
        refine rx_iald ok hB rfl (tm_31 hb) (ty_0 hb) rfl (lt5 hb hi) (by decide) d_T_tick_68 ?_
        refine mr_iconst ok 2 d_T_tick_69 (by decide) ?_
        refine mr_icmp_ne ok 81 d_T_tick_70 (by decide) (fun h => absurd h22_1 h) (fun _ => ?_)
        refine mr_aload_n ok (i := 0) d_T_tick_73 rfl rfl ?_
        refine mr_iload_n ok (i := 1) d_T_tick_74 rfl rfl ?_
        refine sx_cVv ok hB [_] rfl cb_T_112 cv_T_propose (tm_20 hb) rfl rfl (c_T_propose hb hi (by exact hc)) rfl (Nat.le_of_ble_eq_true rfl) (by decide) ⟨Nat.le_refl _, Nat.le_refl _⟩ d_T_tick_75 ?_
        refine mr_goto ok 158 d_T_tick_78 (by decide) ?_
        refine mr_aload_n ok (i := 0) d_T_tick_158 rfl rfl ?_
        refine rx_geti ok hB rfl fl_T_82 (tm_20 hb) rfl d_T_tick_159 ?_
        refine sx_iret ok en (Nat.le_refl _) (Nat.le_refl _) d_T_tick_162 ?_
        exact ⟨(by first | rfl | (simp only [v_T_tick, if_neg h10_0, if_pos h22_1, if_pos h31_2]; done) | (simp only [v_T_tick, if_neg h10_0, if_pos h22_1, if_pos h31_2]; rfl)), (by first | rfl | (simp only [s_T_tick, if_neg h10_0, if_pos h22_1, if_pos h31_2]; done) | (simp only [s_T_tick, if_neg h10_0, if_pos h22_1, if_pos h31_2]; rfl))⟩
      · refine mr_aload_n ok (i := 0) d_T_tick_34 rfl rfl ?_
        refine mr_iconst ok 3 d_T_tick_35 (by decide) ?_
        refine mr_iload_n ok (i := 1) d_T_tick_36 rfl rfl ?_
        refine mr_aload_n ok (i := 0) d_T_tick_37 rfl rfl ?_
        refine sx_getr ok hB fl_T_38 (tm_20 hb) rfl d_T_tick_38 ?_
        refine mr_iload_n ok (i := 1) d_T_tick_41 rfl rfl ?_
        refine rx_iald ok hB rfl (tm_32 hb) (ty_0 hb) rfl (lt5 hb hi) (by decide) d_T_tick_42 ?_
        refine mr_aload_n ok (i := 0) d_T_tick_43 rfl rfl ?_
        refine sx_getr ok hB fl_T_13 (tm_20 hb) rfl d_T_tick_44 ?_
        refine mr_iload_n ok (i := 1) d_T_tick_47 rfl rfl ?_
        refine rx_iald ok hB rfl (tm_24 hb) (ty_0 hb) rfl (lt5 hb hi) (by decide) d_T_tick_48 ?_
        refine mr_iconst ok 1 d_T_tick_49 (by decide) ?_
        refine mr_iadd ok d_T_tick_50 ?_
        refine mr_aload_n ok (i := 0) d_T_tick_51 rfl rfl ?_
        refine sx_getr ok hB fl_T_44 (tm_20 hb) rfl d_T_tick_52 ?_
        refine mr_iload_n ok (i := 1) d_T_tick_55 rfl rfl ?_
        refine rx_iald ok hB rfl (tm_34 hb) (ty_0 hb) rfl (lt5 hb hi) (by decide) d_T_tick_56 ?_
        refine sx_cVv ok hB [_, _, _, _, _] rfl cb_T_96 cv_T_sendAll (tm_20 hb) rfl rfl (c_T_sendAll hb (by exact hc)) rfl (Nat.le_of_ble_eq_true rfl) (by decide) ⟨Nat.le_refl _, Nat.le_refl _⟩ d_T_tick_57 ?_
        have hc : rK N (s_T_sendAll N L (sU r 20 0 0 0) 3 (nI i) ((sU r 20 0 0 0) 32 0 i) (((sU r 20 0 0 0) 24 0 i) + 1) ((sU r 20 0 0 0) 34 0 i)) := rK_T_sendAll (L := L) hc
        refine mr_goto ok 158 d_T_tick_60 (by decide) ?_
        refine mr_aload_n ok (i := 0) d_T_tick_158 rfl rfl ?_
        refine rx_geti ok hB rfl fl_T_82 (tm_20 hb) rfl d_T_tick_159 ?_
        refine sx_iret ok en (Nat.le_refl _) (Nat.le_refl _) d_T_tick_162 ?_
        exact ⟨(by first | rfl | (simp only [v_T_tick, if_neg h10_0, if_pos h22_1, if_neg h31_2]; done) | (simp only [v_T_tick, if_neg h10_0, if_pos h22_1, if_neg h31_2]; rfl)), (by first | rfl | (simp only [s_T_tick, if_neg h10_0, if_pos h22_1, if_neg h31_2]; done) | (simp only [s_T_tick, if_neg h10_0, if_pos h22_1, if_neg h31_2]; rfl))⟩
  · refine mr_iconst ok (-1) d_T_tick_13 (by decide) ?_
    refine sx_iret ok en (Nat.le_refl _) (Nat.le_refl _) d_T_tick_14 ?_
    exact ⟨(by first | rfl | (simp only [v_T_tick, if_pos h10_0]; done) | (simp only [v_T_tick, if_pos h10_0]; rfl)), (by first | rfl | (simp only [s_T_tick, if_pos h10_0]; done) | (simp only [s_T_tick, if_pos h10_0]; rfl))⟩
def v_T_tick_o (N L : Nat) (r : sh_S) (x : Int32) : Int32 := (let r1 := sU r 20 0 0 0; (-1))
def s_T_tick_o (N L : Nat) (r : sh_S) (x : Int32) : sh_S := (let r1 := sU r 20 0 0 0; r1)
set_option maxHeartbeats 4000000 in
set_option maxRecDepth 100000 in
theorem c_T_tick_o {B : sh_B} {Z : mx_Z} {N L : Nat} {cI cR cZ : ClassId} (hb : wB B Z N L cI cR cZ) {c r : sh_S} {x : Int32} (ho : ¬ kF N x) : sc B Z y_T_tick b_T_tick 2 (some (.int)) (rmm 4 97) [.ref (B.2.1 20 0), .int x] (jn c r) (qe (some (.int (v_T_tick_o N L r x))) (jn c (s_T_tick_o N L r x))) := by
  refine ct_of (by decide) (Nat.le_of_ble_eq_true rfl) (cat_of rfl) ?_
  intro X ok en _
  have hB := hb.1
  refine mr_lv [(0, .ref (B.2.1 20 0)), (1, .int x)] ⟨rfl, rfl, trivial⟩ ?_
  refine mr_aload_n ok (i := 0) d_T_tick_0 rfl rfl ?_
  refine mr_iconst ok 0 d_T_tick_1 (by decide) ?_
  refine rx_put ok hB rfl fw_T_72 (tm_20 hb) rfl rfl rfl d_T_tick_2 ?_
  refine mr_aload_n ok (i := 0) d_T_tick_5 rfl rfl ?_
  refine mr_iload_n ok (i := 1) d_T_tick_6 rfl rfl ?_
  refine sx_cVi ok hB [_] rfl cb_T_135 cv_T_isUp (tm_20 hb) rfl rfl (c_T_isUp_o hb ho) rfl (Nat.le_of_ble_eq_true rfl) (by decide) ⟨Nat.le_refl _, Nat.le_refl _⟩ d_T_tick_7 ?_
  refine sx_top (y := 0) rfl ?_
  refine mr_if_ne ok 15 d_T_tick_10 (by decide) (fun h => absurd h (by decide)) (fun _ => ?_)
  refine mr_iconst ok (-1) d_T_tick_13 (by decide) ?_
  refine sx_iret ok en (Nat.le_refl _) (Nat.le_refl _) d_T_tick_14 ?_
  exact ⟨(by first | rfl | (simp only [v_T_tick_o]; done) | (simp only [v_T_tick_o]; rfl)), (by first | rfl | (simp only [s_T_tick_o]; done) | (simp only [s_T_tick_o]; rfl))⟩
def v_T_deliver (N L : Nat) (r : sh_S) (x : Int32) : Int32 := (let r1 := sU r 20 0 0 0; (if x < 0 then (-1) else (if x < (r1 20 0 21) then (let r2 := s_T_remove N L r1 x; (if (r2 23 0 ((r1 40 0 ((((7 * x) + 2) : Int32).toNatClampNeg)).toNatClampNeg)) = 0 then (r1 40 0 (((7 * x) : Int32).toNatClampNeg)) else (let r3 := s_T_comes N L r2 ((r1 40 0 ((((7 * x) + 2) : Int32).toNatClampNeg)).toNatClampNeg) (r1 40 0 (((7 * x) : Int32).toNatClampNeg)) (r1 40 0 ((((7 * x) + 1) : Int32).toNatClampNeg)) (r1 40 0 ((((7 * x) + 3) : Int32).toNatClampNeg)) (r1 40 0 ((((7 * x) + 4) : Int32).toNatClampNeg)) (r1 40 0 ((((7 * x) + 5) : Int32).toNatClampNeg)) (r1 40 0 ((((7 * x) + 6) : Int32).toNatClampNeg)); (r1 40 0 (((7 * x) : Int32).toNatClampNeg))))) else (-1))))
def s_T_deliver (N L : Nat) (r : sh_S) (x : Int32) : sh_S := (let r1 := sU r 20 0 0 0; (if x < 0 then r1 else (if x < (r1 20 0 21) then (let r2 := s_T_remove N L r1 x; (if (r2 23 0 ((r1 40 0 ((((7 * x) + 2) : Int32).toNatClampNeg)).toNatClampNeg)) = 0 then r2 else (let r3 := s_T_comes N L r2 ((r1 40 0 ((((7 * x) + 2) : Int32).toNatClampNeg)).toNatClampNeg) (r1 40 0 (((7 * x) : Int32).toNatClampNeg)) (r1 40 0 ((((7 * x) + 1) : Int32).toNatClampNeg)) (r1 40 0 ((((7 * x) + 3) : Int32).toNatClampNeg)) (r1 40 0 ((((7 * x) + 4) : Int32).toNatClampNeg)) (r1 40 0 ((((7 * x) + 5) : Int32).toNatClampNeg)) (r1 40 0 ((((7 * x) + 6) : Int32).toNatClampNeg)); r3))) else r1)))
set_option maxHeartbeats 4000000 in
set_option maxRecDepth 100000 in
theorem c_T_deliver {B : sh_B} {Z : mx_Z} {N L : Nat} {cI cR cZ : ClassId} (hb : wB B Z N L cI cR cZ) {c r : sh_S} {x : Int32} (hc : rK N r) (hx : ∀ i, i < N → ¬ r 24 0 i + 1 < 0) (hm : ¬ x < 0 → x < r 20 0 21 → kF N (r 40 0 ((7 * x + 2 : Int32).toNatClampNeg))) : sc B Z y_T_deliver b_T_deliver 10 (some (.int)) (rmm 6 150) [.ref (B.2.1 20 0), .int x] (jn c r) (qe (some (.int (v_T_deliver N L r x))) (jn c (s_T_deliver N L r x))) := by
  refine ct_of (by decide) (Nat.le_of_ble_eq_true rfl) (cat_of rfl) ?_
  intro X ok en _
  have hB := hb.1
  refine mr_lv [(0, .ref (B.2.1 20 0)), (1, .int x)] ⟨rfl, rfl, trivial⟩ ?_
  refine mr_aload_n ok (i := 0) d_T_deliver_0 rfl rfl ?_
  refine mr_iconst ok 0 d_T_deliver_1 (by decide) ?_
  refine rx_put ok hB rfl fw_T_72 (tm_20 hb) rfl rfl rfl d_T_deliver_2 ?_
  refine mr_iload_n ok (i := 1) d_T_deliver_5 rfl rfl ?_
  refine mr_if_lt ok 17 d_T_deliver_6 (by decide) (fun h6_0 => ?_) (fun h6_0 => ?_)
  · refine mr_iconst ok (-1) d_T_deliver_17 (by decide) ?_
    refine sx_iret ok en (Nat.le_refl _) (Nat.le_refl _) d_T_deliver_18 ?_
    exact ⟨(by first | rfl | (simp only [v_T_deliver, if_pos h6_0]; done) | (simp only [v_T_deliver, if_pos h6_0]; rfl)), (by first | rfl | (simp only [s_T_deliver, if_pos h6_0]; done) | (simp only [s_T_deliver, if_pos h6_0]; rfl))⟩
  · refine mr_iload_n ok (i := 1) d_T_deliver_9 rfl rfl ?_
    refine mr_aload_n ok (i := 0) d_T_deliver_10 rfl rfl ?_
    refine rx_geti ok hB rfl fl_T_82 (tm_20 hb) rfl d_T_deliver_11 ?_
    refine mr_icmp_lt ok 19 d_T_deliver_14 (by decide) (fun h14_1 => ?_) (fun h14_1 => ?_)
    · refine mr_bipush ok 7 d_T_deliver_19 (by decide) ?_
      refine mr_iload_n ok (i := 1) d_T_deliver_21 rfl rfl ?_
      refine mr_imul ok d_T_deliver_22 ?_
      refine mr_istore_n ok (i := 2) d_T_deliver_23 rfl (by decide) ?_
      refine mr_aload_n ok (i := 0) d_T_deliver_24 rfl rfl ?_
      refine sx_getr ok hB fl_T_62 (tm_20 hb) rfl d_T_deliver_25 ?_
      refine mr_iload_n ok (i := 2) d_T_deliver_28 rfl rfl ?_
      refine rx_ialdC ok hB rfl (tm_40 hb) (ty_0 hb) (kt_d0 (kt_rm hc.1 ‹_› ‹_›)) d_T_deliver_29 ?_
      refine mr_istore_n ok (i := 3) d_T_deliver_30 rfl (by decide) ?_
      refine mr_aload_n ok (i := 0) d_T_deliver_31 rfl rfl ?_
      refine sx_getr ok hB fl_T_62 (tm_20 hb) rfl d_T_deliver_32 ?_
      refine mr_iload_n ok (i := 2) d_T_deliver_35 rfl rfl ?_
      refine mr_iconst ok 1 d_T_deliver_36 (by decide) ?_
      refine mr_iadd ok d_T_deliver_37 ?_
      refine rx_ialdC ok hB rfl (tm_40 hb) (ty_0 hb) (kt_d (kt_rm hc.1 ‹_› ‹_›) 1 (by decide)) d_T_deliver_38 ?_
      refine mr_istore ok d_T_deliver_39 (by decide) ?_
      refine mr_aload_n ok (i := 0) d_T_deliver_41 rfl rfl ?_
      refine sx_getr ok hB fl_T_62 (tm_20 hb) rfl d_T_deliver_42 ?_
      refine mr_iload_n ok (i := 2) d_T_deliver_45 rfl rfl ?_
      refine mr_iconst ok 2 d_T_deliver_46 (by decide) ?_
      refine mr_iadd ok d_T_deliver_47 ?_
      refine rx_ialdC ok hB rfl (tm_40 hb) (ty_0 hb) (kt_d (kt_rm hc.1 ‹_› ‹_›) 2 (by decide)) d_T_deliver_48 ?_
      refine sx_top (kF_nI (hm ‹_› ‹_›)) ?_
      have hi := (kF_lt (hm ‹_› ‹_›) hb.2.2.2.1.2).1
      refine mr_istore ok d_T_deliver_49 (by decide) ?_
      refine mr_aload_n ok (i := 0) d_T_deliver_51 rfl rfl ?_
      refine sx_getr ok hB fl_T_62 (tm_20 hb) rfl d_T_deliver_52 ?_
      refine mr_iload_n ok (i := 2) d_T_deliver_55 rfl rfl ?_
      refine mr_iconst ok 3 d_T_deliver_56 (by decide) ?_
      refine mr_iadd ok d_T_deliver_57 ?_
      refine rx_ialdC ok hB rfl (tm_40 hb) (ty_0 hb) (kt_d (kt_rm hc.1 ‹_› ‹_›) 3 (by decide)) d_T_deliver_58 ?_
      refine mr_istore ok d_T_deliver_59 (by decide) ?_
      refine mr_aload_n ok (i := 0) d_T_deliver_61 rfl rfl ?_
      refine sx_getr ok hB fl_T_62 (tm_20 hb) rfl d_T_deliver_62 ?_
      refine mr_iload_n ok (i := 2) d_T_deliver_65 rfl rfl ?_
      refine mr_iconst ok 4 d_T_deliver_66 (by decide) ?_
      refine mr_iadd ok d_T_deliver_67 ?_
      refine rx_ialdC ok hB rfl (tm_40 hb) (ty_0 hb) (kt_d (kt_rm hc.1 ‹_› ‹_›) 4 (by decide)) d_T_deliver_68 ?_
      refine mr_istore ok d_T_deliver_69 (by decide) ?_
      refine mr_aload_n ok (i := 0) d_T_deliver_71 rfl rfl ?_
      refine sx_getr ok hB fl_T_62 (tm_20 hb) rfl d_T_deliver_72 ?_
      refine mr_iload_n ok (i := 2) d_T_deliver_75 rfl rfl ?_
      refine mr_iconst ok 5 d_T_deliver_76 (by decide) ?_
      refine mr_iadd ok d_T_deliver_77 ?_
      refine rx_ialdC ok hB rfl (tm_40 hb) (ty_0 hb) (kt_d (kt_rm hc.1 ‹_› ‹_›) 5 (by decide)) d_T_deliver_78 ?_
      refine mr_istore ok d_T_deliver_79 (by decide) ?_
      refine mr_aload_n ok (i := 0) d_T_deliver_81 rfl rfl ?_
      refine sx_getr ok hB fl_T_62 (tm_20 hb) rfl d_T_deliver_82 ?_
      refine mr_iload_n ok (i := 2) d_T_deliver_85 rfl rfl ?_
      refine mr_bipush ok 6 d_T_deliver_86 (by decide) ?_
      refine mr_iadd ok d_T_deliver_88 ?_
      refine rx_ialdC ok hB rfl (tm_40 hb) (ty_0 hb) (kt_d (kt_rm hc.1 ‹_› ‹_›) 6 (by decide)) d_T_deliver_89 ?_
      refine mr_istore ok d_T_deliver_90 (by decide) ?_
      refine mr_aload_n ok (i := 0) d_T_deliver_92 rfl rfl ?_
      refine mr_iload_n ok (i := 1) d_T_deliver_93 rfl rfl ?_
      refine sx_cVv ok hB [_] rfl cb_T_141 cv_T_remove (tm_20 hb) rfl rfl (c_T_remove hb (by exact (kt_rm hc.1 ‹_› ‹_›))) rfl (Nat.le_of_ble_eq_true rfl) (by decide) ⟨Nat.le_refl _, Nat.le_refl _⟩ d_T_deliver_94 ?_
      have hc : rK N (s_T_remove N L (sU r 20 0 0 0) x) := rK_T_remove (L := L) (by exact (kt_rm hc.1 ‹_› ‹_›)) hc
      refine mr_aload_n ok (i := 0) d_T_deliver_97 rfl rfl ?_
      refine sx_getr ok hB fl_T_7 (tm_20 hb) rfl d_T_deliver_98 ?_
      refine mr_iload ok d_T_deliver_101 rfl ?_
      refine rx_zald ok hB rfl (tm_23 hb) (ty_2 hb) rfl (lt5 hb hi) (by decide) d_T_deliver_103 ?_
      refine mr_if_eq ok 124 d_T_deliver_104 (by decide) (fun h104_2 => ?_) (fun h104_2 => ?_)
      · refine mr_iload_n ok (i := 3) d_T_deliver_124 rfl rfl ?_
        refine sx_iret ok en (Nat.le_refl _) (Nat.le_refl _) d_T_deliver_125 ?_
        exact ⟨(by first | rfl | (simp only [v_T_deliver, if_neg h6_0, if_pos h14_1, if_pos h104_2]; done) | (simp only [v_T_deliver, if_neg h6_0, if_pos h14_1, if_pos h104_2]; rfl)), (by first | rfl | (simp only [s_T_deliver, if_neg h6_0, if_pos h14_1, if_pos h104_2]; done) | (simp only [s_T_deliver, if_neg h6_0, if_pos h14_1, if_pos h104_2]; rfl))⟩
      · refine mr_aload_n ok (i := 0) d_T_deliver_107 rfl rfl ?_
        refine mr_iload_n ok (i := 3) d_T_deliver_108 rfl rfl ?_
        refine mr_iload ok d_T_deliver_109 rfl ?_
        refine mr_iload ok d_T_deliver_111 rfl ?_
        refine mr_iload ok d_T_deliver_113 rfl ?_
        refine mr_iload ok d_T_deliver_115 rfl ?_
        refine mr_iload ok d_T_deliver_117 rfl ?_
        refine mr_iload ok d_T_deliver_119 rfl ?_
        refine sx_cVv ok hB [_, _, _, _, _, _, _] rfl cb_T_144 cv_T_comes (tm_20 hb) rfl rfl (c_T_comes hb hi (by exact hc) (by intro k hk; show ¬ (ls_T_remove N L 1400 _ _ _) 24 0 k + 1 < 0; rw [x24_lsremove 24 rfl]; exact hx k hk)) rfl (Nat.le_of_ble_eq_true rfl) (by decide) ⟨Nat.le_refl _, Nat.le_refl _⟩ d_T_deliver_121 ?_
        refine mr_iload_n ok (i := 3) d_T_deliver_124 rfl rfl ?_
        refine sx_iret ok en (Nat.le_refl _) (Nat.le_refl _) d_T_deliver_125 ?_
        exact ⟨(by first | rfl | (simp only [v_T_deliver, if_neg h6_0, if_pos h14_1, if_neg h104_2]; done) | (simp only [v_T_deliver, if_neg h6_0, if_pos h14_1, if_neg h104_2]; rfl)), (by first | rfl | (simp only [s_T_deliver, if_neg h6_0, if_pos h14_1, if_neg h104_2]; done) | (simp only [s_T_deliver, if_neg h6_0, if_pos h14_1, if_neg h104_2]; rfl))⟩
    · refine mr_iconst ok (-1) d_T_deliver_17 (by decide) ?_
      refine sx_iret ok en (Nat.le_refl _) (Nat.le_refl _) d_T_deliver_18 ?_
      exact ⟨(by first | rfl | (simp only [v_T_deliver, if_neg h6_0, if_neg h14_1]; done) | (simp only [v_T_deliver, if_neg h6_0, if_neg h14_1]; rfl)), (by first | rfl | (simp only [s_T_deliver, if_neg h6_0, if_neg h14_1]; done) | (simp only [s_T_deliver, if_neg h6_0, if_neg h14_1]; rfl))⟩
def v_T_lose (N L : Nat) (r : sh_S) (x : Int32) : Int32 := (let r1 := sU r 20 0 0 0; (if x < 0 then 0 else (if x < (r1 20 0 21) then (let r2 := s_T_remove N L r1 x; 1) else 0)))
def s_T_lose (N L : Nat) (r : sh_S) (x : Int32) : sh_S := (let r1 := sU r 20 0 0 0; (if x < 0 then r1 else (if x < (r1 20 0 21) then (let r2 := s_T_remove N L r1 x; r2) else r1)))
set_option maxHeartbeats 4000000 in
set_option maxRecDepth 100000 in
theorem c_T_lose {B : sh_B} {Z : mx_Z} {N L : Nat} {cI cR cZ : ClassId} (hb : wB B Z N L cI cR cZ) {c r : sh_S} {x : Int32} (hc : rK N r) : sc B Z y_T_lose b_T_lose 2 (some (.boolean)) (rmm 1 22) [.ref (B.2.1 20 0), .int x] (jn c r) (qe (some (.int (v_T_lose N L r x))) (jn c (s_T_lose N L r x))) := by
  refine ct_of (by decide) (Nat.le_of_ble_eq_true rfl) (cat_of rfl) ?_
  intro X ok en _
  have hB := hb.1
  refine mr_lv [(0, .ref (B.2.1 20 0)), (1, .int x)] ⟨rfl, rfl, trivial⟩ ?_
  refine mr_aload_n ok (i := 0) d_T_lose_0 rfl rfl ?_
  refine mr_iconst ok 0 d_T_lose_1 (by decide) ?_
  refine rx_put ok hB rfl fw_T_72 (tm_20 hb) rfl rfl rfl d_T_lose_2 ?_
  refine mr_iload_n ok (i := 1) d_T_lose_5 rfl rfl ?_
  refine mr_if_lt ok 17 d_T_lose_6 (by decide) (fun h6_0 => ?_) (fun h6_0 => ?_)
  · refine mr_iconst ok 0 d_T_lose_17 (by decide) ?_
    refine sx_zret rfl ok en (Nat.le_refl _) (Nat.le_refl _) d_T_lose_18 ?_
    exact ⟨(by first | rfl | (simp only [v_T_lose, if_pos h6_0]; done) | (simp only [v_T_lose, if_pos h6_0]; rfl)), (by first | rfl | (simp only [s_T_lose, if_pos h6_0]; done) | (simp only [s_T_lose, if_pos h6_0]; rfl))⟩
  · refine mr_iload_n ok (i := 1) d_T_lose_9 rfl rfl ?_
    refine mr_aload_n ok (i := 0) d_T_lose_10 rfl rfl ?_
    refine rx_geti ok hB rfl fl_T_82 (tm_20 hb) rfl d_T_lose_11 ?_
    refine mr_icmp_lt ok 19 d_T_lose_14 (by decide) (fun h14_1 => ?_) (fun h14_1 => ?_)
    · refine mr_aload_n ok (i := 0) d_T_lose_19 rfl rfl ?_
      refine mr_iload_n ok (i := 1) d_T_lose_20 rfl rfl ?_
      refine sx_cVv ok hB [_] rfl cb_T_141 cv_T_remove (tm_20 hb) rfl rfl (c_T_remove hb (by exact (kt_rm hc.1 ‹_› ‹_›))) rfl (Nat.le_of_ble_eq_true rfl) (by decide) ⟨Nat.le_refl _, Nat.le_refl _⟩ d_T_lose_21 ?_
      have hc : rK N (s_T_remove N L (sU r 20 0 0 0) x) := rK_T_remove (L := L) (by exact (kt_rm hc.1 ‹_› ‹_›)) hc
      refine mr_iconst ok 1 d_T_lose_24 (by decide) ?_
      refine sx_zret rfl ok en (Nat.le_refl _) (Nat.le_refl _) d_T_lose_25 ?_
      exact ⟨(by first | rfl | (simp only [v_T_lose, if_neg h6_0, if_pos h14_1]; done) | (simp only [v_T_lose, if_neg h6_0, if_pos h14_1]; rfl)), (by first | rfl | (simp only [s_T_lose, if_neg h6_0, if_pos h14_1]; done) | (simp only [s_T_lose, if_neg h6_0, if_pos h14_1]; rfl))⟩
    · refine mr_iconst ok 0 d_T_lose_17 (by decide) ?_
      refine sx_zret rfl ok en (Nat.le_refl _) (Nat.le_refl _) d_T_lose_18 ?_
      exact ⟨(by first | rfl | (simp only [v_T_lose, if_neg h6_0, if_neg h14_1]; done) | (simp only [v_T_lose, if_neg h6_0, if_neg h14_1]; rfl)), (by first | rfl | (simp only [s_T_lose, if_neg h6_0, if_neg h14_1]; done) | (simp only [s_T_lose, if_neg h6_0, if_neg h14_1]; rfl))⟩
def lv_T_twice (N L : Nat) : Nat → sh_S → Int32 → Int32 → Int32
  | 0, _, _, _ => 0
  | n + 1, r, x, a => (if 7 ≤ a then (let r1 := sU r 20 0 21 ((r 20 0 21) + 1); 1) else (let r2 := sU r 40 0 ((((7 * (r 20 0 21)) + a) : Int32).toNatClampNeg) (r 40 0 ((((7 * x) + a) : Int32).toNatClampNeg)); (lv_T_twice N L n r2 x (a + 1))))
def ls_T_twice (N L : Nat) : Nat → sh_S → Int32 → Int32 → sh_S
  | 0, r, _, _ => r
  | n + 1, r, x, a => (if 7 ≤ a then (let r1 := sU r 20 0 21 ((r 20 0 21) + 1); r1) else (let r2 := sU r 40 0 ((((7 * (r 20 0 21)) + a) : Int32).toNatClampNeg) (r 40 0 ((((7 * x) + a) : Int32).toNatClampNeg)); (ls_T_twice N L n r2 x (a + 1))))
set_option maxHeartbeats 4000000 in
set_option maxRecDepth 100000 in
theorem l_T_twice {B : sh_B} {Z : mx_Z} {N L : Nat} {cI cR cZ : ClassId} (hb : wB B Z N L cI cR cZ) {c : sh_S} {x : Int32} {X : mx_C} {V0 : Option Value} {S0 : sh_S} (ok : mx_ok X Z R_T b_T_twice 3 (rmm 0 0)) (en : sx_end B X (some (.boolean)) (rmm 0 0) (qe V0 S0)) : ∀ (n : Nat) (r : sh_S) (a : Int32), ((∃ q j : Nat, q < 200 ∧ r 20 0 21 = nI q ∧ j < q ∧ x = nI j) ∧ ∃ k : Nat, a = nI k ∧ k ≤ 7 ∧ 8 ≤ k + n) → V0 = some (.int (lv_T_twice N L n r x a)) → S0 = (jn c (ls_T_twice N L n r x a)) → sx B X (0, 0) 31 [(0, .ref (B.2.1 20 0)), (1, .int x), (2, .int a)] [] (jn c r) := by
  have hB := hb.1
  intro n
  induction n with
  | zero =>
    intro r a hh _ _
    obtain ⟨-, k, h1, h2, h3⟩ := hh
    omega
  | succ n ih =>
    intro r a hh hV hS
    obtain ⟨⟨q, j, hq, e1, hj, e2⟩, k, h1, h2, h3⟩ := hh
    refine mr_iload_n ok (i := 2) d_T_twice_31 rfl rfl ?_
    refine mr_bipush ok 7 d_T_twice_32 (by decide) ?_
    refine mr_icmp_ge ok 68 d_T_twice_34 (by decide) (fun h34_0 => ?_) (fun h34_0 => ?_)
    · refine mr_aload_n ok (i := 0) d_T_twice_68 rfl rfl ?_
      refine mr_dup ok d_T_twice_69 rfl ?_
      refine rx_geti ok hB rfl fl_T_82 (tm_20 hb) rfl d_T_twice_70 ?_
      refine mr_iconst ok 1 d_T_twice_73 (by decide) ?_
      refine mr_iadd ok d_T_twice_74 ?_
      refine rx_put ok hB rfl fw_T_82 (tm_20 hb) rfl rfl rfl d_T_twice_75 ?_
      refine mr_iconst ok 1 d_T_twice_78 (by decide) ?_
      refine sx_zret rfl ok en (Nat.le_refl _) (Nat.le_refl _) d_T_twice_79 ?_
      exact ⟨(by rw [hV]; simp only [lv_T_twice, if_pos h34_0]), (by rw [hS]; simp only [ls_T_twice, if_pos h34_0])⟩
    · refine mr_aload_n ok (i := 0) d_T_twice_37 rfl rfl ?_
      refine sx_getr ok hB fl_T_62 (tm_20 hb) rfl d_T_twice_38 ?_
      refine mr_bipush ok 7 d_T_twice_41 (by decide) ?_
      refine mr_aload_n ok (i := 0) d_T_twice_43 rfl rfl ?_
      refine rx_geti ok hB rfl fl_T_82 (tm_20 hb) rfl d_T_twice_44 ?_
      refine mr_imul ok d_T_twice_47 ?_
      refine mr_iload_n ok (i := 2) d_T_twice_48 rfl rfl ?_
      refine mr_iadd ok d_T_twice_49 ?_
      refine mr_aload_n ok (i := 0) d_T_twice_50 rfl rfl ?_
      refine sx_getr ok hB fl_T_62 (tm_20 hb) rfl d_T_twice_51 ?_
      refine mr_bipush ok 7 d_T_twice_54 (by decide) ?_
      refine mr_iload_n ok (i := 1) d_T_twice_56 rfl rfl ?_
      refine mr_imul ok d_T_twice_57 ?_
      refine mr_iload_n ok (i := 2) d_T_twice_58 rfl rfl ?_
      refine mr_iadd ok d_T_twice_59 ?_
      refine rx_ialdC ok hB rfl (tm_40 hb) (ty_0 hb) (by have hk := kw_lt h1 h2 ‹_›; rw [h1]; exact kt_d ⟨q, j, by omega, e1, hj, e2⟩ k hk) d_T_twice_60 ?_
      refine rx_iastC ok hB rfl (tm_40 hb) (ty_0 hb) (kw_in hq e1 h1 (kw_lt h1 h2 ‹_›)) d_T_twice_61 ?_
      refine mr_iinc ok _ d_T_twice_62 rfl rfl (by decide) ?_
      refine mr_goto ok 31 d_T_twice_65 (by decide) ?_
      refine mr_lv [(0, .ref (B.2.1 20 0)), (1, .int x), (2, .int (a + 1))] ⟨rfl, rfl, rfl, trivial⟩ ?_
      exact ih _ _ ⟨⟨q, j, hq, e1, hj, e2⟩, kw_rec h1 h2 h3 ‹_›⟩ (hV.trans (by simp only [lv_T_twice, if_neg h34_0])) (hS.trans (by simp only [ls_T_twice, if_neg h34_0]))
def v_T_twice (N L : Nat) (r : sh_S) (x : Int32) : Int32 := (let r1 := sU r 20 0 0 0; (if x < 0 then 0 else (if (r1 20 0 21) ≤ x then 0 else (if (r1 20 0 21) = 200 then 0 else (lv_T_twice N L 8 r1 x 0)))))
def s_T_twice (N L : Nat) (r : sh_S) (x : Int32) : sh_S := (let r1 := sU r 20 0 0 0; (if x < 0 then r1 else (if (r1 20 0 21) ≤ x then r1 else (if (r1 20 0 21) = 200 then r1 else (ls_T_twice N L 8 r1 x 0)))))
set_option maxHeartbeats 4000000 in
set_option maxRecDepth 100000 in
theorem c_T_twice {B : sh_B} {Z : mx_Z} {N L : Nat} {cI cR cZ : ClassId} (hb : wB B Z N L cI cR cZ) {c r : sh_S} {x : Int32} (hc : rK N r) : sc B Z y_T_twice b_T_twice 3 (some (.boolean)) (rmm 0 0) [.ref (B.2.1 20 0), .int x] (jn c r) (qe (some (.int (v_T_twice N L r x))) (jn c (s_T_twice N L r x))) := by
  refine ct_of (by decide) (Nat.le_of_ble_eq_true rfl) (cat_of rfl) ?_
  intro X ok en _
  have hB := hb.1
  refine mr_lv [(0, .ref (B.2.1 20 0)), (1, .int x)] ⟨rfl, rfl, trivial⟩ ?_
  refine mr_aload_n ok (i := 0) d_T_twice_0 rfl rfl ?_
  refine mr_iconst ok 0 d_T_twice_1 (by decide) ?_
  refine rx_put ok hB rfl fw_T_72 (tm_20 hb) rfl rfl rfl d_T_twice_2 ?_
  refine mr_iload_n ok (i := 1) d_T_twice_5 rfl rfl ?_
  refine mr_if_lt ok 27 d_T_twice_6 (by decide) (fun h6_0 => ?_) (fun h6_0 => ?_)
  · refine mr_iconst ok 0 d_T_twice_27 (by decide) ?_
    refine sx_zret rfl ok en (Nat.le_refl _) (Nat.le_refl _) d_T_twice_28 ?_
    exact ⟨(by first | rfl | (simp only [v_T_twice, if_pos h6_0]; done) | (simp only [v_T_twice, if_pos h6_0]; rfl)), (by first | rfl | (simp only [s_T_twice, if_pos h6_0]; done) | (simp only [s_T_twice, if_pos h6_0]; rfl))⟩
  · refine mr_iload_n ok (i := 1) d_T_twice_9 rfl rfl ?_
    refine mr_aload_n ok (i := 0) d_T_twice_10 rfl rfl ?_
    refine rx_geti ok hB rfl fl_T_82 (tm_20 hb) rfl d_T_twice_11 ?_
    refine mr_icmp_ge ok 27 d_T_twice_14 (by decide) (fun h14_1 => ?_) (fun h14_1 => ?_)
    · refine mr_iconst ok 0 d_T_twice_27 (by decide) ?_
      refine sx_zret rfl ok en (Nat.le_refl _) (Nat.le_refl _) d_T_twice_28 ?_
      exact ⟨(by first | rfl | (simp only [v_T_twice, if_neg h6_0, if_pos h14_1]; done) | (simp only [v_T_twice, if_neg h6_0, if_pos h14_1]; rfl)), (by first | rfl | (simp only [s_T_twice, if_neg h6_0, if_pos h14_1]; done) | (simp only [s_T_twice, if_neg h6_0, if_pos h14_1]; rfl))⟩
    · refine mr_aload_n ok (i := 0) d_T_twice_17 rfl rfl ?_
      refine rx_geti ok hB rfl fl_T_82 (tm_20 hb) rfl d_T_twice_18 ?_
      refine mr_sipush ok 200 d_T_twice_21 (by decide) ?_
      refine mr_icmp_ne ok 29 d_T_twice_24 (by decide) (fun h24_2 => ?_) (fun h24_2 => ?_)
      · refine mr_iconst ok 0 d_T_twice_29 (by decide) ?_
        refine mr_istore_n ok (i := 2) d_T_twice_30 rfl (by decide) ?_
        refine mr_lv [(0, .ref (B.2.1 20 0)), (1, .int x), (2, .int 0)] ⟨rfl, rfl, rfl, trivial⟩ ?_
        exact l_T_twice hb ok en 8 _ _ ⟨by obtain ⟨q, j, h1, h2, h3, h4⟩ := kt_rm' hc.1 ‹_› ‹_›; exact ⟨q, j, kt_lt h1 h2 ‹_›, h2, h3, h4⟩, 0, rfl, by decide, by decide⟩ (by simp only [v_T_twice, if_neg h6_0, if_neg h14_1, if_neg h24_2]) (by simp only [s_T_twice, if_neg h6_0, if_neg h14_1, if_neg h24_2])
      · refine mr_iconst ok 0 d_T_twice_27 (by decide) ?_
        refine sx_zret rfl ok en (Nat.le_refl _) (Nat.le_refl _) d_T_twice_28 ?_
        exact ⟨(by first | rfl | (simp only [v_T_twice, if_neg h6_0, if_neg h14_1, if_pos h24_2]; done) | (simp only [v_T_twice, if_neg h6_0, if_neg h14_1, if_pos h24_2]; rfl)), (by first | rfl | (simp only [s_T_twice, if_neg h6_0, if_neg h14_1, if_pos h24_2]; done) | (simp only [s_T_twice, if_neg h6_0, if_neg h14_1, if_pos h24_2]; rfl))⟩
def v_T_turn (N L : Nat) (r : sh_S) (i : Nat) (y : Int32) : Int32 := (let r1 := sU r 20 0 0 0; (if (r1 23 0 i) = y then 0 else (let r2 := sU r1 23 0 i y; (let r3 := s_T_follow N L r2 i; (let r4 := sU r3 39 0 i 0; (let r5 := sU r4 37 0 i (r4 27 0 i); 1))))))
def s_T_turn (N L : Nat) (r : sh_S) (i : Nat) (y : Int32) : sh_S := (let r1 := sU r 20 0 0 0; (if (r1 23 0 i) = y then r1 else (let r2 := sU r1 23 0 i y; (let r3 := s_T_follow N L r2 i; (let r4 := sU r3 39 0 i 0; (let r5 := sU r4 37 0 i (r4 27 0 i); r5))))))
set_option maxHeartbeats 4000000 in
set_option maxRecDepth 100000 in
theorem c_T_turn {B : sh_B} {Z : mx_Z} {N L : Nat} {cI cR cZ : ClassId} (hb : wB B Z N L cI cR cZ) {c r : sh_S} {i : Nat} (hi : i < N) {y : Int32} (hy : vp_nar .boolean y = y) : sc B Z y_T_turn b_T_turn 3 (some (.boolean)) (rmm 1 21) [.ref (B.2.1 20 0), .int (nI i), .int y] (jn c r) (qe (some (.int (v_T_turn N L r i y))) (jn c (s_T_turn N L r i y))) := by
  refine ct_of (by decide) (Nat.le_of_ble_eq_true rfl) (cat_of rfl) ?_
  intro X ok en _
  have hB := hb.1
  refine mr_lv [(0, .ref (B.2.1 20 0)), (1, .int (nI i)), (2, .int y)] ⟨rfl, rfl, rfl, trivial⟩ ?_
  refine mr_aload_n ok (i := 0) d_T_turn_0 rfl rfl ?_
  refine mr_iconst ok 0 d_T_turn_1 (by decide) ?_
  refine rx_put ok hB rfl fw_T_72 (tm_20 hb) rfl rfl rfl d_T_turn_2 ?_
  refine mr_aload_n ok (i := 0) d_T_turn_5 rfl rfl ?_
  refine mr_iload_n ok (i := 1) d_T_turn_6 rfl rfl ?_
  refine sx_cVi ok hB [_] rfl cb_T_75 cv_T_isReplica (tm_20 hb) rfl rfl (c_T_isReplica hb hi) rfl (Nat.le_of_ble_eq_true rfl) (by decide) ⟨Nat.le_refl _, Nat.le_refl _⟩ d_T_turn_7 ?_
  refine mr_if_eq ok 35 d_T_turn_10 (by decide) (fun h => absurd h (by decide)) (fun _ => ?_)
  refine mr_aload_n ok (i := 0) d_T_turn_13 rfl rfl ?_
  refine sx_getr ok hB fl_T_7 (tm_20 hb) rfl d_T_turn_14 ?_
  refine mr_aload_n ok (i := 0) d_T_turn_17 rfl rfl ?_
  refine mr_iload_n ok (i := 1) d_T_turn_18 rfl rfl ?_
  refine sx_cVi ok hB [_] rfl cb_T_75 cv_T_isReplica (tm_20 hb) rfl rfl (c_T_isReplica hb hi) rfl (Nat.le_of_ble_eq_true rfl) (by decide) ⟨Nat.le_refl _, Nat.le_refl _⟩ d_T_turn_19 ?_
  refine mr_if_eq ok 29 d_T_turn_22 (by decide) (fun h => absurd h (by decide)) (fun _ => ?_)
  refine mr_iload_n ok (i := 1) d_T_turn_25 rfl rfl ?_
  refine mr_goto ok 30 d_T_turn_26 (by decide) ?_
  refine rx_zald ok hB rfl (tm_23 hb) (ty_2 hb) rfl (lt5 hb hi) (by decide) d_T_turn_30 ?_
  refine mr_iload_n ok (i := 2) d_T_turn_31 rfl rfl ?_
  refine mr_icmp_ne ok 37 d_T_turn_32 (by decide) (fun h32_0 => ?_) (fun h32_0 => ?_)
  · refine mr_aload_n ok (i := 0) d_T_turn_37 rfl rfl ?_
    refine sx_getr ok hB fl_T_7 (tm_20 hb) rfl d_T_turn_38 ?_
    refine mr_iload_n ok (i := 1) d_T_turn_41 rfl rfl ?_
    refine mr_iload_n ok (i := 2) d_T_turn_42 rfl rfl ?_
    refine rx_zast ok hB rfl (tm_23 hb) (ty_2 hb) rfl (lt5 hb hi) (by decide) hy d_T_turn_43 ?_
    refine mr_aload_n ok (i := 0) d_T_turn_44 rfl rfl ?_
    refine mr_iload_n ok (i := 1) d_T_turn_45 rfl rfl ?_
    refine sx_cVv ok hB [_] rfl cb_T_92 cv_T_follow (tm_20 hb) rfl rfl (c_T_follow hb hi) rfl (Nat.le_of_ble_eq_true rfl) (by decide) ⟨Nat.le_refl _, Nat.le_refl _⟩ d_T_turn_46 ?_
    refine mr_aload_n ok (i := 0) d_T_turn_49 rfl rfl ?_
    refine sx_getr ok hB fl_T_59 (tm_20 hb) rfl d_T_turn_50 ?_
    refine mr_iload_n ok (i := 1) d_T_turn_53 rfl rfl ?_
    refine mr_iconst ok 0 d_T_turn_54 (by decide) ?_
    refine rx_iast ok hB rfl (tm_39 hb) (ty_0 hb) rfl (lt5 hb hi) (by decide) d_T_turn_55 ?_
    refine mr_aload_n ok (i := 0) d_T_turn_56 rfl rfl ?_
    refine sx_getr ok hB fl_T_53 (tm_20 hb) rfl d_T_turn_57 ?_
    refine mr_iload_n ok (i := 1) d_T_turn_60 rfl rfl ?_
    refine mr_aload_n ok (i := 0) d_T_turn_61 rfl rfl ?_
    refine sx_getr ok hB fl_T_23 (tm_20 hb) rfl d_T_turn_62 ?_
    refine mr_iload_n ok (i := 1) d_T_turn_65 rfl rfl ?_
    refine rx_iald ok hB rfl (tm_27 hb) (ty_0 hb) rfl (lt5 hb hi) (by decide) d_T_turn_66 ?_
    refine rx_iast ok hB rfl (tm_37 hb) (ty_0 hb) rfl (lt5 hb hi) (by decide) d_T_turn_67 ?_
    refine mr_iconst ok 1 d_T_turn_68 (by decide) ?_
    refine sx_zret rfl ok en (Nat.le_refl _) (Nat.le_refl _) d_T_turn_69 ?_
    exact ⟨(by first | rfl | (simp only [v_T_turn, if_neg h32_0]; done) | (simp only [v_T_turn, if_neg h32_0]; rfl)), (by first | rfl | (simp only [s_T_turn, if_neg h32_0]; done) | (simp only [s_T_turn, if_neg h32_0]; rfl))⟩
  · refine mr_iconst ok 0 d_T_turn_35 (by decide) ?_
    refine sx_zret rfl ok en (Nat.le_refl _) (Nat.le_refl _) d_T_turn_36 ?_
    exact ⟨(by first | rfl | (simp only [v_T_turn, if_pos h32_0]; done) | (simp only [v_T_turn, if_pos h32_0]; rfl)), (by first | rfl | (simp only [s_T_turn, if_pos h32_0]; done) | (simp only [s_T_turn, if_pos h32_0]; rfl))⟩
def v_T_turn_o (N L : Nat) (r : sh_S) (x : Int32) (y : Int32) : Int32 := (let r1 := sU r 20 0 0 0; 0)
def s_T_turn_o (N L : Nat) (r : sh_S) (x : Int32) (y : Int32) : sh_S := (let r1 := sU r 20 0 0 0; r1)
set_option maxHeartbeats 4000000 in
set_option maxRecDepth 100000 in
theorem c_T_turn_o {B : sh_B} {Z : mx_Z} {N L : Nat} {cI cR cZ : ClassId} (hb : wB B Z N L cI cR cZ) {c r : sh_S} {x : Int32} {y : Int32} (ho : ¬ kF N x) : sc B Z y_T_turn b_T_turn 3 (some (.boolean)) (rmm 1 21) [.ref (B.2.1 20 0), .int x, .int y] (jn c r) (qe (some (.int (v_T_turn_o N L r x y))) (jn c (s_T_turn_o N L r x y))) := by
  refine ct_of (by decide) (Nat.le_of_ble_eq_true rfl) (cat_of rfl) ?_
  intro X ok en _
  have hB := hb.1
  refine mr_lv [(0, .ref (B.2.1 20 0)), (1, .int x), (2, .int y)] ⟨rfl, rfl, rfl, trivial⟩ ?_
  refine mr_aload_n ok (i := 0) d_T_turn_0 rfl rfl ?_
  refine mr_iconst ok 0 d_T_turn_1 (by decide) ?_
  refine rx_put ok hB rfl fw_T_72 (tm_20 hb) rfl rfl rfl d_T_turn_2 ?_
  refine mr_aload_n ok (i := 0) d_T_turn_5 rfl rfl ?_
  refine mr_iload_n ok (i := 1) d_T_turn_6 rfl rfl ?_
  refine sx_cVi ok hB [_] rfl cb_T_75 cv_T_isReplica (tm_20 hb) rfl rfl (c_T_isReplica_o hb ho) rfl (Nat.le_of_ble_eq_true rfl) (by decide) ⟨Nat.le_refl _, Nat.le_refl _⟩ d_T_turn_7 ?_
  refine mr_if_eq ok 35 d_T_turn_10 (by decide) (fun _ => ?_) (fun h => absurd h (by decide))
  refine mr_iconst ok 0 d_T_turn_35 (by decide) ?_
  refine sx_zret rfl ok en (Nat.le_refl _) (Nat.le_refl _) d_T_turn_36 ?_
  exact ⟨(by first | rfl | (simp only [v_T_turn_o]; done) | (simp only [v_T_turn_o]; rfl)), (by first | rfl | (simp only [s_T_turn_o]; done) | (simp only [s_T_turn_o]; rfl))⟩
def v_T_replica (N L : Nat) (r : sh_S) (i : Nat) (y : Int32) : Int32 := (let r1 := sU r 20 0 0 0; (if y < 0 then (-1) else (if 12 < y then (-1) else (if y ≤ 6 then (if y = 0 then (if (r1 23 0 i) = 0 then 0 else 1) else (if y = 1 then (r1 24 0 i) else (if y = 2 then (r1 25 0 i) else (if y = 3 then (r1 26 0 i) else (if y = 4 then (r1 27 0 i) else (if y = 5 then (if (r1 29 0 i) ≤ 0 then (-1) else (r1 28 0 i)) else (if y = 6 then (r1 29 0 i) else (if y = 7 then (r1 31 0 i) else (if y = 8 then (r1 32 0 i) else (if y = 9 then (if (r1 31 0 i) = 2 then (if (r1 34 0 i) = 0 then 0 else (r1 33 0 i)) else (r1 33 0 i)) else (if y = 10 then (r1 37 0 i) else (if y = 11 then (r1 39 0 i) else (r1 34 0 i))))))))))))) else (if (r1 23 0 i) = 0 then (-1) else (if y = 0 then 1 else (if y = 1 then (r1 24 0 i) else (if y = 2 then (r1 25 0 i) else (if y = 3 then (r1 26 0 i) else (if y = 4 then (r1 27 0 i) else (if y = 5 then (if (r1 29 0 i) ≤ 0 then (-1) else (r1 28 0 i)) else (if y = 6 then (r1 29 0 i) else (if y = 7 then (r1 31 0 i) else (if y = 8 then (r1 32 0 i) else (if y = 9 then (if (r1 31 0 i) = 2 then (if (r1 34 0 i) = 0 then 0 else (r1 33 0 i)) else (r1 33 0 i)) else (if y = 10 then (r1 37 0 i) else (if y = 11 then (r1 39 0 i) else (r1 34 0 i))))))))))))))))))
def s_T_replica (N L : Nat) (r : sh_S) (i : Nat) (y : Int32) : sh_S := (let r1 := sU r 20 0 0 0; (if y < 0 then r1 else (if 12 < y then r1 else (if y ≤ 6 then (if y = 0 then (if (r1 23 0 i) = 0 then r1 else r1) else (if y = 1 then r1 else (if y = 2 then r1 else (if y = 3 then r1 else (if y = 4 then r1 else (if y = 5 then (if (r1 29 0 i) ≤ 0 then r1 else r1) else (if y = 6 then r1 else (if y = 7 then r1 else (if y = 8 then r1 else (if y = 9 then (if (r1 31 0 i) = 2 then (if (r1 34 0 i) = 0 then r1 else r1) else r1) else (if y = 10 then r1 else (if y = 11 then r1 else r1)))))))))))) else (if (r1 23 0 i) = 0 then r1 else (if y = 0 then r1 else (if y = 1 then r1 else (if y = 2 then r1 else (if y = 3 then r1 else (if y = 4 then r1 else (if y = 5 then (if (r1 29 0 i) ≤ 0 then r1 else r1) else (if y = 6 then r1 else (if y = 7 then r1 else (if y = 8 then r1 else (if y = 9 then (if (r1 31 0 i) = 2 then (if (r1 34 0 i) = 0 then r1 else r1) else r1) else (if y = 10 then r1 else (if y = 11 then r1 else r1)))))))))))))))))
set_option maxHeartbeats 4000000 in
set_option maxRecDepth 100000 in
theorem c_T_replica {B : sh_B} {Z : mx_Z} {N L : Nat} {cI cR cZ : ClassId} (hb : wB B Z N L cI cR cZ) {c r : sh_S} {i : Nat} (hi : i < N) {y : Int32} : sc B Z y_T_replica b_T_replica 3 (some (.int)) (rmm 1 21) [.ref (B.2.1 20 0), .int (nI i), .int y] (jn c r) (qe (some (.int (v_T_replica N L r i y))) (jn c (s_T_replica N L r i y))) := by
  refine ct_of (by decide) (Nat.le_of_ble_eq_true rfl) (cat_of rfl) ?_
  intro X ok en _
  have hB := hb.1
  refine mr_lv [(0, .ref (B.2.1 20 0)), (1, .int (nI i)), (2, .int y)] ⟨rfl, rfl, rfl, trivial⟩ ?_
  refine mr_aload_n ok (i := 0) d_T_replica_0 rfl rfl ?_
  refine mr_iconst ok 0 d_T_replica_1 (by decide) ?_
  refine rx_put ok hB rfl fw_T_72 (tm_20 hb) rfl rfl rfl d_T_replica_2 ?_
  refine mr_aload_n ok (i := 0) d_T_replica_5 rfl rfl ?_
  refine mr_iload_n ok (i := 1) d_T_replica_6 rfl rfl ?_
  refine sx_cVi ok hB [_] rfl cb_T_75 cv_T_isReplica (tm_20 hb) rfl rfl (c_T_isReplica hb hi) rfl (Nat.le_of_ble_eq_true rfl) (by decide) ⟨Nat.le_refl _, Nat.le_refl _⟩ d_T_replica_7 ?_
  refine mr_if_eq ok 50 d_T_replica_10 (by decide) (fun h => absurd h (by decide)) (fun _ => ?_)
  refine mr_iload_n ok (i := 2) d_T_replica_13 rfl rfl ?_
  refine mr_if_lt ok 50 d_T_replica_14 (by decide) (fun h14_0 => ?_) (fun h14_0 => ?_)
  · refine mr_iconst ok (-1) d_T_replica_50 (by decide) ?_
    refine sx_iret ok en (Nat.le_refl _) (Nat.le_refl _) d_T_replica_51 ?_
    exact ⟨(by first | rfl | (simp only [v_T_replica, if_pos h14_0]; done) | (simp only [v_T_replica, if_pos h14_0]; rfl)), (by first | rfl | (simp only [s_T_replica, if_pos h14_0]; done) | (simp only [s_T_replica, if_pos h14_0]; rfl))⟩
  · refine mr_iload_n ok (i := 2) d_T_replica_17 rfl rfl ?_
    refine mr_bipush ok 12 d_T_replica_18 (by decide) ?_
    refine mr_icmp_gt ok 50 d_T_replica_20 (by decide) (fun h20_1 => ?_) (fun h20_1 => ?_)
    · refine mr_iconst ok (-1) d_T_replica_50 (by decide) ?_
      refine sx_iret ok en (Nat.le_refl _) (Nat.le_refl _) d_T_replica_51 ?_
      exact ⟨(by first | rfl | (simp only [v_T_replica, if_neg h14_0, if_pos h20_1]; done) | (simp only [v_T_replica, if_neg h14_0, if_pos h20_1]; rfl)), (by first | rfl | (simp only [s_T_replica, if_neg h14_0, if_pos h20_1]; done) | (simp only [s_T_replica, if_neg h14_0, if_pos h20_1]; rfl))⟩
    · refine mr_iload_n ok (i := 2) d_T_replica_23 rfl rfl ?_
      refine mr_bipush ok 6 d_T_replica_24 (by decide) ?_
      refine mr_icmp_le ok 52 d_T_replica_26 (by decide) (fun h26_2 => ?_) (fun h26_2 => ?_)
      · refine mr_iload_n ok (i := 2) d_T_replica_52 rfl rfl ?_
        by_cases h53_3_0 : y = 0
        · refine mr_tableIn (off := 63) ok 116 d_T_replica_53 (by rw [h53_3_0]; decide) (by rw [h53_3_0]; decide) (by rw [h53_3_0]; decide) (by decide) ?_
          refine mr_aload_n ok (i := 0) d_T_replica_116 rfl rfl ?_
          refine sx_getr ok hB fl_T_7 (tm_20 hb) rfl d_T_replica_117 ?_
          refine mr_iload_n ok (i := 1) d_T_replica_120 rfl rfl ?_
          refine rx_zald ok hB rfl (tm_23 hb) (ty_2 hb) rfl (lt5 hb hi) (by decide) d_T_replica_121 ?_
          refine mr_if_eq ok 129 d_T_replica_122 (by decide) (fun h122_4 => ?_) (fun h122_4 => ?_)
          · refine mr_iconst ok 0 d_T_replica_129 (by decide) ?_
            refine sx_iret ok en (Nat.le_refl _) (Nat.le_refl _) d_T_replica_130 ?_
            exact ⟨(by first | rfl | (simp only [v_T_replica, if_neg h14_0, if_neg h20_1, if_pos h26_2, if_pos h53_3_0, if_pos h122_4]; done) | (simp only [v_T_replica, if_neg h14_0, if_neg h20_1, if_pos h26_2, if_pos h53_3_0, if_pos h122_4]; rfl)), (by first | rfl | (simp only [s_T_replica, if_neg h14_0, if_neg h20_1, if_pos h26_2, if_pos h53_3_0, if_pos h122_4]; done) | (simp only [s_T_replica, if_neg h14_0, if_neg h20_1, if_pos h26_2, if_pos h53_3_0, if_pos h122_4]; rfl))⟩
          · refine mr_iconst ok 1 d_T_replica_125 (by decide) ?_
            refine mr_goto ok 130 d_T_replica_126 (by decide) ?_
            refine sx_iret ok en (Nat.le_refl _) (Nat.le_refl _) d_T_replica_130 ?_
            exact ⟨(by first | rfl | (simp only [v_T_replica, if_neg h14_0, if_neg h20_1, if_pos h26_2, if_pos h53_3_0, if_neg h122_4]; done) | (simp only [v_T_replica, if_neg h14_0, if_neg h20_1, if_pos h26_2, if_pos h53_3_0, if_neg h122_4]; rfl)), (by first | rfl | (simp only [s_T_replica, if_neg h14_0, if_neg h20_1, if_pos h26_2, if_pos h53_3_0, if_neg h122_4]; done) | (simp only [s_T_replica, if_neg h14_0, if_neg h20_1, if_pos h26_2, if_pos h53_3_0, if_neg h122_4]; rfl))⟩
        by_cases h53_3_1 : y = 1
        · refine mr_tableIn (off := 78) ok 131 d_T_replica_53 (by rw [h53_3_1]; decide) (by rw [h53_3_1]; decide) (by rw [h53_3_1]; decide) (by decide) ?_
          refine mr_aload_n ok (i := 0) d_T_replica_131 rfl rfl ?_
          refine sx_getr ok hB fl_T_13 (tm_20 hb) rfl d_T_replica_132 ?_
          refine mr_iload_n ok (i := 1) d_T_replica_135 rfl rfl ?_
          refine rx_iald ok hB rfl (tm_24 hb) (ty_0 hb) rfl (lt5 hb hi) (by decide) d_T_replica_136 ?_
          refine sx_iret ok en (Nat.le_refl _) (Nat.le_refl _) d_T_replica_137 ?_
          exact ⟨(by first | rfl | (simp only [v_T_replica, if_neg h14_0, if_neg h20_1, if_pos h26_2, if_neg h53_3_0, if_pos h53_3_1]; done) | (simp only [v_T_replica, if_neg h14_0, if_neg h20_1, if_pos h26_2, if_neg h53_3_0, if_pos h53_3_1]; rfl)), (by first | rfl | (simp only [s_T_replica, if_neg h14_0, if_neg h20_1, if_pos h26_2, if_neg h53_3_0, if_pos h53_3_1]; done) | (simp only [s_T_replica, if_neg h14_0, if_neg h20_1, if_pos h26_2, if_neg h53_3_0, if_pos h53_3_1]; rfl))⟩
        by_cases h53_3_2 : y = 2
        · refine mr_tableIn (off := 85) ok 138 d_T_replica_53 (by rw [h53_3_2]; decide) (by rw [h53_3_2]; decide) (by rw [h53_3_2]; decide) (by decide) ?_
          refine mr_aload_n ok (i := 0) d_T_replica_138 rfl rfl ?_
          refine sx_getr ok hB fl_T_17 (tm_20 hb) rfl d_T_replica_139 ?_
          refine mr_iload_n ok (i := 1) d_T_replica_142 rfl rfl ?_
          refine rx_iald ok hB rfl (tm_25 hb) (ty_0 hb) rfl (lt5 hb hi) (by decide) d_T_replica_143 ?_
          refine sx_iret ok en (Nat.le_refl _) (Nat.le_refl _) d_T_replica_144 ?_
          exact ⟨(by first | rfl | (simp only [v_T_replica, if_neg h14_0, if_neg h20_1, if_pos h26_2, if_neg h53_3_0, if_neg h53_3_1, if_pos h53_3_2]; done) | (simp only [v_T_replica, if_neg h14_0, if_neg h20_1, if_pos h26_2, if_neg h53_3_0, if_neg h53_3_1, if_pos h53_3_2]; rfl)), (by first | rfl | (simp only [s_T_replica, if_neg h14_0, if_neg h20_1, if_pos h26_2, if_neg h53_3_0, if_neg h53_3_1, if_pos h53_3_2]; done) | (simp only [s_T_replica, if_neg h14_0, if_neg h20_1, if_pos h26_2, if_neg h53_3_0, if_neg h53_3_1, if_pos h53_3_2]; rfl))⟩
        by_cases h53_3_3 : y = 3
        · refine mr_tableIn (off := 92) ok 145 d_T_replica_53 (by rw [h53_3_3]; decide) (by rw [h53_3_3]; decide) (by rw [h53_3_3]; decide) (by decide) ?_
          refine mr_aload_n ok (i := 0) d_T_replica_145 rfl rfl ?_
          refine sx_getr ok hB fl_T_20 (tm_20 hb) rfl d_T_replica_146 ?_
          refine mr_iload_n ok (i := 1) d_T_replica_149 rfl rfl ?_
          refine rx_iald ok hB rfl (tm_26 hb) (ty_0 hb) rfl (lt5 hb hi) (by decide) d_T_replica_150 ?_
          refine sx_iret ok en (Nat.le_refl _) (Nat.le_refl _) d_T_replica_151 ?_
          exact ⟨(by first | rfl | (simp only [v_T_replica, if_neg h14_0, if_neg h20_1, if_pos h26_2, if_neg h53_3_0, if_neg h53_3_1, if_neg h53_3_2, if_pos h53_3_3]; done) | (simp only [v_T_replica, if_neg h14_0, if_neg h20_1, if_pos h26_2, if_neg h53_3_0, if_neg h53_3_1, if_neg h53_3_2, if_pos h53_3_3]; rfl)), (by first | rfl | (simp only [s_T_replica, if_neg h14_0, if_neg h20_1, if_pos h26_2, if_neg h53_3_0, if_neg h53_3_1, if_neg h53_3_2, if_pos h53_3_3]; done) | (simp only [s_T_replica, if_neg h14_0, if_neg h20_1, if_pos h26_2, if_neg h53_3_0, if_neg h53_3_1, if_neg h53_3_2, if_pos h53_3_3]; rfl))⟩
        by_cases h53_3_4 : y = 4
        · refine mr_tableIn (off := 99) ok 152 d_T_replica_53 (by rw [h53_3_4]; decide) (by rw [h53_3_4]; decide) (by rw [h53_3_4]; decide) (by decide) ?_
          refine mr_aload_n ok (i := 0) d_T_replica_152 rfl rfl ?_
          refine sx_getr ok hB fl_T_23 (tm_20 hb) rfl d_T_replica_153 ?_
          refine mr_iload_n ok (i := 1) d_T_replica_156 rfl rfl ?_
          refine rx_iald ok hB rfl (tm_27 hb) (ty_0 hb) rfl (lt5 hb hi) (by decide) d_T_replica_157 ?_
          refine sx_iret ok en (Nat.le_refl _) (Nat.le_refl _) d_T_replica_158 ?_
          exact ⟨(by first | rfl | (simp only [v_T_replica, if_neg h14_0, if_neg h20_1, if_pos h26_2, if_neg h53_3_0, if_neg h53_3_1, if_neg h53_3_2, if_neg h53_3_3, if_pos h53_3_4]; done) | (simp only [v_T_replica, if_neg h14_0, if_neg h20_1, if_pos h26_2, if_neg h53_3_0, if_neg h53_3_1, if_neg h53_3_2, if_neg h53_3_3, if_pos h53_3_4]; rfl)), (by first | rfl | (simp only [s_T_replica, if_neg h14_0, if_neg h20_1, if_pos h26_2, if_neg h53_3_0, if_neg h53_3_1, if_neg h53_3_2, if_neg h53_3_3, if_pos h53_3_4]; done) | (simp only [s_T_replica, if_neg h14_0, if_neg h20_1, if_pos h26_2, if_neg h53_3_0, if_neg h53_3_1, if_neg h53_3_2, if_neg h53_3_3, if_pos h53_3_4]; rfl))⟩
        by_cases h53_3_5 : y = 5
        · refine mr_tableIn (off := 106) ok 159 d_T_replica_53 (by rw [h53_3_5]; decide) (by rw [h53_3_5]; decide) (by rw [h53_3_5]; decide) (by decide) ?_
          refine mr_aload_n ok (i := 0) d_T_replica_159 rfl rfl ?_
          refine sx_getr ok hB fl_T_29 (tm_20 hb) rfl d_T_replica_160 ?_
          refine mr_iload_n ok (i := 1) d_T_replica_163 rfl rfl ?_
          refine rx_iald ok hB rfl (tm_29 hb) (ty_0 hb) rfl (lt5 hb hi) (by decide) d_T_replica_164 ?_
          refine mr_if_le ok 177 d_T_replica_165 (by decide) (fun h165_9 => ?_) (fun h165_9 => ?_)
          · refine mr_iconst ok (-1) d_T_replica_177 (by decide) ?_
            refine sx_iret ok en (Nat.le_refl _) (Nat.le_refl _) d_T_replica_178 ?_
            exact ⟨(by first | rfl | (simp only [v_T_replica, if_neg h14_0, if_neg h20_1, if_pos h26_2, if_neg h53_3_0, if_neg h53_3_1, if_neg h53_3_2, if_neg h53_3_3, if_neg h53_3_4, if_pos h53_3_5, if_pos h165_9]; done) | (simp only [v_T_replica, if_neg h14_0, if_neg h20_1, if_pos h26_2, if_neg h53_3_0, if_neg h53_3_1, if_neg h53_3_2, if_neg h53_3_3, if_neg h53_3_4, if_pos h53_3_5, if_pos h165_9]; rfl)), (by first | rfl | (simp only [s_T_replica, if_neg h14_0, if_neg h20_1, if_pos h26_2, if_neg h53_3_0, if_neg h53_3_1, if_neg h53_3_2, if_neg h53_3_3, if_neg h53_3_4, if_pos h53_3_5, if_pos h165_9]; done) | (simp only [s_T_replica, if_neg h14_0, if_neg h20_1, if_pos h26_2, if_neg h53_3_0, if_neg h53_3_1, if_neg h53_3_2, if_neg h53_3_3, if_neg h53_3_4, if_pos h53_3_5, if_pos h165_9]; rfl))⟩
          · refine mr_aload_n ok (i := 0) d_T_replica_168 rfl rfl ?_
            refine sx_getr ok hB fl_T_26 (tm_20 hb) rfl d_T_replica_169 ?_
            refine mr_iload_n ok (i := 1) d_T_replica_172 rfl rfl ?_
            refine rx_iald ok hB rfl (tm_28 hb) (ty_0 hb) rfl (lt5 hb hi) (by decide) d_T_replica_173 ?_
            refine mr_goto ok 178 d_T_replica_174 (by decide) ?_
            refine sx_iret ok en (Nat.le_refl _) (Nat.le_refl _) d_T_replica_178 ?_
            exact ⟨(by first | rfl | (simp only [v_T_replica, if_neg h14_0, if_neg h20_1, if_pos h26_2, if_neg h53_3_0, if_neg h53_3_1, if_neg h53_3_2, if_neg h53_3_3, if_neg h53_3_4, if_pos h53_3_5, if_neg h165_9]; done) | (simp only [v_T_replica, if_neg h14_0, if_neg h20_1, if_pos h26_2, if_neg h53_3_0, if_neg h53_3_1, if_neg h53_3_2, if_neg h53_3_3, if_neg h53_3_4, if_pos h53_3_5, if_neg h165_9]; rfl)), (by first | rfl | (simp only [s_T_replica, if_neg h14_0, if_neg h20_1, if_pos h26_2, if_neg h53_3_0, if_neg h53_3_1, if_neg h53_3_2, if_neg h53_3_3, if_neg h53_3_4, if_pos h53_3_5, if_neg h165_9]; done) | (simp only [s_T_replica, if_neg h14_0, if_neg h20_1, if_pos h26_2, if_neg h53_3_0, if_neg h53_3_1, if_neg h53_3_2, if_neg h53_3_3, if_neg h53_3_4, if_pos h53_3_5, if_neg h165_9]; rfl))⟩
        by_cases h53_3_6 : y = 6
        · refine mr_tableIn (off := 126) ok 179 d_T_replica_53 (by rw [h53_3_6]; decide) (by rw [h53_3_6]; decide) (by rw [h53_3_6]; decide) (by decide) ?_
          refine mr_aload_n ok (i := 0) d_T_replica_179 rfl rfl ?_
          refine sx_getr ok hB fl_T_29 (tm_20 hb) rfl d_T_replica_180 ?_
          refine mr_iload_n ok (i := 1) d_T_replica_183 rfl rfl ?_
          refine rx_iald ok hB rfl (tm_29 hb) (ty_0 hb) rfl (lt5 hb hi) (by decide) d_T_replica_184 ?_
          refine sx_iret ok en (Nat.le_refl _) (Nat.le_refl _) d_T_replica_185 ?_
          exact ⟨(by first | rfl | (simp only [v_T_replica, if_neg h14_0, if_neg h20_1, if_pos h26_2, if_neg h53_3_0, if_neg h53_3_1, if_neg h53_3_2, if_neg h53_3_3, if_neg h53_3_4, if_neg h53_3_5, if_pos h53_3_6]; done) | (simp only [v_T_replica, if_neg h14_0, if_neg h20_1, if_pos h26_2, if_neg h53_3_0, if_neg h53_3_1, if_neg h53_3_2, if_neg h53_3_3, if_neg h53_3_4, if_neg h53_3_5, if_pos h53_3_6]; rfl)), (by first | rfl | (simp only [s_T_replica, if_neg h14_0, if_neg h20_1, if_pos h26_2, if_neg h53_3_0, if_neg h53_3_1, if_neg h53_3_2, if_neg h53_3_3, if_neg h53_3_4, if_neg h53_3_5, if_pos h53_3_6]; done) | (simp only [s_T_replica, if_neg h14_0, if_neg h20_1, if_pos h26_2, if_neg h53_3_0, if_neg h53_3_1, if_neg h53_3_2, if_neg h53_3_3, if_neg h53_3_4, if_neg h53_3_5, if_pos h53_3_6]; rfl))⟩
        by_cases h53_3_7 : y = 7
        · refine mr_tableIn (off := 133) ok 186 d_T_replica_53 (by rw [h53_3_7]; decide) (by rw [h53_3_7]; decide) (by rw [h53_3_7]; decide) (by decide) ?_
          refine mr_aload_n ok (i := 0) d_T_replica_186 rfl rfl ?_
          refine sx_getr ok hB fl_T_35 (tm_20 hb) rfl d_T_replica_187 ?_
          refine mr_iload_n ok (i := 1) d_T_replica_190 rfl rfl ?_
          refine rx_iald ok hB rfl (tm_31 hb) (ty_0 hb) rfl (lt5 hb hi) (by decide) d_T_replica_191 ?_
          refine sx_iret ok en (Nat.le_refl _) (Nat.le_refl _) d_T_replica_192 ?_
          exact ⟨(by first | rfl | (simp only [v_T_replica, if_neg h14_0, if_neg h20_1, if_pos h26_2, if_neg h53_3_0, if_neg h53_3_1, if_neg h53_3_2, if_neg h53_3_3, if_neg h53_3_4, if_neg h53_3_5, if_neg h53_3_6, if_pos h53_3_7]; done) | (simp only [v_T_replica, if_neg h14_0, if_neg h20_1, if_pos h26_2, if_neg h53_3_0, if_neg h53_3_1, if_neg h53_3_2, if_neg h53_3_3, if_neg h53_3_4, if_neg h53_3_5, if_neg h53_3_6, if_pos h53_3_7]; rfl)), (by first | rfl | (simp only [s_T_replica, if_neg h14_0, if_neg h20_1, if_pos h26_2, if_neg h53_3_0, if_neg h53_3_1, if_neg h53_3_2, if_neg h53_3_3, if_neg h53_3_4, if_neg h53_3_5, if_neg h53_3_6, if_pos h53_3_7]; done) | (simp only [s_T_replica, if_neg h14_0, if_neg h20_1, if_pos h26_2, if_neg h53_3_0, if_neg h53_3_1, if_neg h53_3_2, if_neg h53_3_3, if_neg h53_3_4, if_neg h53_3_5, if_neg h53_3_6, if_pos h53_3_7]; rfl))⟩
        by_cases h53_3_8 : y = 8
        · refine mr_tableIn (off := 140) ok 193 d_T_replica_53 (by rw [h53_3_8]; decide) (by rw [h53_3_8]; decide) (by rw [h53_3_8]; decide) (by decide) ?_
          refine mr_aload_n ok (i := 0) d_T_replica_193 rfl rfl ?_
          refine sx_getr ok hB fl_T_38 (tm_20 hb) rfl d_T_replica_194 ?_
          refine mr_iload_n ok (i := 1) d_T_replica_197 rfl rfl ?_
          refine rx_iald ok hB rfl (tm_32 hb) (ty_0 hb) rfl (lt5 hb hi) (by decide) d_T_replica_198 ?_
          refine sx_iret ok en (Nat.le_refl _) (Nat.le_refl _) d_T_replica_199 ?_
          exact ⟨(by first | rfl | (simp only [v_T_replica, if_neg h14_0, if_neg h20_1, if_pos h26_2, if_neg h53_3_0, if_neg h53_3_1, if_neg h53_3_2, if_neg h53_3_3, if_neg h53_3_4, if_neg h53_3_5, if_neg h53_3_6, if_neg h53_3_7, if_pos h53_3_8]; done) | (simp only [v_T_replica, if_neg h14_0, if_neg h20_1, if_pos h26_2, if_neg h53_3_0, if_neg h53_3_1, if_neg h53_3_2, if_neg h53_3_3, if_neg h53_3_4, if_neg h53_3_5, if_neg h53_3_6, if_neg h53_3_7, if_pos h53_3_8]; rfl)), (by first | rfl | (simp only [s_T_replica, if_neg h14_0, if_neg h20_1, if_pos h26_2, if_neg h53_3_0, if_neg h53_3_1, if_neg h53_3_2, if_neg h53_3_3, if_neg h53_3_4, if_neg h53_3_5, if_neg h53_3_6, if_neg h53_3_7, if_pos h53_3_8]; done) | (simp only [s_T_replica, if_neg h14_0, if_neg h20_1, if_pos h26_2, if_neg h53_3_0, if_neg h53_3_1, if_neg h53_3_2, if_neg h53_3_3, if_neg h53_3_4, if_neg h53_3_5, if_neg h53_3_6, if_neg h53_3_7, if_pos h53_3_8]; rfl))⟩
        by_cases h53_3_9 : y = 9
        · refine mr_tableIn (off := 147) ok 200 d_T_replica_53 (by rw [h53_3_9]; decide) (by rw [h53_3_9]; decide) (by rw [h53_3_9]; decide) (by decide) ?_
          refine mr_aload_n ok (i := 0) d_T_replica_200 rfl rfl ?_
          refine sx_getr ok hB fl_T_35 (tm_20 hb) rfl d_T_replica_201 ?_
          refine mr_iload_n ok (i := 1) d_T_replica_204 rfl rfl ?_
          refine rx_iald ok hB rfl (tm_31 hb) (ty_0 hb) rfl (lt5 hb hi) (by decide) d_T_replica_205 ?_
          refine mr_iconst ok 2 d_T_replica_206 (by decide) ?_
          refine mr_icmp_ne ok 223 d_T_replica_207 (by decide) (fun h207_13 => ?_) (fun h207_13 => ?_)
          · refine mr_aload_n ok (i := 0) d_T_replica_223 rfl rfl ?_
            refine sx_getr ok hB fl_T_41 (tm_20 hb) rfl d_T_replica_224 ?_
            refine mr_iload_n ok (i := 1) d_T_replica_227 rfl rfl ?_
            refine rx_iald ok hB rfl (tm_33 hb) (ty_0 hb) rfl (lt5 hb hi) (by decide) d_T_replica_228 ?_
            refine sx_iret ok en (Nat.le_refl _) (Nat.le_refl _) d_T_replica_229 ?_
            exact ⟨(by first | rfl | (simp only [v_T_replica, if_neg h14_0, if_neg h20_1, if_pos h26_2, if_neg h53_3_0, if_neg h53_3_1, if_neg h53_3_2, if_neg h53_3_3, if_neg h53_3_4, if_neg h53_3_5, if_neg h53_3_6, if_neg h53_3_7, if_neg h53_3_8, if_pos h53_3_9, if_neg h207_13]; done) | (simp only [v_T_replica, if_neg h14_0, if_neg h20_1, if_pos h26_2, if_neg h53_3_0, if_neg h53_3_1, if_neg h53_3_2, if_neg h53_3_3, if_neg h53_3_4, if_neg h53_3_5, if_neg h53_3_6, if_neg h53_3_7, if_neg h53_3_8, if_pos h53_3_9, if_neg h207_13]; rfl)), (by first | rfl | (simp only [s_T_replica, if_neg h14_0, if_neg h20_1, if_pos h26_2, if_neg h53_3_0, if_neg h53_3_1, if_neg h53_3_2, if_neg h53_3_3, if_neg h53_3_4, if_neg h53_3_5, if_neg h53_3_6, if_neg h53_3_7, if_neg h53_3_8, if_pos h53_3_9, if_neg h207_13]; done) | (simp only [s_T_replica, if_neg h14_0, if_neg h20_1, if_pos h26_2, if_neg h53_3_0, if_neg h53_3_1, if_neg h53_3_2, if_neg h53_3_3, if_neg h53_3_4, if_neg h53_3_5, if_neg h53_3_6, if_neg h53_3_7, if_neg h53_3_8, if_pos h53_3_9, if_neg h207_13]; rfl))⟩
          · refine mr_aload_n ok (i := 0) d_T_replica_210 rfl rfl ?_
            refine sx_getr ok hB fl_T_44 (tm_20 hb) rfl d_T_replica_211 ?_
            refine mr_iload_n ok (i := 1) d_T_replica_214 rfl rfl ?_
            refine rx_iald ok hB rfl (tm_34 hb) (ty_0 hb) rfl (lt5 hb hi) (by decide) d_T_replica_215 ?_
            refine mr_if_ne ok 223 d_T_replica_216 (by decide) (fun h216_14 => ?_) (fun h216_14 => ?_)
            · refine mr_aload_n ok (i := 0) d_T_replica_223 rfl rfl ?_
              refine sx_getr ok hB fl_T_41 (tm_20 hb) rfl d_T_replica_224 ?_
              refine mr_iload_n ok (i := 1) d_T_replica_227 rfl rfl ?_
              refine rx_iald ok hB rfl (tm_33 hb) (ty_0 hb) rfl (lt5 hb hi) (by decide) d_T_replica_228 ?_
              refine sx_iret ok en (Nat.le_refl _) (Nat.le_refl _) d_T_replica_229 ?_
              exact ⟨(by first | rfl | (simp only [v_T_replica, if_neg h14_0, if_neg h20_1, if_pos h26_2, if_neg h53_3_0, if_neg h53_3_1, if_neg h53_3_2, if_neg h53_3_3, if_neg h53_3_4, if_neg h53_3_5, if_neg h53_3_6, if_neg h53_3_7, if_neg h53_3_8, if_pos h53_3_9, if_pos h207_13, if_neg h216_14]; done) | (simp only [v_T_replica, if_neg h14_0, if_neg h20_1, if_pos h26_2, if_neg h53_3_0, if_neg h53_3_1, if_neg h53_3_2, if_neg h53_3_3, if_neg h53_3_4, if_neg h53_3_5, if_neg h53_3_6, if_neg h53_3_7, if_neg h53_3_8, if_pos h53_3_9, if_pos h207_13, if_neg h216_14]; rfl)), (by first | rfl | (simp only [s_T_replica, if_neg h14_0, if_neg h20_1, if_pos h26_2, if_neg h53_3_0, if_neg h53_3_1, if_neg h53_3_2, if_neg h53_3_3, if_neg h53_3_4, if_neg h53_3_5, if_neg h53_3_6, if_neg h53_3_7, if_neg h53_3_8, if_pos h53_3_9, if_pos h207_13, if_neg h216_14]; done) | (simp only [s_T_replica, if_neg h14_0, if_neg h20_1, if_pos h26_2, if_neg h53_3_0, if_neg h53_3_1, if_neg h53_3_2, if_neg h53_3_3, if_neg h53_3_4, if_neg h53_3_5, if_neg h53_3_6, if_neg h53_3_7, if_neg h53_3_8, if_pos h53_3_9, if_pos h207_13, if_neg h216_14]; rfl))⟩
            · refine mr_iconst ok 0 d_T_replica_219 (by decide) ?_
              refine mr_goto ok 229 d_T_replica_220 (by decide) ?_
              refine sx_iret ok en (Nat.le_refl _) (Nat.le_refl _) d_T_replica_229 ?_
              exact ⟨(by first | rfl | (simp only [v_T_replica, if_neg h14_0, if_neg h20_1, if_pos h26_2, if_neg h53_3_0, if_neg h53_3_1, if_neg h53_3_2, if_neg h53_3_3, if_neg h53_3_4, if_neg h53_3_5, if_neg h53_3_6, if_neg h53_3_7, if_neg h53_3_8, if_pos h53_3_9, if_pos h207_13, if_pos h216_14]; done) | (simp only [v_T_replica, if_neg h14_0, if_neg h20_1, if_pos h26_2, if_neg h53_3_0, if_neg h53_3_1, if_neg h53_3_2, if_neg h53_3_3, if_neg h53_3_4, if_neg h53_3_5, if_neg h53_3_6, if_neg h53_3_7, if_neg h53_3_8, if_pos h53_3_9, if_pos h207_13, if_pos h216_14]; rfl)), (by first | rfl | (simp only [s_T_replica, if_neg h14_0, if_neg h20_1, if_pos h26_2, if_neg h53_3_0, if_neg h53_3_1, if_neg h53_3_2, if_neg h53_3_3, if_neg h53_3_4, if_neg h53_3_5, if_neg h53_3_6, if_neg h53_3_7, if_neg h53_3_8, if_pos h53_3_9, if_pos h207_13, if_pos h216_14]; done) | (simp only [s_T_replica, if_neg h14_0, if_neg h20_1, if_pos h26_2, if_neg h53_3_0, if_neg h53_3_1, if_neg h53_3_2, if_neg h53_3_3, if_neg h53_3_4, if_neg h53_3_5, if_neg h53_3_6, if_neg h53_3_7, if_neg h53_3_8, if_pos h53_3_9, if_pos h207_13, if_pos h216_14]; rfl))⟩
        by_cases h53_3_10 : y = 10
        · refine mr_tableIn (off := 177) ok 230 d_T_replica_53 (by rw [h53_3_10]; decide) (by rw [h53_3_10]; decide) (by rw [h53_3_10]; decide) (by decide) ?_
          refine mr_aload_n ok (i := 0) d_T_replica_230 rfl rfl ?_
          refine sx_getr ok hB fl_T_53 (tm_20 hb) rfl d_T_replica_231 ?_
          refine mr_iload_n ok (i := 1) d_T_replica_234 rfl rfl ?_
          refine rx_iald ok hB rfl (tm_37 hb) (ty_0 hb) rfl (lt5 hb hi) (by decide) d_T_replica_235 ?_
          refine sx_iret ok en (Nat.le_refl _) (Nat.le_refl _) d_T_replica_236 ?_
          exact ⟨(by first | rfl | (simp only [v_T_replica, if_neg h14_0, if_neg h20_1, if_pos h26_2, if_neg h53_3_0, if_neg h53_3_1, if_neg h53_3_2, if_neg h53_3_3, if_neg h53_3_4, if_neg h53_3_5, if_neg h53_3_6, if_neg h53_3_7, if_neg h53_3_8, if_neg h53_3_9, if_pos h53_3_10]; done) | (simp only [v_T_replica, if_neg h14_0, if_neg h20_1, if_pos h26_2, if_neg h53_3_0, if_neg h53_3_1, if_neg h53_3_2, if_neg h53_3_3, if_neg h53_3_4, if_neg h53_3_5, if_neg h53_3_6, if_neg h53_3_7, if_neg h53_3_8, if_neg h53_3_9, if_pos h53_3_10]; rfl)), (by first | rfl | (simp only [s_T_replica, if_neg h14_0, if_neg h20_1, if_pos h26_2, if_neg h53_3_0, if_neg h53_3_1, if_neg h53_3_2, if_neg h53_3_3, if_neg h53_3_4, if_neg h53_3_5, if_neg h53_3_6, if_neg h53_3_7, if_neg h53_3_8, if_neg h53_3_9, if_pos h53_3_10]; done) | (simp only [s_T_replica, if_neg h14_0, if_neg h20_1, if_pos h26_2, if_neg h53_3_0, if_neg h53_3_1, if_neg h53_3_2, if_neg h53_3_3, if_neg h53_3_4, if_neg h53_3_5, if_neg h53_3_6, if_neg h53_3_7, if_neg h53_3_8, if_neg h53_3_9, if_pos h53_3_10]; rfl))⟩
        by_cases h53_3_11 : y = 11
        · refine mr_tableIn (off := 184) ok 237 d_T_replica_53 (by rw [h53_3_11]; decide) (by rw [h53_3_11]; decide) (by rw [h53_3_11]; decide) (by decide) ?_
          refine mr_aload_n ok (i := 0) d_T_replica_237 rfl rfl ?_
          refine sx_getr ok hB fl_T_59 (tm_20 hb) rfl d_T_replica_238 ?_
          refine mr_iload_n ok (i := 1) d_T_replica_241 rfl rfl ?_
          refine rx_iald ok hB rfl (tm_39 hb) (ty_0 hb) rfl (lt5 hb hi) (by decide) d_T_replica_242 ?_
          refine sx_iret ok en (Nat.le_refl _) (Nat.le_refl _) d_T_replica_243 ?_
          exact ⟨(by first | rfl | (simp only [v_T_replica, if_neg h14_0, if_neg h20_1, if_pos h26_2, if_neg h53_3_0, if_neg h53_3_1, if_neg h53_3_2, if_neg h53_3_3, if_neg h53_3_4, if_neg h53_3_5, if_neg h53_3_6, if_neg h53_3_7, if_neg h53_3_8, if_neg h53_3_9, if_neg h53_3_10, if_pos h53_3_11]; done) | (simp only [v_T_replica, if_neg h14_0, if_neg h20_1, if_pos h26_2, if_neg h53_3_0, if_neg h53_3_1, if_neg h53_3_2, if_neg h53_3_3, if_neg h53_3_4, if_neg h53_3_5, if_neg h53_3_6, if_neg h53_3_7, if_neg h53_3_8, if_neg h53_3_9, if_neg h53_3_10, if_pos h53_3_11]; rfl)), (by first | rfl | (simp only [s_T_replica, if_neg h14_0, if_neg h20_1, if_pos h26_2, if_neg h53_3_0, if_neg h53_3_1, if_neg h53_3_2, if_neg h53_3_3, if_neg h53_3_4, if_neg h53_3_5, if_neg h53_3_6, if_neg h53_3_7, if_neg h53_3_8, if_neg h53_3_9, if_neg h53_3_10, if_pos h53_3_11]; done) | (simp only [s_T_replica, if_neg h14_0, if_neg h20_1, if_pos h26_2, if_neg h53_3_0, if_neg h53_3_1, if_neg h53_3_2, if_neg h53_3_3, if_neg h53_3_4, if_neg h53_3_5, if_neg h53_3_6, if_neg h53_3_7, if_neg h53_3_8, if_neg h53_3_9, if_neg h53_3_10, if_pos h53_3_11]; rfl))⟩
        have th53_3_0 := lv_neT h53_3_0 (a := 0) (by decide)
        have th53_3_1 := lv_neT h53_3_1 (a := 1) (by decide)
        have th53_3_2 := lv_neT h53_3_2 (a := 2) (by decide)
        have th53_3_3 := lv_neT h53_3_3 (a := 3) (by decide)
        have th53_3_4 := lv_neT h53_3_4 (a := 4) (by decide)
        have th53_3_5 := lv_neT h53_3_5 (a := 5) (by decide)
        have th53_3_6 := lv_neT h53_3_6 (a := 6) (by decide)
        have th53_3_7 := lv_neT h53_3_7 (a := 7) (by decide)
        have th53_3_8 := lv_neT h53_3_8 (a := 8) (by decide)
        have th53_3_9 := lv_neT h53_3_9 (a := 9) (by decide)
        have th53_3_10 := lv_neT h53_3_10 (a := 10) (by decide)
        have th53_3_11 := lv_neT h53_3_11 (a := 11) (by decide)
        refine mr_tableOut ok 244 d_T_replica_53 (by omega) (by decide) ?_
        refine mr_aload_n ok (i := 0) d_T_replica_244 rfl rfl ?_
        refine sx_getr ok hB fl_T_44 (tm_20 hb) rfl d_T_replica_245 ?_
        refine mr_iload_n ok (i := 1) d_T_replica_248 rfl rfl ?_
        refine rx_iald ok hB rfl (tm_34 hb) (ty_0 hb) rfl (lt5 hb hi) (by decide) d_T_replica_249 ?_
        refine sx_iret ok en (Nat.le_refl _) (Nat.le_refl _) d_T_replica_250 ?_
        exact ⟨(by first | rfl | (simp only [v_T_replica, if_neg h14_0, if_neg h20_1, if_pos h26_2, if_neg h53_3_0, if_neg h53_3_1, if_neg h53_3_2, if_neg h53_3_3, if_neg h53_3_4, if_neg h53_3_5, if_neg h53_3_6, if_neg h53_3_7, if_neg h53_3_8, if_neg h53_3_9, if_neg h53_3_10, if_neg h53_3_11]; done) | (simp only [v_T_replica, if_neg h14_0, if_neg h20_1, if_pos h26_2, if_neg h53_3_0, if_neg h53_3_1, if_neg h53_3_2, if_neg h53_3_3, if_neg h53_3_4, if_neg h53_3_5, if_neg h53_3_6, if_neg h53_3_7, if_neg h53_3_8, if_neg h53_3_9, if_neg h53_3_10, if_neg h53_3_11]; rfl)), (by first | rfl | (simp only [s_T_replica, if_neg h14_0, if_neg h20_1, if_pos h26_2, if_neg h53_3_0, if_neg h53_3_1, if_neg h53_3_2, if_neg h53_3_3, if_neg h53_3_4, if_neg h53_3_5, if_neg h53_3_6, if_neg h53_3_7, if_neg h53_3_8, if_neg h53_3_9, if_neg h53_3_10, if_neg h53_3_11]; done) | (simp only [s_T_replica, if_neg h14_0, if_neg h20_1, if_pos h26_2, if_neg h53_3_0, if_neg h53_3_1, if_neg h53_3_2, if_neg h53_3_3, if_neg h53_3_4, if_neg h53_3_5, if_neg h53_3_6, if_neg h53_3_7, if_neg h53_3_8, if_neg h53_3_9, if_neg h53_3_10, if_neg h53_3_11]; rfl))⟩
      · refine mr_aload_n ok (i := 0) d_T_replica_29 rfl rfl ?_
        refine sx_getr ok hB fl_T_7 (tm_20 hb) rfl d_T_replica_30 ?_
        refine mr_aload_n ok (i := 0) d_T_replica_33 rfl rfl ?_
        refine mr_iload_n ok (i := 1) d_T_replica_34 rfl rfl ?_
        refine sx_cVi ok hB [_] rfl cb_T_75 cv_T_isReplica (tm_20 hb) rfl rfl (c_T_isReplica hb hi) rfl (Nat.le_of_ble_eq_true rfl) (by decide) ⟨Nat.le_refl _, Nat.le_refl _⟩ d_T_replica_35 ?_
        refine mr_if_eq ok 45 d_T_replica_38 (by decide) (fun h => absurd h (by decide)) (fun _ => ?_)
        refine mr_iload_n ok (i := 1) d_T_replica_41 rfl rfl ?_
        refine mr_goto ok 46 d_T_replica_42 (by decide) ?_
        refine rx_zald ok hB rfl (tm_23 hb) (ty_2 hb) rfl (lt5 hb hi) (by decide) d_T_replica_46 ?_
        refine mr_if_ne ok 52 d_T_replica_47 (by decide) (fun h47_3 => ?_) (fun h47_3 => ?_)
        · refine mr_iload_n ok (i := 2) d_T_replica_52 rfl rfl ?_
          by_cases h53_4_0 : y = 0
          · refine mr_tableIn (off := 63) ok 116 d_T_replica_53 (by rw [h53_4_0]; decide) (by rw [h53_4_0]; decide) (by rw [h53_4_0]; decide) (by decide) ?_
            refine mr_aload_n ok (i := 0) d_T_replica_116 rfl rfl ?_
            refine sx_getr ok hB fl_T_7 (tm_20 hb) rfl d_T_replica_117 ?_
            refine mr_iload_n ok (i := 1) d_T_replica_120 rfl rfl ?_
            refine rx_zald ok hB rfl (tm_23 hb) (ty_2 hb) rfl (lt5 hb hi) (by decide) d_T_replica_121 ?_
            refine mr_if_eq ok 129 d_T_replica_122 (by decide) (fun h => absurd h h47_3) (fun _ => ?_)
            refine mr_iconst ok 1 d_T_replica_125 (by decide) ?_
            refine mr_goto ok 130 d_T_replica_126 (by decide) ?_
            refine sx_iret ok en (Nat.le_refl _) (Nat.le_refl _) d_T_replica_130 ?_
            exact ⟨(by first | rfl | (simp only [v_T_replica, if_neg h14_0, if_neg h20_1, if_neg h26_2, if_neg h47_3, if_pos h53_4_0]; done) | (simp only [v_T_replica, if_neg h14_0, if_neg h20_1, if_neg h26_2, if_neg h47_3, if_pos h53_4_0]; rfl)), (by first | rfl | (simp only [s_T_replica, if_neg h14_0, if_neg h20_1, if_neg h26_2, if_neg h47_3, if_pos h53_4_0]; done) | (simp only [s_T_replica, if_neg h14_0, if_neg h20_1, if_neg h26_2, if_neg h47_3, if_pos h53_4_0]; rfl))⟩
          by_cases h53_4_1 : y = 1
          · refine mr_tableIn (off := 78) ok 131 d_T_replica_53 (by rw [h53_4_1]; decide) (by rw [h53_4_1]; decide) (by rw [h53_4_1]; decide) (by decide) ?_
            refine mr_aload_n ok (i := 0) d_T_replica_131 rfl rfl ?_
            refine sx_getr ok hB fl_T_13 (tm_20 hb) rfl d_T_replica_132 ?_
            refine mr_iload_n ok (i := 1) d_T_replica_135 rfl rfl ?_
            refine rx_iald ok hB rfl (tm_24 hb) (ty_0 hb) rfl (lt5 hb hi) (by decide) d_T_replica_136 ?_
            refine sx_iret ok en (Nat.le_refl _) (Nat.le_refl _) d_T_replica_137 ?_
            exact ⟨(by first | rfl | (simp only [v_T_replica, if_neg h14_0, if_neg h20_1, if_neg h26_2, if_neg h47_3, if_neg h53_4_0, if_pos h53_4_1]; done) | (simp only [v_T_replica, if_neg h14_0, if_neg h20_1, if_neg h26_2, if_neg h47_3, if_neg h53_4_0, if_pos h53_4_1]; rfl)), (by first | rfl | (simp only [s_T_replica, if_neg h14_0, if_neg h20_1, if_neg h26_2, if_neg h47_3, if_neg h53_4_0, if_pos h53_4_1]; done) | (simp only [s_T_replica, if_neg h14_0, if_neg h20_1, if_neg h26_2, if_neg h47_3, if_neg h53_4_0, if_pos h53_4_1]; rfl))⟩
          by_cases h53_4_2 : y = 2
          · refine mr_tableIn (off := 85) ok 138 d_T_replica_53 (by rw [h53_4_2]; decide) (by rw [h53_4_2]; decide) (by rw [h53_4_2]; decide) (by decide) ?_
            refine mr_aload_n ok (i := 0) d_T_replica_138 rfl rfl ?_
            refine sx_getr ok hB fl_T_17 (tm_20 hb) rfl d_T_replica_139 ?_
            refine mr_iload_n ok (i := 1) d_T_replica_142 rfl rfl ?_
            refine rx_iald ok hB rfl (tm_25 hb) (ty_0 hb) rfl (lt5 hb hi) (by decide) d_T_replica_143 ?_
            refine sx_iret ok en (Nat.le_refl _) (Nat.le_refl _) d_T_replica_144 ?_
            exact ⟨(by first | rfl | (simp only [v_T_replica, if_neg h14_0, if_neg h20_1, if_neg h26_2, if_neg h47_3, if_neg h53_4_0, if_neg h53_4_1, if_pos h53_4_2]; done) | (simp only [v_T_replica, if_neg h14_0, if_neg h20_1, if_neg h26_2, if_neg h47_3, if_neg h53_4_0, if_neg h53_4_1, if_pos h53_4_2]; rfl)), (by first | rfl | (simp only [s_T_replica, if_neg h14_0, if_neg h20_1, if_neg h26_2, if_neg h47_3, if_neg h53_4_0, if_neg h53_4_1, if_pos h53_4_2]; done) | (simp only [s_T_replica, if_neg h14_0, if_neg h20_1, if_neg h26_2, if_neg h47_3, if_neg h53_4_0, if_neg h53_4_1, if_pos h53_4_2]; rfl))⟩
          by_cases h53_4_3 : y = 3
          · refine mr_tableIn (off := 92) ok 145 d_T_replica_53 (by rw [h53_4_3]; decide) (by rw [h53_4_3]; decide) (by rw [h53_4_3]; decide) (by decide) ?_
            refine mr_aload_n ok (i := 0) d_T_replica_145 rfl rfl ?_
            refine sx_getr ok hB fl_T_20 (tm_20 hb) rfl d_T_replica_146 ?_
            refine mr_iload_n ok (i := 1) d_T_replica_149 rfl rfl ?_
            refine rx_iald ok hB rfl (tm_26 hb) (ty_0 hb) rfl (lt5 hb hi) (by decide) d_T_replica_150 ?_
            refine sx_iret ok en (Nat.le_refl _) (Nat.le_refl _) d_T_replica_151 ?_
            exact ⟨(by first | rfl | (simp only [v_T_replica, if_neg h14_0, if_neg h20_1, if_neg h26_2, if_neg h47_3, if_neg h53_4_0, if_neg h53_4_1, if_neg h53_4_2, if_pos h53_4_3]; done) | (simp only [v_T_replica, if_neg h14_0, if_neg h20_1, if_neg h26_2, if_neg h47_3, if_neg h53_4_0, if_neg h53_4_1, if_neg h53_4_2, if_pos h53_4_3]; rfl)), (by first | rfl | (simp only [s_T_replica, if_neg h14_0, if_neg h20_1, if_neg h26_2, if_neg h47_3, if_neg h53_4_0, if_neg h53_4_1, if_neg h53_4_2, if_pos h53_4_3]; done) | (simp only [s_T_replica, if_neg h14_0, if_neg h20_1, if_neg h26_2, if_neg h47_3, if_neg h53_4_0, if_neg h53_4_1, if_neg h53_4_2, if_pos h53_4_3]; rfl))⟩
          by_cases h53_4_4 : y = 4
          · refine mr_tableIn (off := 99) ok 152 d_T_replica_53 (by rw [h53_4_4]; decide) (by rw [h53_4_4]; decide) (by rw [h53_4_4]; decide) (by decide) ?_
            refine mr_aload_n ok (i := 0) d_T_replica_152 rfl rfl ?_
            refine sx_getr ok hB fl_T_23 (tm_20 hb) rfl d_T_replica_153 ?_
            refine mr_iload_n ok (i := 1) d_T_replica_156 rfl rfl ?_
            refine rx_iald ok hB rfl (tm_27 hb) (ty_0 hb) rfl (lt5 hb hi) (by decide) d_T_replica_157 ?_
            refine sx_iret ok en (Nat.le_refl _) (Nat.le_refl _) d_T_replica_158 ?_
            exact ⟨(by first | rfl | (simp only [v_T_replica, if_neg h14_0, if_neg h20_1, if_neg h26_2, if_neg h47_3, if_neg h53_4_0, if_neg h53_4_1, if_neg h53_4_2, if_neg h53_4_3, if_pos h53_4_4]; done) | (simp only [v_T_replica, if_neg h14_0, if_neg h20_1, if_neg h26_2, if_neg h47_3, if_neg h53_4_0, if_neg h53_4_1, if_neg h53_4_2, if_neg h53_4_3, if_pos h53_4_4]; rfl)), (by first | rfl | (simp only [s_T_replica, if_neg h14_0, if_neg h20_1, if_neg h26_2, if_neg h47_3, if_neg h53_4_0, if_neg h53_4_1, if_neg h53_4_2, if_neg h53_4_3, if_pos h53_4_4]; done) | (simp only [s_T_replica, if_neg h14_0, if_neg h20_1, if_neg h26_2, if_neg h47_3, if_neg h53_4_0, if_neg h53_4_1, if_neg h53_4_2, if_neg h53_4_3, if_pos h53_4_4]; rfl))⟩
          by_cases h53_4_5 : y = 5
          · refine mr_tableIn (off := 106) ok 159 d_T_replica_53 (by rw [h53_4_5]; decide) (by rw [h53_4_5]; decide) (by rw [h53_4_5]; decide) (by decide) ?_
            refine mr_aload_n ok (i := 0) d_T_replica_159 rfl rfl ?_
            refine sx_getr ok hB fl_T_29 (tm_20 hb) rfl d_T_replica_160 ?_
            refine mr_iload_n ok (i := 1) d_T_replica_163 rfl rfl ?_
            refine rx_iald ok hB rfl (tm_29 hb) (ty_0 hb) rfl (lt5 hb hi) (by decide) d_T_replica_164 ?_
            refine mr_if_le ok 177 d_T_replica_165 (by decide) (fun h165_10 => ?_) (fun h165_10 => ?_)
            · refine mr_iconst ok (-1) d_T_replica_177 (by decide) ?_
              refine sx_iret ok en (Nat.le_refl _) (Nat.le_refl _) d_T_replica_178 ?_
              exact ⟨(by first | rfl | (simp only [v_T_replica, if_neg h14_0, if_neg h20_1, if_neg h26_2, if_neg h47_3, if_neg h53_4_0, if_neg h53_4_1, if_neg h53_4_2, if_neg h53_4_3, if_neg h53_4_4, if_pos h53_4_5, if_pos h165_10]; done) | (simp only [v_T_replica, if_neg h14_0, if_neg h20_1, if_neg h26_2, if_neg h47_3, if_neg h53_4_0, if_neg h53_4_1, if_neg h53_4_2, if_neg h53_4_3, if_neg h53_4_4, if_pos h53_4_5, if_pos h165_10]; rfl)), (by first | rfl | (simp only [s_T_replica, if_neg h14_0, if_neg h20_1, if_neg h26_2, if_neg h47_3, if_neg h53_4_0, if_neg h53_4_1, if_neg h53_4_2, if_neg h53_4_3, if_neg h53_4_4, if_pos h53_4_5, if_pos h165_10]; done) | (simp only [s_T_replica, if_neg h14_0, if_neg h20_1, if_neg h26_2, if_neg h47_3, if_neg h53_4_0, if_neg h53_4_1, if_neg h53_4_2, if_neg h53_4_3, if_neg h53_4_4, if_pos h53_4_5, if_pos h165_10]; rfl))⟩
            · refine mr_aload_n ok (i := 0) d_T_replica_168 rfl rfl ?_
              refine sx_getr ok hB fl_T_26 (tm_20 hb) rfl d_T_replica_169 ?_
              refine mr_iload_n ok (i := 1) d_T_replica_172 rfl rfl ?_
              refine rx_iald ok hB rfl (tm_28 hb) (ty_0 hb) rfl (lt5 hb hi) (by decide) d_T_replica_173 ?_
              refine mr_goto ok 178 d_T_replica_174 (by decide) ?_
              refine sx_iret ok en (Nat.le_refl _) (Nat.le_refl _) d_T_replica_178 ?_
              exact ⟨(by first | rfl | (simp only [v_T_replica, if_neg h14_0, if_neg h20_1, if_neg h26_2, if_neg h47_3, if_neg h53_4_0, if_neg h53_4_1, if_neg h53_4_2, if_neg h53_4_3, if_neg h53_4_4, if_pos h53_4_5, if_neg h165_10]; done) | (simp only [v_T_replica, if_neg h14_0, if_neg h20_1, if_neg h26_2, if_neg h47_3, if_neg h53_4_0, if_neg h53_4_1, if_neg h53_4_2, if_neg h53_4_3, if_neg h53_4_4, if_pos h53_4_5, if_neg h165_10]; rfl)), (by first | rfl | (simp only [s_T_replica, if_neg h14_0, if_neg h20_1, if_neg h26_2, if_neg h47_3, if_neg h53_4_0, if_neg h53_4_1, if_neg h53_4_2, if_neg h53_4_3, if_neg h53_4_4, if_pos h53_4_5, if_neg h165_10]; done) | (simp only [s_T_replica, if_neg h14_0, if_neg h20_1, if_neg h26_2, if_neg h47_3, if_neg h53_4_0, if_neg h53_4_1, if_neg h53_4_2, if_neg h53_4_3, if_neg h53_4_4, if_pos h53_4_5, if_neg h165_10]; rfl))⟩
          by_cases h53_4_6 : y = 6
          · refine mr_tableIn (off := 126) ok 179 d_T_replica_53 (by rw [h53_4_6]; decide) (by rw [h53_4_6]; decide) (by rw [h53_4_6]; decide) (by decide) ?_
            refine mr_aload_n ok (i := 0) d_T_replica_179 rfl rfl ?_
            refine sx_getr ok hB fl_T_29 (tm_20 hb) rfl d_T_replica_180 ?_
            refine mr_iload_n ok (i := 1) d_T_replica_183 rfl rfl ?_
            refine rx_iald ok hB rfl (tm_29 hb) (ty_0 hb) rfl (lt5 hb hi) (by decide) d_T_replica_184 ?_
            refine sx_iret ok en (Nat.le_refl _) (Nat.le_refl _) d_T_replica_185 ?_
            exact ⟨(by first | rfl | (simp only [v_T_replica, if_neg h14_0, if_neg h20_1, if_neg h26_2, if_neg h47_3, if_neg h53_4_0, if_neg h53_4_1, if_neg h53_4_2, if_neg h53_4_3, if_neg h53_4_4, if_neg h53_4_5, if_pos h53_4_6]; done) | (simp only [v_T_replica, if_neg h14_0, if_neg h20_1, if_neg h26_2, if_neg h47_3, if_neg h53_4_0, if_neg h53_4_1, if_neg h53_4_2, if_neg h53_4_3, if_neg h53_4_4, if_neg h53_4_5, if_pos h53_4_6]; rfl)), (by first | rfl | (simp only [s_T_replica, if_neg h14_0, if_neg h20_1, if_neg h26_2, if_neg h47_3, if_neg h53_4_0, if_neg h53_4_1, if_neg h53_4_2, if_neg h53_4_3, if_neg h53_4_4, if_neg h53_4_5, if_pos h53_4_6]; done) | (simp only [s_T_replica, if_neg h14_0, if_neg h20_1, if_neg h26_2, if_neg h47_3, if_neg h53_4_0, if_neg h53_4_1, if_neg h53_4_2, if_neg h53_4_3, if_neg h53_4_4, if_neg h53_4_5, if_pos h53_4_6]; rfl))⟩
          by_cases h53_4_7 : y = 7
          · refine mr_tableIn (off := 133) ok 186 d_T_replica_53 (by rw [h53_4_7]; decide) (by rw [h53_4_7]; decide) (by rw [h53_4_7]; decide) (by decide) ?_
            refine mr_aload_n ok (i := 0) d_T_replica_186 rfl rfl ?_
            refine sx_getr ok hB fl_T_35 (tm_20 hb) rfl d_T_replica_187 ?_
            refine mr_iload_n ok (i := 1) d_T_replica_190 rfl rfl ?_
            refine rx_iald ok hB rfl (tm_31 hb) (ty_0 hb) rfl (lt5 hb hi) (by decide) d_T_replica_191 ?_
            refine sx_iret ok en (Nat.le_refl _) (Nat.le_refl _) d_T_replica_192 ?_
            exact ⟨(by first | rfl | (simp only [v_T_replica, if_neg h14_0, if_neg h20_1, if_neg h26_2, if_neg h47_3, if_neg h53_4_0, if_neg h53_4_1, if_neg h53_4_2, if_neg h53_4_3, if_neg h53_4_4, if_neg h53_4_5, if_neg h53_4_6, if_pos h53_4_7]; done) | (simp only [v_T_replica, if_neg h14_0, if_neg h20_1, if_neg h26_2, if_neg h47_3, if_neg h53_4_0, if_neg h53_4_1, if_neg h53_4_2, if_neg h53_4_3, if_neg h53_4_4, if_neg h53_4_5, if_neg h53_4_6, if_pos h53_4_7]; rfl)), (by first | rfl | (simp only [s_T_replica, if_neg h14_0, if_neg h20_1, if_neg h26_2, if_neg h47_3, if_neg h53_4_0, if_neg h53_4_1, if_neg h53_4_2, if_neg h53_4_3, if_neg h53_4_4, if_neg h53_4_5, if_neg h53_4_6, if_pos h53_4_7]; done) | (simp only [s_T_replica, if_neg h14_0, if_neg h20_1, if_neg h26_2, if_neg h47_3, if_neg h53_4_0, if_neg h53_4_1, if_neg h53_4_2, if_neg h53_4_3, if_neg h53_4_4, if_neg h53_4_5, if_neg h53_4_6, if_pos h53_4_7]; rfl))⟩
          by_cases h53_4_8 : y = 8
          · refine mr_tableIn (off := 140) ok 193 d_T_replica_53 (by rw [h53_4_8]; decide) (by rw [h53_4_8]; decide) (by rw [h53_4_8]; decide) (by decide) ?_
            refine mr_aload_n ok (i := 0) d_T_replica_193 rfl rfl ?_
            refine sx_getr ok hB fl_T_38 (tm_20 hb) rfl d_T_replica_194 ?_
            refine mr_iload_n ok (i := 1) d_T_replica_197 rfl rfl ?_
            refine rx_iald ok hB rfl (tm_32 hb) (ty_0 hb) rfl (lt5 hb hi) (by decide) d_T_replica_198 ?_
            refine sx_iret ok en (Nat.le_refl _) (Nat.le_refl _) d_T_replica_199 ?_
            exact ⟨(by first | rfl | (simp only [v_T_replica, if_neg h14_0, if_neg h20_1, if_neg h26_2, if_neg h47_3, if_neg h53_4_0, if_neg h53_4_1, if_neg h53_4_2, if_neg h53_4_3, if_neg h53_4_4, if_neg h53_4_5, if_neg h53_4_6, if_neg h53_4_7, if_pos h53_4_8]; done) | (simp only [v_T_replica, if_neg h14_0, if_neg h20_1, if_neg h26_2, if_neg h47_3, if_neg h53_4_0, if_neg h53_4_1, if_neg h53_4_2, if_neg h53_4_3, if_neg h53_4_4, if_neg h53_4_5, if_neg h53_4_6, if_neg h53_4_7, if_pos h53_4_8]; rfl)), (by first | rfl | (simp only [s_T_replica, if_neg h14_0, if_neg h20_1, if_neg h26_2, if_neg h47_3, if_neg h53_4_0, if_neg h53_4_1, if_neg h53_4_2, if_neg h53_4_3, if_neg h53_4_4, if_neg h53_4_5, if_neg h53_4_6, if_neg h53_4_7, if_pos h53_4_8]; done) | (simp only [s_T_replica, if_neg h14_0, if_neg h20_1, if_neg h26_2, if_neg h47_3, if_neg h53_4_0, if_neg h53_4_1, if_neg h53_4_2, if_neg h53_4_3, if_neg h53_4_4, if_neg h53_4_5, if_neg h53_4_6, if_neg h53_4_7, if_pos h53_4_8]; rfl))⟩
          by_cases h53_4_9 : y = 9
          · refine mr_tableIn (off := 147) ok 200 d_T_replica_53 (by rw [h53_4_9]; decide) (by rw [h53_4_9]; decide) (by rw [h53_4_9]; decide) (by decide) ?_
            refine mr_aload_n ok (i := 0) d_T_replica_200 rfl rfl ?_
            refine sx_getr ok hB fl_T_35 (tm_20 hb) rfl d_T_replica_201 ?_
            refine mr_iload_n ok (i := 1) d_T_replica_204 rfl rfl ?_
            refine rx_iald ok hB rfl (tm_31 hb) (ty_0 hb) rfl (lt5 hb hi) (by decide) d_T_replica_205 ?_
            refine mr_iconst ok 2 d_T_replica_206 (by decide) ?_
            refine mr_icmp_ne ok 223 d_T_replica_207 (by decide) (fun h207_14 => ?_) (fun h207_14 => ?_)
            · refine mr_aload_n ok (i := 0) d_T_replica_223 rfl rfl ?_
              refine sx_getr ok hB fl_T_41 (tm_20 hb) rfl d_T_replica_224 ?_
              refine mr_iload_n ok (i := 1) d_T_replica_227 rfl rfl ?_
              refine rx_iald ok hB rfl (tm_33 hb) (ty_0 hb) rfl (lt5 hb hi) (by decide) d_T_replica_228 ?_
              refine sx_iret ok en (Nat.le_refl _) (Nat.le_refl _) d_T_replica_229 ?_
              exact ⟨(by first | rfl | (simp only [v_T_replica, if_neg h14_0, if_neg h20_1, if_neg h26_2, if_neg h47_3, if_neg h53_4_0, if_neg h53_4_1, if_neg h53_4_2, if_neg h53_4_3, if_neg h53_4_4, if_neg h53_4_5, if_neg h53_4_6, if_neg h53_4_7, if_neg h53_4_8, if_pos h53_4_9, if_neg h207_14]; done) | (simp only [v_T_replica, if_neg h14_0, if_neg h20_1, if_neg h26_2, if_neg h47_3, if_neg h53_4_0, if_neg h53_4_1, if_neg h53_4_2, if_neg h53_4_3, if_neg h53_4_4, if_neg h53_4_5, if_neg h53_4_6, if_neg h53_4_7, if_neg h53_4_8, if_pos h53_4_9, if_neg h207_14]; rfl)), (by first | rfl | (simp only [s_T_replica, if_neg h14_0, if_neg h20_1, if_neg h26_2, if_neg h47_3, if_neg h53_4_0, if_neg h53_4_1, if_neg h53_4_2, if_neg h53_4_3, if_neg h53_4_4, if_neg h53_4_5, if_neg h53_4_6, if_neg h53_4_7, if_neg h53_4_8, if_pos h53_4_9, if_neg h207_14]; done) | (simp only [s_T_replica, if_neg h14_0, if_neg h20_1, if_neg h26_2, if_neg h47_3, if_neg h53_4_0, if_neg h53_4_1, if_neg h53_4_2, if_neg h53_4_3, if_neg h53_4_4, if_neg h53_4_5, if_neg h53_4_6, if_neg h53_4_7, if_neg h53_4_8, if_pos h53_4_9, if_neg h207_14]; rfl))⟩
            · refine mr_aload_n ok (i := 0) d_T_replica_210 rfl rfl ?_
              refine sx_getr ok hB fl_T_44 (tm_20 hb) rfl d_T_replica_211 ?_
              refine mr_iload_n ok (i := 1) d_T_replica_214 rfl rfl ?_
              refine rx_iald ok hB rfl (tm_34 hb) (ty_0 hb) rfl (lt5 hb hi) (by decide) d_T_replica_215 ?_
              refine mr_if_ne ok 223 d_T_replica_216 (by decide) (fun h216_15 => ?_) (fun h216_15 => ?_)
              · refine mr_aload_n ok (i := 0) d_T_replica_223 rfl rfl ?_
                refine sx_getr ok hB fl_T_41 (tm_20 hb) rfl d_T_replica_224 ?_
                refine mr_iload_n ok (i := 1) d_T_replica_227 rfl rfl ?_
                refine rx_iald ok hB rfl (tm_33 hb) (ty_0 hb) rfl (lt5 hb hi) (by decide) d_T_replica_228 ?_
                refine sx_iret ok en (Nat.le_refl _) (Nat.le_refl _) d_T_replica_229 ?_
                exact ⟨(by first | rfl | (simp only [v_T_replica, if_neg h14_0, if_neg h20_1, if_neg h26_2, if_neg h47_3, if_neg h53_4_0, if_neg h53_4_1, if_neg h53_4_2, if_neg h53_4_3, if_neg h53_4_4, if_neg h53_4_5, if_neg h53_4_6, if_neg h53_4_7, if_neg h53_4_8, if_pos h53_4_9, if_pos h207_14, if_neg h216_15]; done) | (simp only [v_T_replica, if_neg h14_0, if_neg h20_1, if_neg h26_2, if_neg h47_3, if_neg h53_4_0, if_neg h53_4_1, if_neg h53_4_2, if_neg h53_4_3, if_neg h53_4_4, if_neg h53_4_5, if_neg h53_4_6, if_neg h53_4_7, if_neg h53_4_8, if_pos h53_4_9, if_pos h207_14, if_neg h216_15]; rfl)), (by first | rfl | (simp only [s_T_replica, if_neg h14_0, if_neg h20_1, if_neg h26_2, if_neg h47_3, if_neg h53_4_0, if_neg h53_4_1, if_neg h53_4_2, if_neg h53_4_3, if_neg h53_4_4, if_neg h53_4_5, if_neg h53_4_6, if_neg h53_4_7, if_neg h53_4_8, if_pos h53_4_9, if_pos h207_14, if_neg h216_15]; done) | (simp only [s_T_replica, if_neg h14_0, if_neg h20_1, if_neg h26_2, if_neg h47_3, if_neg h53_4_0, if_neg h53_4_1, if_neg h53_4_2, if_neg h53_4_3, if_neg h53_4_4, if_neg h53_4_5, if_neg h53_4_6, if_neg h53_4_7, if_neg h53_4_8, if_pos h53_4_9, if_pos h207_14, if_neg h216_15]; rfl))⟩
              · refine mr_iconst ok 0 d_T_replica_219 (by decide) ?_
                refine mr_goto ok 229 d_T_replica_220 (by decide) ?_
                refine sx_iret ok en (Nat.le_refl _) (Nat.le_refl _) d_T_replica_229 ?_
                exact ⟨(by first | rfl | (simp only [v_T_replica, if_neg h14_0, if_neg h20_1, if_neg h26_2, if_neg h47_3, if_neg h53_4_0, if_neg h53_4_1, if_neg h53_4_2, if_neg h53_4_3, if_neg h53_4_4, if_neg h53_4_5, if_neg h53_4_6, if_neg h53_4_7, if_neg h53_4_8, if_pos h53_4_9, if_pos h207_14, if_pos h216_15]; done) | (simp only [v_T_replica, if_neg h14_0, if_neg h20_1, if_neg h26_2, if_neg h47_3, if_neg h53_4_0, if_neg h53_4_1, if_neg h53_4_2, if_neg h53_4_3, if_neg h53_4_4, if_neg h53_4_5, if_neg h53_4_6, if_neg h53_4_7, if_neg h53_4_8, if_pos h53_4_9, if_pos h207_14, if_pos h216_15]; rfl)), (by first | rfl | (simp only [s_T_replica, if_neg h14_0, if_neg h20_1, if_neg h26_2, if_neg h47_3, if_neg h53_4_0, if_neg h53_4_1, if_neg h53_4_2, if_neg h53_4_3, if_neg h53_4_4, if_neg h53_4_5, if_neg h53_4_6, if_neg h53_4_7, if_neg h53_4_8, if_pos h53_4_9, if_pos h207_14, if_pos h216_15]; done) | (simp only [s_T_replica, if_neg h14_0, if_neg h20_1, if_neg h26_2, if_neg h47_3, if_neg h53_4_0, if_neg h53_4_1, if_neg h53_4_2, if_neg h53_4_3, if_neg h53_4_4, if_neg h53_4_5, if_neg h53_4_6, if_neg h53_4_7, if_neg h53_4_8, if_pos h53_4_9, if_pos h207_14, if_pos h216_15]; rfl))⟩
          by_cases h53_4_10 : y = 10
          · refine mr_tableIn (off := 177) ok 230 d_T_replica_53 (by rw [h53_4_10]; decide) (by rw [h53_4_10]; decide) (by rw [h53_4_10]; decide) (by decide) ?_
            refine mr_aload_n ok (i := 0) d_T_replica_230 rfl rfl ?_
            refine sx_getr ok hB fl_T_53 (tm_20 hb) rfl d_T_replica_231 ?_
            refine mr_iload_n ok (i := 1) d_T_replica_234 rfl rfl ?_
            refine rx_iald ok hB rfl (tm_37 hb) (ty_0 hb) rfl (lt5 hb hi) (by decide) d_T_replica_235 ?_
            refine sx_iret ok en (Nat.le_refl _) (Nat.le_refl _) d_T_replica_236 ?_
            exact ⟨(by first | rfl | (simp only [v_T_replica, if_neg h14_0, if_neg h20_1, if_neg h26_2, if_neg h47_3, if_neg h53_4_0, if_neg h53_4_1, if_neg h53_4_2, if_neg h53_4_3, if_neg h53_4_4, if_neg h53_4_5, if_neg h53_4_6, if_neg h53_4_7, if_neg h53_4_8, if_neg h53_4_9, if_pos h53_4_10]; done) | (simp only [v_T_replica, if_neg h14_0, if_neg h20_1, if_neg h26_2, if_neg h47_3, if_neg h53_4_0, if_neg h53_4_1, if_neg h53_4_2, if_neg h53_4_3, if_neg h53_4_4, if_neg h53_4_5, if_neg h53_4_6, if_neg h53_4_7, if_neg h53_4_8, if_neg h53_4_9, if_pos h53_4_10]; rfl)), (by first | rfl | (simp only [s_T_replica, if_neg h14_0, if_neg h20_1, if_neg h26_2, if_neg h47_3, if_neg h53_4_0, if_neg h53_4_1, if_neg h53_4_2, if_neg h53_4_3, if_neg h53_4_4, if_neg h53_4_5, if_neg h53_4_6, if_neg h53_4_7, if_neg h53_4_8, if_neg h53_4_9, if_pos h53_4_10]; done) | (simp only [s_T_replica, if_neg h14_0, if_neg h20_1, if_neg h26_2, if_neg h47_3, if_neg h53_4_0, if_neg h53_4_1, if_neg h53_4_2, if_neg h53_4_3, if_neg h53_4_4, if_neg h53_4_5, if_neg h53_4_6, if_neg h53_4_7, if_neg h53_4_8, if_neg h53_4_9, if_pos h53_4_10]; rfl))⟩
          by_cases h53_4_11 : y = 11
          · refine mr_tableIn (off := 184) ok 237 d_T_replica_53 (by rw [h53_4_11]; decide) (by rw [h53_4_11]; decide) (by rw [h53_4_11]; decide) (by decide) ?_
            refine mr_aload_n ok (i := 0) d_T_replica_237 rfl rfl ?_
            refine sx_getr ok hB fl_T_59 (tm_20 hb) rfl d_T_replica_238 ?_
            refine mr_iload_n ok (i := 1) d_T_replica_241 rfl rfl ?_
            refine rx_iald ok hB rfl (tm_39 hb) (ty_0 hb) rfl (lt5 hb hi) (by decide) d_T_replica_242 ?_
            refine sx_iret ok en (Nat.le_refl _) (Nat.le_refl _) d_T_replica_243 ?_
            exact ⟨(by first | rfl | (simp only [v_T_replica, if_neg h14_0, if_neg h20_1, if_neg h26_2, if_neg h47_3, if_neg h53_4_0, if_neg h53_4_1, if_neg h53_4_2, if_neg h53_4_3, if_neg h53_4_4, if_neg h53_4_5, if_neg h53_4_6, if_neg h53_4_7, if_neg h53_4_8, if_neg h53_4_9, if_neg h53_4_10, if_pos h53_4_11]; done) | (simp only [v_T_replica, if_neg h14_0, if_neg h20_1, if_neg h26_2, if_neg h47_3, if_neg h53_4_0, if_neg h53_4_1, if_neg h53_4_2, if_neg h53_4_3, if_neg h53_4_4, if_neg h53_4_5, if_neg h53_4_6, if_neg h53_4_7, if_neg h53_4_8, if_neg h53_4_9, if_neg h53_4_10, if_pos h53_4_11]; rfl)), (by first | rfl | (simp only [s_T_replica, if_neg h14_0, if_neg h20_1, if_neg h26_2, if_neg h47_3, if_neg h53_4_0, if_neg h53_4_1, if_neg h53_4_2, if_neg h53_4_3, if_neg h53_4_4, if_neg h53_4_5, if_neg h53_4_6, if_neg h53_4_7, if_neg h53_4_8, if_neg h53_4_9, if_neg h53_4_10, if_pos h53_4_11]; done) | (simp only [s_T_replica, if_neg h14_0, if_neg h20_1, if_neg h26_2, if_neg h47_3, if_neg h53_4_0, if_neg h53_4_1, if_neg h53_4_2, if_neg h53_4_3, if_neg h53_4_4, if_neg h53_4_5, if_neg h53_4_6, if_neg h53_4_7, if_neg h53_4_8, if_neg h53_4_9, if_neg h53_4_10, if_pos h53_4_11]; rfl))⟩
          have th53_4_0 := lv_neT h53_4_0 (a := 0) (by decide)
          have th53_4_1 := lv_neT h53_4_1 (a := 1) (by decide)
          have th53_4_2 := lv_neT h53_4_2 (a := 2) (by decide)
          have th53_4_3 := lv_neT h53_4_3 (a := 3) (by decide)
          have th53_4_4 := lv_neT h53_4_4 (a := 4) (by decide)
          have th53_4_5 := lv_neT h53_4_5 (a := 5) (by decide)
          have th53_4_6 := lv_neT h53_4_6 (a := 6) (by decide)
          have th53_4_7 := lv_neT h53_4_7 (a := 7) (by decide)
          have th53_4_8 := lv_neT h53_4_8 (a := 8) (by decide)
          have th53_4_9 := lv_neT h53_4_9 (a := 9) (by decide)
          have th53_4_10 := lv_neT h53_4_10 (a := 10) (by decide)
          have th53_4_11 := lv_neT h53_4_11 (a := 11) (by decide)
          refine mr_tableOut ok 244 d_T_replica_53 (by omega) (by decide) ?_
          refine mr_aload_n ok (i := 0) d_T_replica_244 rfl rfl ?_
          refine sx_getr ok hB fl_T_44 (tm_20 hb) rfl d_T_replica_245 ?_
          refine mr_iload_n ok (i := 1) d_T_replica_248 rfl rfl ?_
          refine rx_iald ok hB rfl (tm_34 hb) (ty_0 hb) rfl (lt5 hb hi) (by decide) d_T_replica_249 ?_
          refine sx_iret ok en (Nat.le_refl _) (Nat.le_refl _) d_T_replica_250 ?_
          exact ⟨(by first | rfl | (simp only [v_T_replica, if_neg h14_0, if_neg h20_1, if_neg h26_2, if_neg h47_3, if_neg h53_4_0, if_neg h53_4_1, if_neg h53_4_2, if_neg h53_4_3, if_neg h53_4_4, if_neg h53_4_5, if_neg h53_4_6, if_neg h53_4_7, if_neg h53_4_8, if_neg h53_4_9, if_neg h53_4_10, if_neg h53_4_11]; done) | (simp only [v_T_replica, if_neg h14_0, if_neg h20_1, if_neg h26_2, if_neg h47_3, if_neg h53_4_0, if_neg h53_4_1, if_neg h53_4_2, if_neg h53_4_3, if_neg h53_4_4, if_neg h53_4_5, if_neg h53_4_6, if_neg h53_4_7, if_neg h53_4_8, if_neg h53_4_9, if_neg h53_4_10, if_neg h53_4_11]; rfl)), (by first | rfl | (simp only [s_T_replica, if_neg h14_0, if_neg h20_1, if_neg h26_2, if_neg h47_3, if_neg h53_4_0, if_neg h53_4_1, if_neg h53_4_2, if_neg h53_4_3, if_neg h53_4_4, if_neg h53_4_5, if_neg h53_4_6, if_neg h53_4_7, if_neg h53_4_8, if_neg h53_4_9, if_neg h53_4_10, if_neg h53_4_11]; done) | (simp only [s_T_replica, if_neg h14_0, if_neg h20_1, if_neg h26_2, if_neg h47_3, if_neg h53_4_0, if_neg h53_4_1, if_neg h53_4_2, if_neg h53_4_3, if_neg h53_4_4, if_neg h53_4_5, if_neg h53_4_6, if_neg h53_4_7, if_neg h53_4_8, if_neg h53_4_9, if_neg h53_4_10, if_neg h53_4_11]; rfl))⟩
        · refine mr_iconst ok (-1) d_T_replica_50 (by decide) ?_
          refine sx_iret ok en (Nat.le_refl _) (Nat.le_refl _) d_T_replica_51 ?_
          exact ⟨(by first | rfl | (simp only [v_T_replica, if_neg h14_0, if_neg h20_1, if_neg h26_2, if_pos h47_3]; done) | (simp only [v_T_replica, if_neg h14_0, if_neg h20_1, if_neg h26_2, if_pos h47_3]; rfl)), (by first | rfl | (simp only [s_T_replica, if_neg h14_0, if_neg h20_1, if_neg h26_2, if_pos h47_3]; done) | (simp only [s_T_replica, if_neg h14_0, if_neg h20_1, if_neg h26_2, if_pos h47_3]; rfl))⟩
def v_T_replica_o (N L : Nat) (r : sh_S) (x : Int32) (y : Int32) : Int32 := (let r1 := sU r 20 0 0 0; (-1))
def s_T_replica_o (N L : Nat) (r : sh_S) (x : Int32) (y : Int32) : sh_S := (let r1 := sU r 20 0 0 0; r1)
set_option maxHeartbeats 4000000 in
set_option maxRecDepth 100000 in
theorem c_T_replica_o {B : sh_B} {Z : mx_Z} {N L : Nat} {cI cR cZ : ClassId} (hb : wB B Z N L cI cR cZ) {c r : sh_S} {x : Int32} {y : Int32} (ho : ¬ kF N x) : sc B Z y_T_replica b_T_replica 3 (some (.int)) (rmm 1 21) [.ref (B.2.1 20 0), .int x, .int y] (jn c r) (qe (some (.int (v_T_replica_o N L r x y))) (jn c (s_T_replica_o N L r x y))) := by
  refine ct_of (by decide) (Nat.le_of_ble_eq_true rfl) (cat_of rfl) ?_
  intro X ok en _
  have hB := hb.1
  refine mr_lv [(0, .ref (B.2.1 20 0)), (1, .int x), (2, .int y)] ⟨rfl, rfl, rfl, trivial⟩ ?_
  refine mr_aload_n ok (i := 0) d_T_replica_0 rfl rfl ?_
  refine mr_iconst ok 0 d_T_replica_1 (by decide) ?_
  refine rx_put ok hB rfl fw_T_72 (tm_20 hb) rfl rfl rfl d_T_replica_2 ?_
  refine mr_aload_n ok (i := 0) d_T_replica_5 rfl rfl ?_
  refine mr_iload_n ok (i := 1) d_T_replica_6 rfl rfl ?_
  refine sx_cVi ok hB [_] rfl cb_T_75 cv_T_isReplica (tm_20 hb) rfl rfl (c_T_isReplica_o hb ho) rfl (Nat.le_of_ble_eq_true rfl) (by decide) ⟨Nat.le_refl _, Nat.le_refl _⟩ d_T_replica_7 ?_
  refine mr_if_eq ok 50 d_T_replica_10 (by decide) (fun _ => ?_) (fun h => absurd h (by decide))
  refine mr_iconst ok (-1) d_T_replica_50 (by decide) ?_
  refine sx_iret ok en (Nat.le_refl _) (Nat.le_refl _) d_T_replica_51 ?_
  exact ⟨(by first | rfl | (simp only [v_T_replica_o]; done) | (simp only [v_T_replica_o]; rfl)), (by first | rfl | (simp only [s_T_replica_o]; done) | (simp only [s_T_replica_o]; rfl))⟩
def v_T_slot (N L : Nat) (r : sh_S) (i : Nat) (y : Int32) : Int32 := (let r1 := sU r 20 0 0 0; (if y ≤ (r1 26 0 i) then 0 else (if (r1 24 0 i) < y then 0 else (r1 30 0 ((((40 * (nI i)) + (y - y / 40 * 40)) : Int32).toNatClampNeg)))))
def s_T_slot (N L : Nat) (r : sh_S) (i : Nat) (y : Int32) : sh_S := (let r1 := sU r 20 0 0 0; (if y ≤ (r1 26 0 i) then r1 else (if (r1 24 0 i) < y then r1 else r1)))
set_option maxHeartbeats 4000000 in
set_option maxRecDepth 100000 in
theorem c_T_slot {B : sh_B} {Z : mx_Z} {N L : Nat} {cI cR cZ : ClassId} (hb : wB B Z N L cI cR cZ) {c r : sh_S} {i : Nat} (hi : i < N) {y : Int32} (hc : rK N r) : sc B Z y_T_slot b_T_slot 4 (some (.int)) (rmm 1 21) [.ref (B.2.1 20 0), .int (nI i), .int y] (jn c r) (qe (some (.int (v_T_slot N L r i y))) (jn c (s_T_slot N L r i y))) := by
  refine ct_of (by decide) (Nat.le_of_ble_eq_true rfl) (cat_of rfl) ?_
  intro X ok en _
  have hB := hb.1
  refine mr_lv [(0, .ref (B.2.1 20 0)), (1, .int (nI i)), (2, .int y)] ⟨rfl, rfl, rfl, trivial⟩ ?_
  refine mr_aload_n ok (i := 0) d_T_slot_0 rfl rfl ?_
  refine mr_iconst ok 0 d_T_slot_1 (by decide) ?_
  refine rx_put ok hB rfl fw_T_72 (tm_20 hb) rfl rfl rfl d_T_slot_2 ?_
  refine mr_aload_n ok (i := 0) d_T_slot_5 rfl rfl ?_
  refine mr_iload_n ok (i := 1) d_T_slot_6 rfl rfl ?_
  refine sx_cVi ok hB [_] rfl cb_T_75 cv_T_isReplica (tm_20 hb) rfl rfl (c_T_isReplica hb hi) rfl (Nat.le_of_ble_eq_true rfl) (by decide) ⟨Nat.le_refl _, Nat.le_refl _⟩ d_T_slot_7 ?_
  refine mr_if_eq ok 61 d_T_slot_10 (by decide) (fun h => absurd h (by decide)) (fun _ => ?_)
  refine mr_iload_n ok (i := 2) d_T_slot_13 rfl rfl ?_
  refine mr_aload_n ok (i := 0) d_T_slot_14 rfl rfl ?_
  refine sx_getr ok hB fl_T_20 (tm_20 hb) rfl d_T_slot_15 ?_
  refine mr_aload_n ok (i := 0) d_T_slot_18 rfl rfl ?_
  refine mr_iload_n ok (i := 1) d_T_slot_19 rfl rfl ?_
  refine sx_cVi ok hB [_] rfl cb_T_75 cv_T_isReplica (tm_20 hb) rfl rfl (c_T_isReplica hb hi) rfl (Nat.le_of_ble_eq_true rfl) (by decide) ⟨Nat.le_refl _, Nat.le_refl _⟩ d_T_slot_20 ?_
  refine mr_if_eq ok 30 d_T_slot_23 (by decide) (fun h => absurd h (by decide)) (fun _ => ?_)
  refine mr_iload_n ok (i := 1) d_T_slot_26 rfl rfl ?_
  refine mr_goto ok 31 d_T_slot_27 (by decide) ?_
  refine rx_iald ok hB rfl (tm_26 hb) (ty_0 hb) rfl (lt5 hb hi) (by decide) d_T_slot_31 ?_
  refine mr_icmp_le ok 61 d_T_slot_32 (by decide) (fun h32_0 => ?_) (fun h32_0 => ?_)
  · refine mr_iconst ok 0 d_T_slot_61 (by decide) ?_
    refine mr_istore_n ok (i := 3) d_T_slot_62 rfl (by decide) ?_
    refine mr_iload_n ok (i := 3) d_T_slot_63 rfl rfl ?_
    refine mr_if_eq ok 84 d_T_slot_64 (by decide) (fun _ => ?_) (fun h => absurd h (by decide))
    refine mr_iconst ok 0 d_T_slot_84 (by decide) ?_
    refine sx_iret ok en (Nat.le_refl _) (Nat.le_refl _) d_T_slot_85 ?_
    exact ⟨(by first | rfl | (simp only [v_T_slot, if_pos h32_0]; done) | (simp only [v_T_slot, if_pos h32_0]; rfl)), (by first | rfl | (simp only [s_T_slot, if_pos h32_0]; done) | (simp only [s_T_slot, if_pos h32_0]; rfl))⟩
  · refine mr_iload_n ok (i := 2) d_T_slot_35 rfl rfl ?_
    refine mr_aload_n ok (i := 0) d_T_slot_36 rfl rfl ?_
    refine sx_getr ok hB fl_T_13 (tm_20 hb) rfl d_T_slot_37 ?_
    refine mr_aload_n ok (i := 0) d_T_slot_40 rfl rfl ?_
    refine mr_iload_n ok (i := 1) d_T_slot_41 rfl rfl ?_
    refine sx_cVi ok hB [_] rfl cb_T_75 cv_T_isReplica (tm_20 hb) rfl rfl (c_T_isReplica hb hi) rfl (Nat.le_of_ble_eq_true rfl) (by decide) ⟨Nat.le_refl _, Nat.le_refl _⟩ d_T_slot_42 ?_
    refine mr_if_eq ok 52 d_T_slot_45 (by decide) (fun h => absurd h (by decide)) (fun _ => ?_)
    refine mr_iload_n ok (i := 1) d_T_slot_48 rfl rfl ?_
    refine mr_goto ok 53 d_T_slot_49 (by decide) ?_
    refine rx_iald ok hB rfl (tm_24 hb) (ty_0 hb) rfl (lt5 hb hi) (by decide) d_T_slot_53 ?_
    refine mr_icmp_gt ok 61 d_T_slot_54 (by decide) (fun h54_1 => ?_) (fun h54_1 => ?_)
    · refine mr_iconst ok 0 d_T_slot_61 (by decide) ?_
      refine mr_istore_n ok (i := 3) d_T_slot_62 rfl (by decide) ?_
      refine mr_iload_n ok (i := 3) d_T_slot_63 rfl rfl ?_
      refine mr_if_eq ok 84 d_T_slot_64 (by decide) (fun _ => ?_) (fun h => absurd h (by decide))
      refine mr_iconst ok 0 d_T_slot_84 (by decide) ?_
      refine sx_iret ok en (Nat.le_refl _) (Nat.le_refl _) d_T_slot_85 ?_
      exact ⟨(by first | rfl | (simp only [v_T_slot, if_neg h32_0, if_pos h54_1]; done) | (simp only [v_T_slot, if_neg h32_0, if_pos h54_1]; rfl)), (by first | rfl | (simp only [s_T_slot, if_neg h32_0, if_pos h54_1]; done) | (simp only [s_T_slot, if_neg h32_0, if_pos h54_1]; rfl))⟩
    · refine mr_iconst ok 1 d_T_slot_57 (by decide) ?_
      refine mr_goto ok 62 d_T_slot_58 (by decide) ?_
      refine mr_istore_n ok (i := 3) d_T_slot_62 rfl (by decide) ?_
      refine mr_iload_n ok (i := 3) d_T_slot_63 rfl rfl ?_
      refine mr_if_eq ok 84 d_T_slot_64 (by decide) (fun h => absurd h (by decide)) (fun _ => ?_)
      refine mr_aload_n ok (i := 0) d_T_slot_67 rfl rfl ?_
      refine sx_getr ok hB fl_T_32 (tm_20 hb) rfl d_T_slot_68 ?_
      refine mr_bipush ok 40 d_T_slot_71 (by decide) ?_
      refine mr_iload_n ok (i := 1) d_T_slot_73 rfl rfl ?_
      refine mr_imul ok d_T_slot_74 ?_
      refine mr_iload_n ok (i := 2) d_T_slot_75 rfl rfl ?_
      refine mr_bipush ok 40 d_T_slot_76 (by decide) ?_
      refine mr_irem ok d_T_slot_78 (by decide) ?_
      refine mr_iadd ok d_T_slot_79 ?_
      refine rx_ialdC ok hB rfl (tm_30 hb) (ty_0 hb) (kt_40 (lt5 hb hi) (kt_lnn' (hc.2 i hi).2.2 ‹_›)) d_T_slot_80 ?_
      refine mr_goto ok 85 d_T_slot_81 (by decide) ?_
      refine sx_iret ok en (Nat.le_refl _) (Nat.le_refl _) d_T_slot_85 ?_
      exact ⟨(by first | rfl | (simp only [v_T_slot, if_neg h32_0, if_neg h54_1]; done) | (simp only [v_T_slot, if_neg h32_0, if_neg h54_1]; rfl)), (by first | rfl | (simp only [s_T_slot, if_neg h32_0, if_neg h54_1]; done) | (simp only [s_T_slot, if_neg h32_0, if_neg h54_1]; rfl))⟩
def v_T_slot_o (N L : Nat) (r : sh_S) (x : Int32) (y : Int32) : Int32 := (let r1 := sU r 20 0 0 0; 0)
def s_T_slot_o (N L : Nat) (r : sh_S) (x : Int32) (y : Int32) : sh_S := (let r1 := sU r 20 0 0 0; r1)
set_option maxHeartbeats 4000000 in
set_option maxRecDepth 100000 in
theorem c_T_slot_o {B : sh_B} {Z : mx_Z} {N L : Nat} {cI cR cZ : ClassId} (hb : wB B Z N L cI cR cZ) {c r : sh_S} {x : Int32} {y : Int32} (ho : ¬ kF N x) : sc B Z y_T_slot b_T_slot 4 (some (.int)) (rmm 1 21) [.ref (B.2.1 20 0), .int x, .int y] (jn c r) (qe (some (.int (v_T_slot_o N L r x y))) (jn c (s_T_slot_o N L r x y))) := by
  refine ct_of (by decide) (Nat.le_of_ble_eq_true rfl) (cat_of rfl) ?_
  intro X ok en _
  have hB := hb.1
  refine mr_lv [(0, .ref (B.2.1 20 0)), (1, .int x), (2, .int y)] ⟨rfl, rfl, rfl, trivial⟩ ?_
  refine mr_aload_n ok (i := 0) d_T_slot_0 rfl rfl ?_
  refine mr_iconst ok 0 d_T_slot_1 (by decide) ?_
  refine rx_put ok hB rfl fw_T_72 (tm_20 hb) rfl rfl rfl d_T_slot_2 ?_
  refine mr_aload_n ok (i := 0) d_T_slot_5 rfl rfl ?_
  refine mr_iload_n ok (i := 1) d_T_slot_6 rfl rfl ?_
  refine sx_cVi ok hB [_] rfl cb_T_75 cv_T_isReplica (tm_20 hb) rfl rfl (c_T_isReplica_o hb ho) rfl (Nat.le_of_ble_eq_true rfl) (by decide) ⟨Nat.le_refl _, Nat.le_refl _⟩ d_T_slot_7 ?_
  refine mr_if_eq ok 61 d_T_slot_10 (by decide) (fun _ => ?_) (fun h => absurd h (by decide))
  refine mr_iconst ok 0 d_T_slot_61 (by decide) ?_
  refine mr_istore_n ok (i := 3) d_T_slot_62 rfl (by decide) ?_
  refine mr_iload_n ok (i := 3) d_T_slot_63 rfl rfl ?_
  refine mr_if_eq ok 84 d_T_slot_64 (by decide) (fun _ => ?_) (fun h => absurd h (by decide))
  refine mr_iconst ok 0 d_T_slot_84 (by decide) ?_
  refine sx_iret ok en (Nat.le_refl _) (Nat.le_refl _) d_T_slot_85 ?_
  exact ⟨(by first | rfl | (simp only [v_T_slot_o]; done) | (simp only [v_T_slot_o]; rfl)), (by first | rfl | (simp only [s_T_slot_o]; done) | (simp only [s_T_slot_o]; rfl))⟩
def v_T_waiting (N L : Nat) (r : sh_S) (i : Nat) (y : Int32) : Int32 := (let r1 := sU r 20 0 0 0; (if (v_T_isUp N L r1 i) = 0 then 0 else (if y < 0 then 0 else (if (r1 39 0 i) ≤ y then 0 else (r1 38 0 ((((8 * (nI i)) + y) : Int32).toNatClampNeg))))))
def s_T_waiting (N L : Nat) (r : sh_S) (i : Nat) (y : Int32) : sh_S := (let r1 := sU r 20 0 0 0; (if (v_T_isUp N L r1 i) = 0 then r1 else (if y < 0 then r1 else (if (r1 39 0 i) ≤ y then r1 else r1))))
set_option maxHeartbeats 4000000 in
set_option maxRecDepth 100000 in
theorem c_T_waiting {B : sh_B} {Z : mx_Z} {N L : Nat} {cI cR cZ : ClassId} (hb : wB B Z N L cI cR cZ) {c r : sh_S} {i : Nat} (hi : i < N) {y : Int32} (hc : rK N r) : sc B Z y_T_waiting b_T_waiting 3 (some (.int)) (rmm 2 42) [.ref (B.2.1 20 0), .int (nI i), .int y] (jn c r) (qe (some (.int (v_T_waiting N L r i y))) (jn c (s_T_waiting N L r i y))) := by
  refine ct_of (by decide) (Nat.le_of_ble_eq_true rfl) (cat_of rfl) ?_
  intro X ok en _
  have hB := hb.1
  refine mr_lv [(0, .ref (B.2.1 20 0)), (1, .int (nI i)), (2, .int y)] ⟨rfl, rfl, rfl, trivial⟩ ?_
  refine mr_aload_n ok (i := 0) d_T_waiting_0 rfl rfl ?_
  refine mr_iconst ok 0 d_T_waiting_1 (by decide) ?_
  refine rx_put ok hB rfl fw_T_72 (tm_20 hb) rfl rfl rfl d_T_waiting_2 ?_
  refine mr_aload_n ok (i := 0) d_T_waiting_5 rfl rfl ?_
  refine mr_iload_n ok (i := 1) d_T_waiting_6 rfl rfl ?_
  refine sx_cVi ok hB [_] rfl cb_T_135 cv_T_isUp (tm_20 hb) rfl rfl (c_T_isUp hb hi) rfl (Nat.le_of_ble_eq_true rfl) (by decide) ⟨Nat.le_refl _, Nat.le_refl _⟩ d_T_waiting_7 ?_
  refine mr_if_eq ok 53 d_T_waiting_10 (by decide) (fun h10_0 => ?_) (fun h10_0 => ?_)
  · refine mr_iconst ok 0 d_T_waiting_53 (by decide) ?_
    refine sx_iret ok en (Nat.le_refl _) (Nat.le_refl _) d_T_waiting_54 ?_
    exact ⟨(by first | rfl | (simp only [v_T_waiting, if_pos h10_0]; done) | (simp only [v_T_waiting, if_pos h10_0]; rfl)), (by first | rfl | (simp only [s_T_waiting, if_pos h10_0]; done) | (simp only [s_T_waiting, if_pos h10_0]; rfl))⟩
  · refine mr_iload_n ok (i := 2) d_T_waiting_13 rfl rfl ?_
    refine mr_if_lt ok 53 d_T_waiting_14 (by decide) (fun h14_1 => ?_) (fun h14_1 => ?_)
    · refine mr_iconst ok 0 d_T_waiting_53 (by decide) ?_
      refine sx_iret ok en (Nat.le_refl _) (Nat.le_refl _) d_T_waiting_54 ?_
      exact ⟨(by first | rfl | (simp only [v_T_waiting, if_neg h10_0, if_pos h14_1]; done) | (simp only [v_T_waiting, if_neg h10_0, if_pos h14_1]; rfl)), (by first | rfl | (simp only [s_T_waiting, if_neg h10_0, if_pos h14_1]; done) | (simp only [s_T_waiting, if_neg h10_0, if_pos h14_1]; rfl))⟩
    · refine mr_iload_n ok (i := 2) d_T_waiting_17 rfl rfl ?_
      refine mr_aload_n ok (i := 0) d_T_waiting_18 rfl rfl ?_
      refine sx_getr ok hB fl_T_59 (tm_20 hb) rfl d_T_waiting_19 ?_
      refine mr_aload_n ok (i := 0) d_T_waiting_22 rfl rfl ?_
      refine mr_iload_n ok (i := 1) d_T_waiting_23 rfl rfl ?_
      refine sx_cVi ok hB [_] rfl cb_T_135 cv_T_isUp (tm_20 hb) rfl rfl (c_T_isUp hb hi) rfl (Nat.le_of_ble_eq_true rfl) (by decide) ⟨Nat.le_refl _, Nat.le_refl _⟩ d_T_waiting_24 ?_
      refine mr_if_eq ok 34 d_T_waiting_27 (by decide) (fun h => absurd h h10_0) (fun _ => ?_)
      refine mr_iload_n ok (i := 1) d_T_waiting_30 rfl rfl ?_
      refine mr_goto ok 35 d_T_waiting_31 (by decide) ?_
      refine rx_iald ok hB rfl (tm_39 hb) (ty_0 hb) rfl (lt5 hb hi) (by decide) d_T_waiting_35 ?_
      refine mr_icmp_ge ok 53 d_T_waiting_36 (by decide) (fun h36_2 => ?_) (fun h36_2 => ?_)
      · refine mr_iconst ok 0 d_T_waiting_53 (by decide) ?_
        refine sx_iret ok en (Nat.le_refl _) (Nat.le_refl _) d_T_waiting_54 ?_
        exact ⟨(by first | rfl | (simp only [v_T_waiting, if_neg h10_0, if_neg h14_1, if_pos h36_2]; done) | (simp only [v_T_waiting, if_neg h10_0, if_neg h14_1, if_pos h36_2]; rfl)), (by first | rfl | (simp only [s_T_waiting, if_neg h10_0, if_neg h14_1, if_pos h36_2]; done) | (simp only [s_T_waiting, if_neg h10_0, if_neg h14_1, if_pos h36_2]; rfl))⟩
      · refine mr_aload_n ok (i := 0) d_T_waiting_39 rfl rfl ?_
        refine sx_getr ok hB fl_T_56 (tm_20 hb) rfl d_T_waiting_40 ?_
        refine mr_bipush ok 8 d_T_waiting_43 (by decide) ?_
        refine mr_iload_n ok (i := 1) d_T_waiting_45 rfl rfl ?_
        refine mr_imul ok d_T_waiting_46 ?_
        refine mr_iload_n ok (i := 2) d_T_waiting_47 rfl rfl ?_
        refine mr_iadd ok d_T_waiting_48 ?_
        refine rx_ialdC ok hB rfl (tm_38 hb) (ty_0 hb) (kt_w (lt5 hb hi) (hc.2 i hi).1 ‹_› ‹_›) d_T_waiting_49 ?_
        refine mr_goto ok 54 d_T_waiting_50 (by decide) ?_
        refine sx_iret ok en (Nat.le_refl _) (Nat.le_refl _) d_T_waiting_54 ?_
        exact ⟨(by first | rfl | (simp only [v_T_waiting, if_neg h10_0, if_neg h14_1, if_neg h36_2]; done) | (simp only [v_T_waiting, if_neg h10_0, if_neg h14_1, if_neg h36_2]; rfl)), (by first | rfl | (simp only [s_T_waiting, if_neg h10_0, if_neg h14_1, if_neg h36_2]; done) | (simp only [s_T_waiting, if_neg h10_0, if_neg h14_1, if_neg h36_2]; rfl))⟩
def v_T_waiting_o (N L : Nat) (r : sh_S) (x : Int32) (y : Int32) : Int32 := (let r1 := sU r 20 0 0 0; 0)
def s_T_waiting_o (N L : Nat) (r : sh_S) (x : Int32) (y : Int32) : sh_S := (let r1 := sU r 20 0 0 0; r1)
set_option maxHeartbeats 4000000 in
set_option maxRecDepth 100000 in
theorem c_T_waiting_o {B : sh_B} {Z : mx_Z} {N L : Nat} {cI cR cZ : ClassId} (hb : wB B Z N L cI cR cZ) {c r : sh_S} {x : Int32} {y : Int32} (ho : ¬ kF N x) : sc B Z y_T_waiting b_T_waiting 3 (some (.int)) (rmm 2 42) [.ref (B.2.1 20 0), .int x, .int y] (jn c r) (qe (some (.int (v_T_waiting_o N L r x y))) (jn c (s_T_waiting_o N L r x y))) := by
  refine ct_of (by decide) (Nat.le_of_ble_eq_true rfl) (cat_of rfl) ?_
  intro X ok en _
  have hB := hb.1
  refine mr_lv [(0, .ref (B.2.1 20 0)), (1, .int x), (2, .int y)] ⟨rfl, rfl, rfl, trivial⟩ ?_
  refine mr_aload_n ok (i := 0) d_T_waiting_0 rfl rfl ?_
  refine mr_iconst ok 0 d_T_waiting_1 (by decide) ?_
  refine rx_put ok hB rfl fw_T_72 (tm_20 hb) rfl rfl rfl d_T_waiting_2 ?_
  refine mr_aload_n ok (i := 0) d_T_waiting_5 rfl rfl ?_
  refine mr_iload_n ok (i := 1) d_T_waiting_6 rfl rfl ?_
  refine sx_cVi ok hB [_] rfl cb_T_135 cv_T_isUp (tm_20 hb) rfl rfl (c_T_isUp_o hb ho) rfl (Nat.le_of_ble_eq_true rfl) (by decide) ⟨Nat.le_refl _, Nat.le_refl _⟩ d_T_waiting_7 ?_
  refine sx_top (y := 0) rfl ?_
  refine mr_if_eq ok 53 d_T_waiting_10 (by decide) (fun _ => ?_) (fun h => absurd h (by decide))
  refine mr_iconst ok 0 d_T_waiting_53 (by decide) ?_
  refine sx_iret ok en (Nat.le_refl _) (Nat.le_refl _) d_T_waiting_54 ?_
  exact ⟨(by first | rfl | (simp only [v_T_waiting_o]; done) | (simp only [v_T_waiting_o]; rfl)), (by first | rfl | (simp only [s_T_waiting_o]; done) | (simp only [s_T_waiting_o]; rfl))⟩
def v_T_message (N L : Nat) (r : sh_S) (x : Int32) (y : Int32) : Int32 := (let r1 := sU r 20 0 0 0; (if x < 0 then (-1) else (if (r1 20 0 21) ≤ x then (-1) else (if y < 0 then (-1) else (if y ≤ 6 then (r1 40 0 ((((7 * x) + y) : Int32).toNatClampNeg)) else (-1))))))
def s_T_message (N L : Nat) (r : sh_S) (x : Int32) (y : Int32) : sh_S := (let r1 := sU r 20 0 0 0; (if x < 0 then r1 else (if (r1 20 0 21) ≤ x then r1 else (if y < 0 then r1 else (if y ≤ 6 then r1 else r1)))))
set_option maxHeartbeats 4000000 in
set_option maxRecDepth 100000 in
theorem c_T_message {B : sh_B} {Z : mx_Z} {N L : Nat} {cI cR cZ : ClassId} (hb : wB B Z N L cI cR cZ) {c r : sh_S} {x : Int32} {y : Int32} (hc : rK N r) : sc B Z y_T_message b_T_message 3 (some (.int)) (rmm 0 0) [.ref (B.2.1 20 0), .int x, .int y] (jn c r) (qe (some (.int (v_T_message N L r x y))) (jn c (s_T_message N L r x y))) := by
  refine ct_of (by decide) (Nat.le_of_ble_eq_true rfl) (cat_of rfl) ?_
  intro X ok en _
  have hB := hb.1
  refine mr_lv [(0, .ref (B.2.1 20 0)), (1, .int x), (2, .int y)] ⟨rfl, rfl, rfl, trivial⟩ ?_
  refine mr_aload_n ok (i := 0) d_T_message_0 rfl rfl ?_
  refine mr_iconst ok 0 d_T_message_1 (by decide) ?_
  refine rx_put ok hB rfl fw_T_72 (tm_20 hb) rfl rfl rfl d_T_message_2 ?_
  refine mr_iload_n ok (i := 1) d_T_message_5 rfl rfl ?_
  refine mr_if_lt ok 27 d_T_message_6 (by decide) (fun h6_0 => ?_) (fun h6_0 => ?_)
  · refine mr_iconst ok (-1) d_T_message_27 (by decide) ?_
    refine mr_goto ok 42 d_T_message_28 (by decide) ?_
    refine sx_iret ok en (Nat.le_refl _) (Nat.le_refl _) d_T_message_42 ?_
    exact ⟨(by first | rfl | (simp only [v_T_message, if_pos h6_0]; done) | (simp only [v_T_message, if_pos h6_0]; rfl)), (by first | rfl | (simp only [s_T_message, if_pos h6_0]; done) | (simp only [s_T_message, if_pos h6_0]; rfl))⟩
  · refine mr_iload_n ok (i := 1) d_T_message_9 rfl rfl ?_
    refine mr_aload_n ok (i := 0) d_T_message_10 rfl rfl ?_
    refine rx_geti ok hB rfl fl_T_82 (tm_20 hb) rfl d_T_message_11 ?_
    refine mr_icmp_ge ok 27 d_T_message_14 (by decide) (fun h14_1 => ?_) (fun h14_1 => ?_)
    · refine mr_iconst ok (-1) d_T_message_27 (by decide) ?_
      refine mr_goto ok 42 d_T_message_28 (by decide) ?_
      refine sx_iret ok en (Nat.le_refl _) (Nat.le_refl _) d_T_message_42 ?_
      exact ⟨(by first | rfl | (simp only [v_T_message, if_neg h6_0, if_pos h14_1]; done) | (simp only [v_T_message, if_neg h6_0, if_pos h14_1]; rfl)), (by first | rfl | (simp only [s_T_message, if_neg h6_0, if_pos h14_1]; done) | (simp only [s_T_message, if_neg h6_0, if_pos h14_1]; rfl))⟩
    · refine mr_iload_n ok (i := 2) d_T_message_17 rfl rfl ?_
      refine mr_if_lt ok 27 d_T_message_18 (by decide) (fun h18_2 => ?_) (fun h18_2 => ?_)
      · refine mr_iconst ok (-1) d_T_message_27 (by decide) ?_
        refine mr_goto ok 42 d_T_message_28 (by decide) ?_
        refine sx_iret ok en (Nat.le_refl _) (Nat.le_refl _) d_T_message_42 ?_
        exact ⟨(by first | rfl | (simp only [v_T_message, if_neg h6_0, if_neg h14_1, if_pos h18_2]; done) | (simp only [v_T_message, if_neg h6_0, if_neg h14_1, if_pos h18_2]; rfl)), (by first | rfl | (simp only [s_T_message, if_neg h6_0, if_neg h14_1, if_pos h18_2]; done) | (simp only [s_T_message, if_neg h6_0, if_neg h14_1, if_pos h18_2]; rfl))⟩
      · refine mr_iload_n ok (i := 2) d_T_message_21 rfl rfl ?_
        refine mr_bipush ok 6 d_T_message_22 (by decide) ?_
        refine mr_icmp_le ok 31 d_T_message_24 (by decide) (fun h24_3 => ?_) (fun h24_3 => ?_)
        · refine mr_aload_n ok (i := 0) d_T_message_31 rfl rfl ?_
          refine sx_getr ok hB fl_T_62 (tm_20 hb) rfl d_T_message_32 ?_
          refine mr_bipush ok 7 d_T_message_35 (by decide) ?_
          refine mr_iload_n ok (i := 1) d_T_message_37 rfl rfl ?_
          refine mr_imul ok d_T_message_38 ?_
          refine mr_iload_n ok (i := 2) d_T_message_39 rfl rfl ?_
          refine mr_iadd ok d_T_message_40 ?_
          refine rx_ialdC ok hB rfl (tm_40 hb) (ty_0 hb) (kt_dy (kt_rm' hc.1 ‹_› ‹_›) ‹_› ‹_›) d_T_message_41 ?_
          refine sx_iret ok en (Nat.le_refl _) (Nat.le_refl _) d_T_message_42 ?_
          exact ⟨(by first | rfl | (simp only [v_T_message, if_neg h6_0, if_neg h14_1, if_neg h18_2, if_pos h24_3]; done) | (simp only [v_T_message, if_neg h6_0, if_neg h14_1, if_neg h18_2, if_pos h24_3]; rfl)), (by first | rfl | (simp only [s_T_message, if_neg h6_0, if_neg h14_1, if_neg h18_2, if_pos h24_3]; done) | (simp only [s_T_message, if_neg h6_0, if_neg h14_1, if_neg h18_2, if_pos h24_3]; rfl))⟩
        · refine mr_iconst ok (-1) d_T_message_27 (by decide) ?_
          refine mr_goto ok 42 d_T_message_28 (by decide) ?_
          refine sx_iret ok en (Nat.le_refl _) (Nat.le_refl _) d_T_message_42 ?_
          exact ⟨(by first | rfl | (simp only [v_T_message, if_neg h6_0, if_neg h14_1, if_neg h18_2, if_neg h24_3]; done) | (simp only [v_T_message, if_neg h6_0, if_neg h14_1, if_neg h18_2, if_neg h24_3]; rfl)), (by first | rfl | (simp only [s_T_message, if_neg h6_0, if_neg h14_1, if_neg h18_2, if_neg h24_3]; done) | (simp only [s_T_message, if_neg h6_0, if_neg h14_1, if_neg h18_2, if_neg h24_3]; rfl))⟩
def lv_T_look (N L : Nat) : Nat → sh_S → Int32 → Int32 → Int32 → Int32
  | 0, _, _, _, _ => 0
  | n + 1, r, x, a, b => (if (nI N) ≤ b then (if x = 0 then (nI N) else (if x = 1 then (nI L) else (if x = 2 then (r 20 0 21) else (if x = 3 then (r 20 0 22) else (if x = 4 then (r 20 0 23) else (if x = 5 then a else (-1))))))) else (if (r 24 0 ((b : Int32).toNatClampNeg)) ≤ a then (lv_T_look N L n r x a (b + 1)) else (lv_T_look N L n r x (r 24 0 ((b : Int32).toNatClampNeg)) (b + 1))))
set_option maxHeartbeats 4000000 in
set_option maxRecDepth 100000 in
theorem l_T_look {B : sh_B} {Z : mx_Z} {N L : Nat} {cI cR cZ : ClassId} (hb : wB B Z N L cI cR cZ) {c : sh_S} {x : Int32} {X : mx_C} {V0 : Option Value} {S0 : sh_S} (ok : mx_ok X Z R_T b_T_look 4 (rmm 0 0)) (en : sx_end B X (some (.int)) (rmm 0 0) (qe V0 S0)) : ∀ (n : Nat) (r : sh_S) (a : Int32) (b : Int32), (∃ k : Nat, b = nI k ∧ k ≤ N ∧ N + 1 ≤ k + n) → V0 = some (.int (lv_T_look N L n r x a b)) → S0 = (jn c r) → sx B X (0, 0) 9 [(0, .ref (B.2.1 20 0)), (1, .int x), (2, .int a), (3, .int b)] [] (jn c r) := by
  have hB := hb.1
  intro n
  induction n with
  | zero =>
    intro r a b hh _ _
    obtain ⟨k, h1, h2, h3⟩ := hh
    omega
  | succ n ih =>
    intro r a b hh hV hS
    obtain ⟨k, h1, h2, h3⟩ := hh
    have h5 := hb.2.2.2.1.2
    refine mr_iload_n ok (i := 3) d_T_look_9 rfl rfl ?_
    refine mr_aload_n ok (i := 0) d_T_look_10 rfl rfl ?_
    refine sx_getr ok hB fl_T_65 (tm_20 hb) rfl d_T_look_11 ?_
    refine mr_icmp_ge ok 44 d_T_look_14 (by decide) (fun h14_0 => ?_) (fun h14_0 => ?_)
    · refine mr_iload_n ok (i := 1) d_T_look_44 rfl rfl ?_
      by_cases h45_1_0 : x = 0
      · refine mr_tableIn (off := 39) ok 84 d_T_look_45 (by rw [h45_1_0]; decide) (by rw [h45_1_0]; decide) (by rw [h45_1_0]; decide) (by decide) ?_
        refine mr_aload_n ok (i := 0) d_T_look_84 rfl rfl ?_
        refine sx_getr ok hB fl_T_65 (tm_20 hb) rfl d_T_look_85 ?_
        refine sx_iret ok en (Nat.le_refl _) (Nat.le_refl _) d_T_look_88 ?_
        exact ⟨(by rw [hV]; simp only [lv_T_look, if_pos h14_0, if_pos h45_1_0]), (by rw [hS])⟩
      by_cases h45_1_1 : x = 1
      · refine mr_tableIn (off := 44) ok 89 d_T_look_45 (by rw [h45_1_1]; decide) (by rw [h45_1_1]; decide) (by rw [h45_1_1]; decide) (by decide) ?_
        refine mr_aload_n ok (i := 0) d_T_look_89 rfl rfl ?_
        refine sx_getr ok hB fl_T_69 (tm_20 hb) rfl d_T_look_90 ?_
        refine sx_iret ok en (Nat.le_refl _) (Nat.le_refl _) d_T_look_93 ?_
        exact ⟨(by rw [hV]; simp only [lv_T_look, if_pos h14_0, if_neg h45_1_0, if_pos h45_1_1]), (by rw [hS])⟩
      by_cases h45_1_2 : x = 2
      · refine mr_tableIn (off := 49) ok 94 d_T_look_45 (by rw [h45_1_2]; decide) (by rw [h45_1_2]; decide) (by rw [h45_1_2]; decide) (by decide) ?_
        refine mr_aload_n ok (i := 0) d_T_look_94 rfl rfl ?_
        refine rx_geti ok hB rfl fl_T_82 (tm_20 hb) rfl d_T_look_95 ?_
        refine sx_iret ok en (Nat.le_refl _) (Nat.le_refl _) d_T_look_98 ?_
        exact ⟨(by rw [hV]; simp only [lv_T_look, if_pos h14_0, if_neg h45_1_0, if_neg h45_1_1, if_pos h45_1_2]), (by rw [hS])⟩
      by_cases h45_1_3 : x = 3
      · refine mr_tableIn (off := 54) ok 99 d_T_look_45 (by rw [h45_1_3]; decide) (by rw [h45_1_3]; decide) (by rw [h45_1_3]; decide) (by decide) ?_
        refine mr_aload_n ok (i := 0) d_T_look_99 rfl rfl ?_
        refine rx_geti ok hB rfl fl_T_79 (tm_20 hb) rfl d_T_look_100 ?_
        refine sx_iret ok en (Nat.le_refl _) (Nat.le_refl _) d_T_look_103 ?_
        exact ⟨(by rw [hV]; simp only [lv_T_look, if_pos h14_0, if_neg h45_1_0, if_neg h45_1_1, if_neg h45_1_2, if_pos h45_1_3]), (by rw [hS])⟩
      by_cases h45_1_4 : x = 4
      · refine mr_tableIn (off := 59) ok 104 d_T_look_45 (by rw [h45_1_4]; decide) (by rw [h45_1_4]; decide) (by rw [h45_1_4]; decide) (by decide) ?_
        refine mr_aload_n ok (i := 0) d_T_look_104 rfl rfl ?_
        refine rx_geti ok hB rfl fl_T_85 (tm_20 hb) rfl d_T_look_105 ?_
        refine sx_iret ok en (Nat.le_refl _) (Nat.le_refl _) d_T_look_108 ?_
        exact ⟨(by rw [hV]; simp only [lv_T_look, if_pos h14_0, if_neg h45_1_0, if_neg h45_1_1, if_neg h45_1_2, if_neg h45_1_3, if_pos h45_1_4]), (by rw [hS])⟩
      by_cases h45_1_5 : x = 5
      · refine mr_tableIn (off := 64) ok 109 d_T_look_45 (by rw [h45_1_5]; decide) (by rw [h45_1_5]; decide) (by rw [h45_1_5]; decide) (by decide) ?_
        refine mr_iload_n ok (i := 2) d_T_look_109 rfl rfl ?_
        refine sx_iret ok en (Nat.le_refl _) (Nat.le_refl _) d_T_look_110 ?_
        exact ⟨(by rw [hV]; simp only [lv_T_look, if_pos h14_0, if_neg h45_1_0, if_neg h45_1_1, if_neg h45_1_2, if_neg h45_1_3, if_neg h45_1_4, if_pos h45_1_5]), (by rw [hS])⟩
      have th45_1_0 := lv_neT h45_1_0 (a := 0) (by decide)
      have th45_1_1 := lv_neT h45_1_1 (a := 1) (by decide)
      have th45_1_2 := lv_neT h45_1_2 (a := 2) (by decide)
      have th45_1_3 := lv_neT h45_1_3 (a := 3) (by decide)
      have th45_1_4 := lv_neT h45_1_4 (a := 4) (by decide)
      have th45_1_5 := lv_neT h45_1_5 (a := 5) (by decide)
      refine mr_tableOut ok 111 d_T_look_45 (by omega) (by decide) ?_
      refine mr_iconst ok (-1) d_T_look_111 (by decide) ?_
      refine sx_iret ok en (Nat.le_refl _) (Nat.le_refl _) d_T_look_112 ?_
      exact ⟨(by rw [hV]; simp only [lv_T_look, if_pos h14_0, if_neg h45_1_0, if_neg h45_1_1, if_neg h45_1_2, if_neg h45_1_3, if_neg h45_1_4, if_neg h45_1_5]), (by rw [hS])⟩
    · refine mr_aload_n ok (i := 0) d_T_look_17 rfl rfl ?_
      refine sx_getr ok hB fl_T_13 (tm_20 hb) rfl d_T_look_18 ?_
      refine mr_iload_n ok (i := 3) d_T_look_21 rfl rfl ?_
      refine rx_ialdC ok hB rfl (tm_24 hb) (ty_0 hb) (by have := kf5 h1 ‹_› h2 h5; exact kt_in 5 h1 (by omega) (by decide)) d_T_look_22 ?_
      refine mr_iload_n ok (i := 2) d_T_look_23 rfl rfl ?_
      refine mr_icmp_le ok 36 d_T_look_24 (by decide) (fun h24_1 => ?_) (fun h24_1 => ?_)
      · refine mr_iload_n ok (i := 2) d_T_look_36 rfl rfl ?_
        refine mr_istore_n ok (i := 2) d_T_look_37 rfl (by decide) ?_
        refine mr_iinc ok _ d_T_look_38 rfl rfl (by decide) ?_
        refine mr_goto ok 9 d_T_look_41 (by decide) ?_
        refine mr_lv [(0, .ref (B.2.1 20 0)), (1, .int x), (2, .int a), (3, .int (b + 1))] ⟨rfl, rfl, rfl, rfl, trivial⟩ ?_
        exact ih _ _ _ (ks_rec h1 h2 h3 ‹_› (by omega)) (hV.trans (by simp only [lv_T_look, if_neg h14_0, if_pos h24_1])) hS
      · refine mr_aload_n ok (i := 0) d_T_look_27 rfl rfl ?_
        refine sx_getr ok hB fl_T_13 (tm_20 hb) rfl d_T_look_28 ?_
        refine mr_iload_n ok (i := 3) d_T_look_31 rfl rfl ?_
        refine rx_ialdC ok hB rfl (tm_24 hb) (ty_0 hb) (by have := kf5 h1 ‹_› h2 h5; exact kt_in 5 h1 (by omega) (by decide)) d_T_look_32 ?_
        refine mr_goto ok 37 d_T_look_33 (by decide) ?_
        refine mr_istore_n ok (i := 2) d_T_look_37 rfl (by decide) ?_
        refine mr_iinc ok _ d_T_look_38 rfl rfl (by decide) ?_
        refine mr_goto ok 9 d_T_look_41 (by decide) ?_
        refine mr_lv [(0, .ref (B.2.1 20 0)), (1, .int x), (2, .int (r 24 0 ((b : Int32).toNatClampNeg))), (3, .int (b + 1))] ⟨rfl, rfl, rfl, rfl, trivial⟩ ?_
        exact ih _ _ _ (ks_rec h1 h2 h3 ‹_› (by omega)) (hV.trans (by simp only [lv_T_look, if_neg h14_0, if_neg h24_1])) hS
def v_T_look (N L : Nat) (r : sh_S) (x : Int32) : Int32 := (let r1 := sU r 20 0 0 0; (lv_T_look N L 6 r1 x 0 0))
def s_T_look (N L : Nat) (r : sh_S) (x : Int32) : sh_S := (let r1 := sU r 20 0 0 0; r1)
set_option maxHeartbeats 4000000 in
set_option maxRecDepth 100000 in
theorem c_T_look {B : sh_B} {Z : mx_Z} {N L : Nat} {cI cR cZ : ClassId} (hb : wB B Z N L cI cR cZ) {c r : sh_S} {x : Int32} : sc B Z y_T_look b_T_look 4 (some (.int)) (rmm 0 0) [.ref (B.2.1 20 0), .int x] (jn c r) (qe (some (.int (v_T_look N L r x))) (jn c (s_T_look N L r x))) := by
  refine ct_of (by decide) (Nat.le_of_ble_eq_true rfl) (cat_of rfl) ?_
  intro X ok en _
  have hB := hb.1
  refine mr_lv [(0, .ref (B.2.1 20 0)), (1, .int x)] ⟨rfl, rfl, trivial⟩ ?_
  refine mr_aload_n ok (i := 0) d_T_look_0 rfl rfl ?_
  refine mr_iconst ok 0 d_T_look_1 (by decide) ?_
  refine rx_put ok hB rfl fw_T_72 (tm_20 hb) rfl rfl rfl d_T_look_2 ?_
  refine mr_iconst ok 0 d_T_look_5 (by decide) ?_
  refine mr_istore_n ok (i := 2) d_T_look_6 rfl (by decide) ?_
  refine mr_iconst ok 0 d_T_look_7 (by decide) ?_
  refine mr_istore_n ok (i := 3) d_T_look_8 rfl (by decide) ?_
  refine mr_lv [(0, .ref (B.2.1 20 0)), (1, .int x), (2, .int 0), (3, .int 0)] ⟨rfl, rfl, rfl, rfl, trivial⟩ ?_
  exact l_T_look hb ok en 6 _ _ _ ⟨0, rfl, Nat.zero_le _, by have := hb.2.2.2.1.2; omega⟩ rfl rfl
