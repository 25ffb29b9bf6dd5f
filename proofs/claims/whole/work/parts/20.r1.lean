/-! the reference's bounds -/
def rK (N : Nat) (r : sh_S) : Prop := (∃ q : Nat, q ≤ 200 ∧ r 20 0 21 = nI q) ∧ ∀ i, i < N → (∃ q : Nat, q ≤ 8 ∧ r 39 0 i = nI q) ∧ ¬ r 24 0 i < 0 ∧ ¬ r 26 0 i < 0
theorem lt5 {B : sh_B} {Z : mx_Z} {N L : Nat} {cI cR cZ : ClassId} (hb : wB B Z N L cI cR cZ) {i : Nat} (hi : i < N) : i < 5 := Nat.lt_of_lt_of_le hi hb.2.2.2.1.2
theorem sx_top {B : sh_B} {X : mx_C} {n : Nat × Nat} {pc : Nat} {lv : List (Nat × Value)} {st : List Value} {S : sh_S} {x y : Int32} (h : x = y) (kk : sx B X n pc lv (.int y :: st) S) : sx B X n pc lv (.int x :: st) S := by
  subst h
  exact kk
theorem kF_in {N i : Nat} (hi : i < N) (hN : N ≤ 5) : kF N (nI i) := ⟨nI_pos (by omega), nI_ge hi (by omega)⟩
set_option maxHeartbeats 4000000 in
set_option maxRecDepth 100000 in
theorem c_T_isReplicaG {B : sh_B} {Z : mx_Z} {N L : Nat} {cI cR cZ : ClassId} (hb : wB B Z N L cI cR cZ) {S : sh_S} {x : Int32} : sc B Z y_T_isReplica b_T_isReplica 2 (some (.boolean)) (rmm 0 0) [.ref (B.2.1 20 0), .int x] S (qe (some (.int (if kF N x then 1 else 0))) S) := by
  refine ct_of (by decide) (Nat.le_of_ble_eq_true rfl) (cat_of rfl) ?_
  intro X ok en _
  have hB := hb.1
  refine mr_lv [(0, .ref (B.2.1 20 0)), (1, .int x)] ⟨rfl, rfl, trivial⟩ ?_
  refine mr_iload_n ok (i := 1) d_T_isReplica_0 rfl rfl ?_
  refine mr_if_lt ok 16 d_T_isReplica_1 (by decide) (fun h1 => ?_) (fun h1 => ?_)
  · refine mr_iconst ok 0 d_T_isReplica_16 (by decide) ?_
    refine sx_zret rfl ok en (Nat.le_refl _) (Nat.le_refl _) d_T_isReplica_17 ?_
    exact ⟨by rw [if_neg (fun z => z.1 h1)], rfl⟩
  · refine mr_iload_n ok (i := 1) d_T_isReplica_4 rfl rfl ?_
    refine mr_aload_n ok (i := 0) d_T_isReplica_5 rfl rfl ?_
    refine sx_getr ok hB fl_T_65 (tm_20 hb) rfl d_T_isReplica_6 ?_
    refine mr_icmp_ge ok 16 d_T_isReplica_9 (by decide) (fun h9 => ?_) (fun h9 => ?_)
    · refine mr_iconst ok 0 d_T_isReplica_16 (by decide) ?_
      refine sx_zret rfl ok en (Nat.le_refl _) (Nat.le_refl _) d_T_isReplica_17 ?_
      exact ⟨by rw [if_neg (fun z => z.2 h9)], rfl⟩
    · refine mr_iconst ok 1 d_T_isReplica_12 (by decide) ?_
      refine mr_goto ok 17 d_T_isReplica_13 (by decide) ?_
      refine sx_zret rfl ok en (Nat.le_refl _) (Nat.le_refl _) d_T_isReplica_17 ?_
      exact ⟨by rw [if_pos ⟨h1, h9⟩], rfl⟩
theorem c_T_isReplica {B : sh_B} {Z : mx_Z} {N L : Nat} {cI cR cZ : ClassId} (hb : wB B Z N L cI cR cZ) {c r : sh_S} {i : Nat} (hi : i < N) : sc B Z y_T_isReplica b_T_isReplica 2 (some (.boolean)) (rmm 0 0) [.ref (B.2.1 20 0), .int (nI i)] (jn c r) (qe (some (.int 1)) (jn c r)) := by
  have h := c_T_isReplicaG hb (S := jn c r) (x := nI i)
  rw [if_pos (kF_in hi hb.2.2.2.1.2)] at h
  exact h
theorem c_T_isReplica_o {B : sh_B} {Z : mx_Z} {N L : Nat} {cI cR cZ : ClassId} (hb : wB B Z N L cI cR cZ) {c r : sh_S} {x : Int32} (ho : ¬ kF N x) : sc B Z y_T_isReplica b_T_isReplica 2 (some (.boolean)) (rmm 0 0) [.ref (B.2.1 20 0), .int x] (jn c r) (qe (some (.int 0)) (jn c r)) := by
  have h := c_T_isReplicaG hb (S := jn c r) (x := x)
  rw [if_neg ho] at h
  exact h
theorem kt_lt {q : Nat} {y : Int32} (h1 : q ≤ 200) (h2 : y = nI q) (h : ¬ y = 200) : q < 200 := by
  rcases Nat.lt_or_ge q 200 with z | z
  · exact z
  · exact absurd (by rw [h2, show q = 200 by omega]; rfl) h
theorem kt_s0 {r : sh_S} (hc : ∃ q : Nat, q ≤ 200 ∧ r 20 0 21 = nI q) (h : ¬ r 20 0 21 = 200) : vp_in (7 * r 20 0 21) 1407 := by
  obtain ⟨q, h1, h2⟩ := hc
  have := kt_lt h1 h2 h
  rw [h2, n7, pk_mul]
  exact vp_in_nI (by omega) (by decide)
theorem kt_s {r : sh_S} (hc : ∃ q : Nat, q ≤ 200 ∧ r 20 0 21 = nI q) (h : ¬ r 20 0 21 = 200) (k : Nat) (hk : k < 7) : vp_in (7 * r 20 0 21 + nI k) 1407 := by
  obtain ⟨q, h1, h2⟩ := hc
  have := kt_lt h1 h2 h
  rw [h2, n7, pk_mul, nI_add]
  exact vp_in_nI (by omega) (by decide)
theorem kt_r1 {q k n : Nat} {r : sh_S} {a : Int32} (h1 : q ≤ 199) (h2 : r 20 0 21 = nI q) (h3 : a = nI k) (h4 : k ≤ 7 * q) (h : ¬ 7 * r 20 0 21 ≤ a) : k < 7 * q := by
  rw [h2, h3, n7, pk_mul] at h
  exact Nat.lt_of_not_le fun z => h (nI_le z (by omega))
theorem kt_in {k : Nat} {a : Int32} (N : Nat) (h3 : a = nI k) (h : k < N) (hN : N ≤ 100000) : vp_in a N := by
  rw [h3]
  exact vp_in_nI h (by omega)
theorem kt_in7 {k : Nat} {a : Int32} (N : Nat) (h3 : a = nI k) (h : k + 7 < N) (hN : N ≤ 100000) : vp_in (a + 7) N := by
  rw [h3, n7, nI_add]
  exact vp_in_nI h (by omega)
theorem kt_8 {i k : Nat} {b : Int32} (hi : i < 5) (h3 : b = nI k) (h : k < 8) : vp_in (8 * nI i + b) 40 := by
  rw [h3, show (8 : Int32) = nI 8 from rfl, pk_mul, nI_add]
  exact vp_in_nI (by omega) (by decide)
theorem kt_80 {i : Nat} (hi : i < 5) : vp_in (8 * nI i) 40 := by
  rw [show (8 : Int32) = nI 8 from rfl, pk_mul]
  exact vp_in_nI (by omega) (by decide)
theorem kt_40 {i : Nat} {y : Int32} (hi : i < 5) (h : ¬ y < 0) : vp_in (40 * nI i + (y - y / 40 * 40)) 200 := by
  obtain ⟨q, hq, rfl⟩ := nI_of h
  rw [show (40 : Int32) = nI 40 from rfl, pk_rem hq (by decide) (by decide), pk_mul, nI_add]
  have := Nat.mod_lt q (show 0 < 40 by decide)
  exact vp_in_nI (by omega) (by decide)
theorem kt_lnn {a b : Int32} (h : ¬ a < 0) (h2 : a < b) : ¬ b < 0 := by
  intro z
  exact h (Int32.lt_trans h2 z)
theorem kt_lnn' {a b : Int32} (h : ¬ a < 0) (h2 : ¬ b ≤ a) : ¬ b < 0 := kt_lnn h (Int32.not_le.mp h2)
theorem sU_self {S : sh_S} {k i j : Nat} {v : Int32} : sU S k i j v k i j = v := by
  unfold sU
  rw [Nat.beq_refl, Nat.beq_refl, Nat.beq_refl]
  rfl
theorem kc_rec {N k n : Nat} {M : Nat} {m b : Int32} (h0 : M ≤ 10000) (h1 : m = nI M) (h2 : b = nI k) (h3 : k ≤ M + 5) (h4 : M + 7 ≤ k + (n + 1)) (h : ¬ m < b) (hN : 3 ≤ N ∧ N ≤ 5) : ∃ M k : Nat, M ≤ 10000 ∧ m = nI M ∧ b + nI N = nI k ∧ k ≤ M + 5 ∧ M + 7 ≤ k + n := by
  rw [h1, h2] at h
  have : k ≤ M := Nat.le_of_not_lt fun z => h (nI_lt z (by omega))
  exact ⟨M, k + N, h0, h1, by rw [h2, nI_add], by omega, by omega⟩

def v_T_isUp (N L : Nat) (r : sh_S) (i : Nat) : Int32 := (if (r 23 0 i) = 0 then 0 else 1)
set_option maxHeartbeats 4000000 in
set_option maxRecDepth 100000 in
theorem c_T_isUp {B : sh_B} {Z : mx_Z} {N L : Nat} {cI cR cZ : ClassId} (hb : wB B Z N L cI cR cZ) {c r : sh_S} {i : Nat} (hi : i < N) : sc B Z y_T_isUp b_T_isUp 2 (some (.boolean)) (rmm 1 21) [.ref (B.2.1 20 0), .int (nI i)] (jn c r) (qe (some (.int (v_T_isUp N L r i))) (jn c r)) := by
  refine ct_of (by decide) (Nat.le_of_ble_eq_true rfl) (cat_of rfl) ?_
  intro X ok en _
  have hB := hb.1
  refine mr_lv [(0, .ref (B.2.1 20 0)), (1, .int (nI i))] ⟨rfl, rfl, trivial⟩ ?_
  refine mr_aload_n ok (i := 0) d_T_isUp_0 rfl rfl ?_
  refine mr_iload_n ok (i := 1) d_T_isUp_1 rfl rfl ?_
  refine sx_cVi ok hB [_] rfl cb_T_75 cv_T_isReplica (tm_20 hb) rfl rfl (c_T_isReplica hb hi) rfl (Nat.le_of_ble_eq_true rfl) (by decide) ⟨Nat.le_refl _, Nat.le_refl _⟩ d_T_isUp_2 ?_
  refine mr_if_eq ok 33 d_T_isUp_5 (by decide) (fun h => absurd h (by decide)) (fun _ => ?_)
  refine mr_aload_n ok (i := 0) d_T_isUp_8 rfl rfl ?_
  refine sx_getr ok hB fl_T_7 (tm_20 hb) rfl d_T_isUp_9 ?_
  refine mr_aload_n ok (i := 0) d_T_isUp_12 rfl rfl ?_
  refine mr_iload_n ok (i := 1) d_T_isUp_13 rfl rfl ?_
  refine sx_cVi ok hB [_] rfl cb_T_75 cv_T_isReplica (tm_20 hb) rfl rfl (c_T_isReplica hb hi) rfl (Nat.le_of_ble_eq_true rfl) (by decide) ⟨Nat.le_refl _, Nat.le_refl _⟩ d_T_isUp_14 ?_
  refine mr_if_eq ok 24 d_T_isUp_17 (by decide) (fun h => absurd h (by decide)) (fun _ => ?_)
  refine mr_iload_n ok (i := 1) d_T_isUp_20 rfl rfl ?_
  refine mr_goto ok 25 d_T_isUp_21 (by decide) ?_
  refine rx_zald ok hB rfl (tm_23 hb) (ty_2 hb) rfl (lt5 hb hi) (by decide) d_T_isUp_25 ?_
  refine mr_if_eq ok 33 d_T_isUp_26 (by decide) (fun h26_0 => ?_) (fun h26_0 => ?_)
  · refine mr_iconst ok 0 d_T_isUp_33 (by decide) ?_
    refine sx_zret rfl ok en (Nat.le_refl _) (Nat.le_refl _) d_T_isUp_34 ?_
    exact ⟨(by first | rfl | simp only [v_T_isUp, if_pos h26_0]), (by first | rfl | simp only [s_T_isUp, if_pos h26_0])⟩
  · refine mr_iconst ok 1 d_T_isUp_29 (by decide) ?_
    refine mr_goto ok 34 d_T_isUp_30 (by decide) ?_
    refine sx_zret rfl ok en (Nat.le_refl _) (Nat.le_refl _) d_T_isUp_34 ?_
    exact ⟨(by first | rfl | simp only [v_T_isUp, if_neg h26_0]), (by first | rfl | simp only [s_T_isUp, if_neg h26_0])⟩
def v_T_isUp_o (N L : Nat) (r : sh_S) (x : Int32) : Int32 := 0
set_option maxHeartbeats 4000000 in
set_option maxRecDepth 100000 in
theorem c_T_isUp_o {B : sh_B} {Z : mx_Z} {N L : Nat} {cI cR cZ : ClassId} (hb : wB B Z N L cI cR cZ) {c r : sh_S} {x : Int32} (ho : ¬ kF N x) : sc B Z y_T_isUp b_T_isUp 2 (some (.boolean)) (rmm 1 21) [.ref (B.2.1 20 0), .int x] (jn c r) (qe (some (.int (v_T_isUp_o N L r x))) (jn c r)) := by
  refine ct_of (by decide) (Nat.le_of_ble_eq_true rfl) (cat_of rfl) ?_
  intro X ok en _
  have hB := hb.1
  refine mr_lv [(0, .ref (B.2.1 20 0)), (1, .int x)] ⟨rfl, rfl, trivial⟩ ?_
  refine mr_aload_n ok (i := 0) d_T_isUp_0 rfl rfl ?_
  refine mr_iload_n ok (i := 1) d_T_isUp_1 rfl rfl ?_
  refine sx_cVi ok hB [_] rfl cb_T_75 cv_T_isReplica (tm_20 hb) rfl rfl (c_T_isReplica_o hb ho) rfl (Nat.le_of_ble_eq_true rfl) (by decide) ⟨Nat.le_refl _, Nat.le_refl _⟩ d_T_isUp_2 ?_
  refine mr_if_eq ok 33 d_T_isUp_5 (by decide) (fun _ => ?_) (fun h => absurd h (by decide))
  refine mr_iconst ok 0 d_T_isUp_33 (by decide) ?_
  refine sx_zret rfl ok en (Nat.le_refl _) (Nat.le_refl _) d_T_isUp_34 ?_
  exact ⟨(by first | rfl | simp only [v_T_isUp_o]), (by first | rfl | simp only [s_T_isUp_o])⟩
def s_T_send (N L : Nat) (r : sh_S) (x1 : Int32) (x2 : Int32) (x3 : Int32) (x4 : Int32) (x5 : Int32) (x6 : Int32) (x7 : Int32) : sh_S := (let r1 := sU r 20 0 22 ((r 20 0 22) + 1); (if (r1 20 0 21) = 200 then (let r10 := sU r1 20 0 23 ((r1 20 0 23) + 1); r10) else (let r2 := sU r1 40 0 (((7 * (r1 20 0 21)) : Int32).toNatClampNeg) x1; (let r3 := sU r2 40 0 ((((7 * (r1 20 0 21)) + 1) : Int32).toNatClampNeg) x2; (let r4 := sU r3 40 0 ((((7 * (r1 20 0 21)) + 2) : Int32).toNatClampNeg) x3; (let r5 := sU r4 40 0 ((((7 * (r1 20 0 21)) + 3) : Int32).toNatClampNeg) x4; (let r6 := sU r5 40 0 ((((7 * (r1 20 0 21)) + 4) : Int32).toNatClampNeg) x5; (let r7 := sU r6 40 0 ((((7 * (r1 20 0 21)) + 5) : Int32).toNatClampNeg) x6; (let r8 := sU r7 40 0 ((((7 * (r1 20 0 21)) + 6) : Int32).toNatClampNeg) x7; (let r9 := sU r8 20 0 21 ((r8 20 0 21) + 1); r9))))))))))
set_option maxHeartbeats 4000000 in
set_option maxRecDepth 100000 in
theorem c_T_send {B : sh_B} {Z : mx_Z} {N L : Nat} {cI cR cZ : ClassId} (hb : wB B Z N L cI cR cZ) {c r : sh_S} {x1 : Int32} {x2 : Int32} {x3 : Int32} {x4 : Int32} {x5 : Int32} {x6 : Int32} {x7 : Int32} (hc : ∃ q : Nat, q ≤ 200 ∧ r 20 0 21 = nI q) : sc B Z y_T_send b_T_send 9 none (rmm 0 0) [.ref (B.2.1 20 0), .int x1, .int x2, .int x3, .int x4, .int x5, .int x6, .int x7] (jn c r) (qe none (jn c (s_T_send N L r x1 x2 x3 x4 x5 x6 x7))) := by
  refine ct_of (by decide) (Nat.le_of_ble_eq_true rfl) (cat_of rfl) ?_
  intro X ok en _
  have hB := hb.1
  refine mr_lv [(0, .ref (B.2.1 20 0)), (1, .int x1), (2, .int x2), (3, .int x3), (4, .int x4), (5, .int x5), (6, .int x6), (7, .int x7)] ⟨rfl, rfl, rfl, rfl, rfl, rfl, rfl, rfl, trivial⟩ ?_
  refine mr_aload_n ok (i := 0) d_T_send_0 rfl rfl ?_
  refine mr_dup ok d_T_send_1 rfl ?_
  refine rx_geti ok hB rfl fl_T_79 (tm_20 hb) rfl d_T_send_2 ?_
  refine mr_iconst ok 1 d_T_send_5 (by decide) ?_
  refine mr_iadd ok d_T_send_6 ?_
  refine rx_put ok hB rfl fw_T_79 (tm_20 hb) rfl rfl rfl d_T_send_7 ?_
  refine mr_aload_n ok (i := 0) d_T_send_10 rfl rfl ?_
  refine rx_geti ok hB rfl fl_T_82 (tm_20 hb) rfl d_T_send_11 ?_
  refine mr_sipush ok 200 d_T_send_14 (by decide) ?_
  refine mr_icmp_ne ok 31 d_T_send_17 (by decide) (fun h17_0 => ?_) (fun h17_0 => ?_)
  · refine mr_bipush ok 7 d_T_send_31 (by decide) ?_
    refine mr_aload_n ok (i := 0) d_T_send_33 rfl rfl ?_
    refine rx_geti ok hB rfl fl_T_82 (tm_20 hb) rfl d_T_send_34 ?_
    refine mr_imul ok d_T_send_37 ?_
    refine mr_istore ok d_T_send_38 (by decide) ?_
    refine mr_aload_n ok (i := 0) d_T_send_40 rfl rfl ?_
    refine sx_getr ok hB fl_T_62 (tm_20 hb) rfl d_T_send_41 ?_
    refine mr_iload ok d_T_send_44 rfl ?_
    refine mr_iload_n ok (i := 1) d_T_send_46 rfl rfl ?_
    refine rx_iastC ok hB rfl (tm_40 hb) (ty_0 hb) (kt_s0 hc ‹_›) d_T_send_47 ?_
    refine mr_aload_n ok (i := 0) d_T_send_48 rfl rfl ?_
    refine sx_getr ok hB fl_T_62 (tm_20 hb) rfl d_T_send_49 ?_
    refine mr_iload ok d_T_send_52 rfl ?_
    refine mr_iconst ok 1 d_T_send_54 (by decide) ?_
    refine mr_iadd ok d_T_send_55 ?_
    refine mr_iload_n ok (i := 2) d_T_send_56 rfl rfl ?_
    refine rx_iastC ok hB rfl (tm_40 hb) (ty_0 hb) (kt_s hc ‹_› 1 (by decide)) d_T_send_57 ?_
    refine mr_aload_n ok (i := 0) d_T_send_58 rfl rfl ?_
    refine sx_getr ok hB fl_T_62 (tm_20 hb) rfl d_T_send_59 ?_
    refine mr_iload ok d_T_send_62 rfl ?_
    refine mr_iconst ok 2 d_T_send_64 (by decide) ?_
    refine mr_iadd ok d_T_send_65 ?_
    refine mr_iload_n ok (i := 3) d_T_send_66 rfl rfl ?_
    refine rx_iastC ok hB rfl (tm_40 hb) (ty_0 hb) (kt_s hc ‹_› 2 (by decide)) d_T_send_67 ?_
    refine mr_aload_n ok (i := 0) d_T_send_68 rfl rfl ?_
    refine sx_getr ok hB fl_T_62 (tm_20 hb) rfl d_T_send_69 ?_
    refine mr_iload ok d_T_send_72 rfl ?_
    refine mr_iconst ok 3 d_T_send_74 (by decide) ?_
    refine mr_iadd ok d_T_send_75 ?_
    refine mr_iload ok d_T_send_76 rfl ?_
    refine rx_iastC ok hB rfl (tm_40 hb) (ty_0 hb) (kt_s hc ‹_› 3 (by decide)) d_T_send_78 ?_
    refine mr_aload_n ok (i := 0) d_T_send_79 rfl rfl ?_
    refine sx_getr ok hB fl_T_62 (tm_20 hb) rfl d_T_send_80 ?_
    refine mr_iload ok d_T_send_83 rfl ?_
    refine mr_iconst ok 4 d_T_send_85 (by decide) ?_
    refine mr_iadd ok d_T_send_86 ?_
    refine mr_iload ok d_T_send_87 rfl ?_
    refine rx_iastC ok hB rfl (tm_40 hb) (ty_0 hb) (kt_s hc ‹_› 4 (by decide)) d_T_send_89 ?_
    refine mr_aload_n ok (i := 0) d_T_send_90 rfl rfl ?_
    refine sx_getr ok hB fl_T_62 (tm_20 hb) rfl d_T_send_91 ?_
    refine mr_iload ok d_T_send_94 rfl ?_
    refine mr_iconst ok 5 d_T_send_96 (by decide) ?_
    refine mr_iadd ok d_T_send_97 ?_
    refine mr_iload ok d_T_send_98 rfl ?_
    refine rx_iastC ok hB rfl (tm_40 hb) (ty_0 hb) (kt_s hc ‹_› 5 (by decide)) d_T_send_100 ?_
    refine mr_aload_n ok (i := 0) d_T_send_101 rfl rfl ?_
    refine sx_getr ok hB fl_T_62 (tm_20 hb) rfl d_T_send_102 ?_
    refine mr_iload ok d_T_send_105 rfl ?_
    refine mr_bipush ok 6 d_T_send_107 (by decide) ?_
    refine mr_iadd ok d_T_send_109 ?_
    refine mr_iload ok d_T_send_110 rfl ?_
    refine rx_iastC ok hB rfl (tm_40 hb) (ty_0 hb) (kt_s hc ‹_› 6 (by decide)) d_T_send_112 ?_
    refine mr_aload_n ok (i := 0) d_T_send_113 rfl rfl ?_
    refine mr_dup ok d_T_send_114 rfl ?_
    refine rx_geti ok hB rfl fl_T_82 (tm_20 hb) rfl d_T_send_115 ?_
    refine mr_iconst ok 1 d_T_send_118 (by decide) ?_
    refine mr_iadd ok d_T_send_119 ?_
    refine rx_put ok hB rfl fw_T_82 (tm_20 hb) rfl rfl rfl d_T_send_120 ?_
    refine sx_vret ok en (Nat.le_refl _) (Nat.le_refl _) d_T_send_123 ?_
    exact ⟨rfl, (by first | rfl | simp only [s_T_send, if_neg h17_0])⟩
  · refine mr_aload_n ok (i := 0) d_T_send_20 rfl rfl ?_
    refine mr_dup ok d_T_send_21 rfl ?_
    refine rx_geti ok hB rfl fl_T_85 (tm_20 hb) rfl d_T_send_22 ?_
    refine mr_iconst ok 1 d_T_send_25 (by decide) ?_
    refine mr_iadd ok d_T_send_26 ?_
    refine rx_put ok hB rfl fw_T_85 (tm_20 hb) rfl rfl rfl d_T_send_27 ?_
    refine sx_vret ok en (Nat.le_refl _) (Nat.le_refl _) d_T_send_30 ?_
    exact ⟨rfl, (by first | rfl | simp only [s_T_send, if_pos h17_0])⟩
theorem rK_T_send {N L : Nat} {r : sh_S} {x1 x2 x3 x4 x5 x6 x7 : Int32} (hc : rK N r) : rK N (s_T_send N L r x1 x2 x3 x4 x5 x6 x7) := by
  unfold s_T_send
  dsimp only
  obtain ⟨⟨q, h1, h2⟩, h3⟩ := hc
  split
  · exact ⟨⟨q, h1, h2⟩, h3⟩
  next h =>
    have := kt_lt h1 h2 h
    refine ⟨⟨q + 1, by omega, ?_⟩, h3⟩
    show r 20 0 21 + 1 = nI (q + 1)
    rw [h2, nI_1]

def ls_T_sendAll (N L : Nat) : Nat → sh_S → Int32 → Int32 → Int32 → Int32 → Int32 → Int32 → sh_S
  | 0, r, _, _, _, _, _, _ => r
  | n + 1, r, x1, x2, x3, x4, x5, a => (if (nI N) ≤ a then r else (if a = x2 then (ls_T_sendAll N L n r x1 x2 x3 x4 x5 (a + 1)) else (let r1 := s_T_send N L r x1 x2 a x3 x4 x5 0; (ls_T_sendAll N L n r1 x1 x2 x3 x4 x5 (a + 1)))))
set_option maxHeartbeats 4000000 in
set_option maxRecDepth 100000 in
theorem l_T_sendAll {B : sh_B} {Z : mx_Z} {N L : Nat} {cI cR cZ : ClassId} (hb : wB B Z N L cI cR cZ) {c : sh_S} {x1 : Int32} {x2 : Int32} {x3 : Int32} {x4 : Int32} {x5 : Int32} {X : mx_C} {V0 : Option Value} {S0 : sh_S} (ok : mx_ok X Z R_T b_T_sendAll 7 (rmm 1 28)) (en : sx_end B X none (rmm 1 28) (qe V0 S0)) (hV : V0 = none) : ∀ (n : Nat) (r : sh_S) (a : Int32), (rK N r ∧ ∃ k : Nat, a = nI k ∧ k ≤ N ∧ N + 1 ≤ k + n) → S0 = (jn c (ls_T_sendAll N L n r x1 x2 x3 x4 x5 a)) → sx B X (0, 0) 3 [(0, .ref (B.2.1 20 0)), (1, .int x1), (2, .int x2), (3, .int x3), (4, .int x4), (5, .int x5), (6, .int a)] [] (jn c r) := by
  have hB := hb.1
  intro n
  induction n with
  | zero =>
    intro r a hh _
    obtain ⟨-, k, h1, h2, h3⟩ := hh
    omega
  | succ n ih =>
    intro r a hh hS
    obtain ⟨hc, k, h1, h2, h3⟩ := hh
    refine mr_iload ok d_T_sendAll_3 rfl ?_
    refine mr_aload_n ok (i := 0) d_T_sendAll_5 rfl rfl ?_
    refine sx_getr ok hB fl_T_65 (tm_20 hb) rfl d_T_sendAll_6 ?_
    refine mr_icmp_ge ok 38 d_T_sendAll_9 (by decide) (fun h9_0 => ?_) (fun h9_0 => ?_)
    · refine sx_vret ok en (Nat.le_refl _) (Nat.le_refl _) d_T_sendAll_38 ?_
      exact ⟨(by rw [hV]), (by rw [hS]; simp only [ls_T_sendAll, if_pos h9_0])⟩
    · refine mr_iload ok d_T_sendAll_12 rfl ?_
      refine mr_iload_n ok (i := 2) d_T_sendAll_14 rfl rfl ?_
      refine mr_icmp_eq ok 32 d_T_sendAll_15 (by decide) (fun h15_1 => ?_) (fun h15_1 => ?_)
      · refine mr_iinc ok _ d_T_sendAll_32 rfl rfl (by decide) ?_
        refine mr_goto ok 3 d_T_sendAll_35 (by decide) ?_
        refine mr_lv [(0, .ref (B.2.1 20 0)), (1, .int x1), (2, .int x2), (3, .int x3), (4, .int x4), (5, .int x5), (6, .int (a + 1))] ⟨rfl, rfl, rfl, rfl, rfl, rfl, rfl, trivial⟩ ?_
        exact ih _ _ ⟨hc, ks_rec h1 h2 h3 ‹_› (by have := hb.2.2.2.1.2; omega)⟩ (hS.trans (by simp only [ls_T_sendAll, if_neg h9_0, if_pos h15_1]))
      · refine mr_aload_n ok (i := 0) d_T_sendAll_18 rfl rfl ?_
        refine mr_iload_n ok (i := 1) d_T_sendAll_19 rfl rfl ?_
        refine mr_iload_n ok (i := 2) d_T_sendAll_20 rfl rfl ?_
        refine mr_iload ok d_T_sendAll_21 rfl ?_
        refine mr_iload_n ok (i := 3) d_T_sendAll_23 rfl rfl ?_
        refine mr_iload ok d_T_sendAll_24 rfl ?_
        refine mr_iload ok d_T_sendAll_26 rfl ?_
        refine mr_iconst ok 0 d_T_sendAll_28 (by decide) ?_
        refine sx_cVv ok hB [_, _, _, _, _, _, _] rfl cb_T_88 cv_T_send (tm_20 hb) rfl rfl (c_T_send hb (by exact hc.1)) rfl (Nat.le_of_ble_eq_true rfl) (by decide) ⟨Nat.le_refl _, Nat.le_refl _⟩ d_T_sendAll_29 ?_
        have hc : rK N (s_T_send N L r x1 x2 a x3 x4 x5 0) := rK_T_send (L := L) hc
        refine mr_iinc ok _ d_T_sendAll_32 rfl rfl (by decide) ?_
        refine mr_goto ok 3 d_T_sendAll_35 (by decide) ?_
        refine mr_lv [(0, .ref (B.2.1 20 0)), (1, .int x1), (2, .int x2), (3, .int x3), (4, .int x4), (5, .int x5), (6, .int (a + 1))] ⟨rfl, rfl, rfl, rfl, rfl, rfl, rfl, trivial⟩ ?_
        exact ih _ _ ⟨hc, ks_rec h1 h2 h3 ‹_› (by have := hb.2.2.2.1.2; omega)⟩ (hS.trans (by simp only [ls_T_sendAll, if_neg h9_0, if_neg h15_1]))
def s_T_sendAll (N L : Nat) (r : sh_S) (x1 : Int32) (x2 : Int32) (x3 : Int32) (x4 : Int32) (x5 : Int32) : sh_S := (ls_T_sendAll N L 6 r x1 x2 x3 x4 x5 0)
set_option maxHeartbeats 4000000 in
set_option maxRecDepth 100000 in
theorem c_T_sendAll {B : sh_B} {Z : mx_Z} {N L : Nat} {cI cR cZ : ClassId} (hb : wB B Z N L cI cR cZ) {c r : sh_S} {x1 : Int32} {x2 : Int32} {x3 : Int32} {x4 : Int32} {x5 : Int32} (hc : rK N r) : sc B Z y_T_sendAll b_T_sendAll 7 none (rmm 1 28) [.ref (B.2.1 20 0), .int x1, .int x2, .int x3, .int x4, .int x5] (jn c r) (qe none (jn c (s_T_sendAll N L r x1 x2 x3 x4 x5))) := by
  refine ct_of (by decide) (Nat.le_of_ble_eq_true rfl) (cat_of rfl) ?_
  intro X ok en _
  have hB := hb.1
  refine mr_lv [(0, .ref (B.2.1 20 0)), (1, .int x1), (2, .int x2), (3, .int x3), (4, .int x4), (5, .int x5)] ⟨rfl, rfl, rfl, rfl, rfl, rfl, trivial⟩ ?_
  refine mr_iconst ok 0 d_T_sendAll_0 (by decide) ?_
  refine mr_istore ok d_T_sendAll_1 (by decide) ?_
  refine mr_lv [(0, .ref (B.2.1 20 0)), (1, .int x1), (2, .int x2), (3, .int x3), (4, .int x4), (5, .int x5), (6, .int 0)] ⟨rfl, rfl, rfl, rfl, rfl, rfl, rfl, trivial⟩ ?_
  exact l_T_sendAll hb ok en rfl 6 _ _ ⟨hc, 0, rfl, Nat.zero_le _, by have := hb.2.2.2.1.2; omega⟩ rfl
theorem rK_lsendAll {N L : Nat} {x1 x2 x3 x4 x5 : Int32} : ∀ (n : Nat) (r : sh_S) (a : Int32), rK N r → rK N (ls_T_sendAll N L n r x1 x2 x3 x4 x5 a) := by
  intro n
  induction n with
  | zero =>
    intro r a hc
    exact hc
  | succ n ih =>
    intro r a hc
    unfold ls_T_sendAll
    split
    · exact hc
    · split
      · exact ih _ _ hc
      · exact ih _ _ (rK_T_send hc)
theorem rK_T_sendAll {N L : Nat} {r : sh_S} {x1 x2 x3 x4 x5 : Int32} (hc : rK N r) : rK N (s_T_sendAll N L r x1 x2 x3 x4 x5) := rK_lsendAll 6 r 0 hc
theorem kt_rinit {r : sh_S} {x : Int32} (hc : ∃ q j : Nat, q ≤ 200 ∧ r 20 0 21 = nI q ∧ j < q ∧ x = nI j) : ∃ q k : Nat, q ≤ 199 ∧ (sU r 20 0 21 (r 20 0 21 - 1)) 20 0 21 = nI q ∧ 7 * x = nI k ∧ k ≤ 7 * q ∧ 7 * q + 1 ≤ k + 1400 := by
  obtain ⟨q, j, h1, h2, h3, h4⟩ := hc
  refine ⟨q - 1, 7 * j, by omega, ?_, ?_, by omega, by omega⟩
  · show r 20 0 21 - 1 = nI (q - 1)
    rw [h2, show (1 : Int32) = nI 1 from rfl, pk_sub (by omega)]
  · rw [h4, n7, pk_mul]

def ls_T_remove (N L : Nat) : Nat → sh_S → Int32 → Int32 → sh_S
  | 0, r, _, _ => r
  | n + 1, r, x, a => (if (7 * (r 20 0 21)) ≤ a then r else (let r1 := sU r 40 0 ((a : Int32).toNatClampNeg) (r 40 0 (((a + 7) : Int32).toNatClampNeg)); (ls_T_remove N L n r1 x (a + 1))))
set_option maxHeartbeats 4000000 in
set_option maxRecDepth 100000 in
theorem l_T_remove {B : sh_B} {Z : mx_Z} {N L : Nat} {cI cR cZ : ClassId} (hb : wB B Z N L cI cR cZ) {c : sh_S} {x : Int32} {X : mx_C} {V0 : Option Value} {S0 : sh_S} (ok : mx_ok X Z R_T b_T_remove 3 (rmm 0 0)) (en : sx_end B X none (rmm 0 0) (qe V0 S0)) (hV : V0 = none) : ∀ (n : Nat) (r : sh_S) (a : Int32), (∃ q k : Nat, q ≤ 199 ∧ r 20 0 21 = nI q ∧ a = nI k ∧ k ≤ 7 * q ∧ 7 * q + 1 ≤ k + n) → S0 = (jn c (ls_T_remove N L n r x a)) → sx B X (0, 0) 15 [(0, .ref (B.2.1 20 0)), (1, .int x), (2, .int a)] [] (jn c r) := by
  have hB := hb.1
  intro n
  induction n with
  | zero =>
    intro r a hh _
    obtain ⟨q, k, h1, h2, h3, h4, h5⟩ := hh
    omega
  | succ n ih =>
    intro r a hh hS
    obtain ⟨q, k, h1, h2, h3, h4, h5⟩ := hh
    refine mr_iload_n ok (i := 2) d_T_remove_15 rfl rfl ?_
    refine mr_bipush ok 7 d_T_remove_16 (by decide) ?_
    refine mr_aload_n ok (i := 0) d_T_remove_18 rfl rfl ?_
    refine rx_geti ok hB rfl fl_T_82 (tm_20 hb) rfl d_T_remove_19 ?_
    refine mr_imul ok d_T_remove_22 ?_
    refine mr_icmp_ge ok 47 d_T_remove_23 (by decide) (fun h23_0 => ?_) (fun h23_0 => ?_)
    · refine sx_vret ok en (Nat.le_refl _) (Nat.le_refl _) d_T_remove_47 ?_
      exact ⟨(by rw [hV]), (by rw [hS]; simp only [ls_T_remove, if_pos h23_0])⟩
    · refine mr_aload_n ok (i := 0) d_T_remove_26 rfl rfl ?_
      refine sx_getr ok hB fl_T_62 (tm_20 hb) rfl d_T_remove_27 ?_
      refine mr_iload_n ok (i := 2) d_T_remove_30 rfl rfl ?_
      refine mr_aload_n ok (i := 0) d_T_remove_31 rfl rfl ?_
      refine sx_getr ok hB fl_T_62 (tm_20 hb) rfl d_T_remove_32 ?_
      refine mr_iload_n ok (i := 2) d_T_remove_35 rfl rfl ?_
      refine mr_bipush ok 7 d_T_remove_36 (by decide) ?_
      refine mr_iadd ok d_T_remove_38 ?_
      refine rx_ialdC ok hB rfl (tm_40 hb) (ty_0 hb) (by have := kt_r1 (n := 0) h1 h2 h3 h4 ‹_›; exact kt_in7 1407 h3 (by omega) (by decide)) d_T_remove_39 ?_
      refine rx_iastC ok hB rfl (tm_40 hb) (ty_0 hb) (by have := kt_r1 (n := 0) h1 h2 h3 h4 ‹_›; exact kt_in 1407 h3 (by omega) (by decide)) d_T_remove_40 ?_
      refine mr_iinc ok _ d_T_remove_41 rfl rfl (by decide) ?_
      refine mr_goto ok 15 d_T_remove_44 (by decide) ?_
      refine mr_lv [(0, .ref (B.2.1 20 0)), (1, .int x), (2, .int (a + 1))] ⟨rfl, rfl, rfl, trivial⟩ ?_
      exact ih _ _ ⟨q, k + 1, h1, h2, by rw [h3, nI_1], by have := kt_r1 (n := 0) h1 h2 h3 h4 ‹_›; omega, by omega⟩ (hS.trans (by simp only [ls_T_remove, if_neg h23_0]))
def s_T_remove (N L : Nat) (r : sh_S) (x : Int32) : sh_S := (let r1 := sU r 20 0 21 ((r 20 0 21) - 1); (ls_T_remove N L 1400 r1 x (7 * x)))
set_option maxHeartbeats 4000000 in
set_option maxRecDepth 100000 in
theorem c_T_remove {B : sh_B} {Z : mx_Z} {N L : Nat} {cI cR cZ : ClassId} (hb : wB B Z N L cI cR cZ) {c r : sh_S} {x : Int32} (hc : ∃ q j : Nat, q ≤ 200 ∧ r 20 0 21 = nI q ∧ j < q ∧ x = nI j) : sc B Z y_T_remove b_T_remove 3 none (rmm 0 0) [.ref (B.2.1 20 0), .int x] (jn c r) (qe none (jn c (s_T_remove N L r x))) := by
  refine ct_of (by decide) (Nat.le_of_ble_eq_true rfl) (cat_of rfl) ?_
  intro X ok en _
  have hB := hb.1
  refine mr_lv [(0, .ref (B.2.1 20 0)), (1, .int x)] ⟨rfl, rfl, trivial⟩ ?_
  refine mr_aload_n ok (i := 0) d_T_remove_0 rfl rfl ?_
  refine mr_dup ok d_T_remove_1 rfl ?_
  refine rx_geti ok hB rfl fl_T_82 (tm_20 hb) rfl d_T_remove_2 ?_
  refine mr_iconst ok 1 d_T_remove_5 (by decide) ?_
  refine mr_isub ok d_T_remove_6 ?_
  refine rx_put ok hB rfl fw_T_82 (tm_20 hb) rfl rfl rfl d_T_remove_7 ?_
  refine mr_bipush ok 7 d_T_remove_10 (by decide) ?_
  refine mr_iload_n ok (i := 1) d_T_remove_12 rfl rfl ?_
  refine mr_imul ok d_T_remove_13 ?_
  refine mr_istore_n ok (i := 2) d_T_remove_14 rfl (by decide) ?_
  refine mr_lv [(0, .ref (B.2.1 20 0)), (1, .int x), (2, .int (7 * x))] ⟨rfl, rfl, rfl, trivial⟩ ?_
  exact l_T_remove hb ok en rfl 1400 _ _ (kt_rinit hc) rfl
def s_T_follow (N L : Nat) (r : sh_S) (i : Nat) : sh_S := (let r1 := sU r 31 0 i 0; (let r2 := sU r1 32 0 i 0; (let r3 := sU r2 33 0 i 0; (let r4 := sU r3 34 0 i 0; (let r5 := sU r4 35 0 i 0; (let r6 := sU r5 36 0 i 0; r6))))))
set_option maxHeartbeats 4000000 in
set_option maxRecDepth 100000 in
theorem c_T_follow {B : sh_B} {Z : mx_Z} {N L : Nat} {cI cR cZ : ClassId} (hb : wB B Z N L cI cR cZ) {c r : sh_S} {i : Nat} (hi : i < N) : sc B Z y_T_follow b_T_follow 2 none (rmm 0 0) [.ref (B.2.1 20 0), .int (nI i)] (jn c r) (qe none (jn c (s_T_follow N L r i))) := by
  refine ct_of (by decide) (Nat.le_of_ble_eq_true rfl) (cat_of rfl) ?_
  intro X ok en _
  have hB := hb.1
  refine mr_lv [(0, .ref (B.2.1 20 0)), (1, .int (nI i))] ⟨rfl, rfl, trivial⟩ ?_
  refine mr_aload_n ok (i := 0) d_T_follow_0 rfl rfl ?_
  refine sx_getr ok hB fl_T_35 (tm_20 hb) rfl d_T_follow_1 ?_
  refine mr_iload_n ok (i := 1) d_T_follow_4 rfl rfl ?_
  refine mr_iconst ok 0 d_T_follow_5 (by decide) ?_
  refine rx_iast ok hB rfl (tm_31 hb) (ty_0 hb) rfl (lt5 hb hi) (by decide) d_T_follow_6 ?_
  refine mr_aload_n ok (i := 0) d_T_follow_7 rfl rfl ?_
  refine sx_getr ok hB fl_T_38 (tm_20 hb) rfl d_T_follow_8 ?_
  refine mr_iload_n ok (i := 1) d_T_follow_11 rfl rfl ?_
  refine mr_iconst ok 0 d_T_follow_12 (by decide) ?_
  refine rx_iast ok hB rfl (tm_32 hb) (ty_0 hb) rfl (lt5 hb hi) (by decide) d_T_follow_13 ?_
  refine mr_aload_n ok (i := 0) d_T_follow_14 rfl rfl ?_
  refine sx_getr ok hB fl_T_41 (tm_20 hb) rfl d_T_follow_15 ?_
  refine mr_iload_n ok (i := 1) d_T_follow_18 rfl rfl ?_
  refine mr_iconst ok 0 d_T_follow_19 (by decide) ?_
  refine rx_iast ok hB rfl (tm_33 hb) (ty_0 hb) rfl (lt5 hb hi) (by decide) d_T_follow_20 ?_
  refine mr_aload_n ok (i := 0) d_T_follow_21 rfl rfl ?_
  refine sx_getr ok hB fl_T_44 (tm_20 hb) rfl d_T_follow_22 ?_
  refine mr_iload_n ok (i := 1) d_T_follow_25 rfl rfl ?_
  refine mr_iconst ok 0 d_T_follow_26 (by decide) ?_
  refine rx_iast ok hB rfl (tm_34 hb) (ty_0 hb) rfl (lt5 hb hi) (by decide) d_T_follow_27 ?_
  refine mr_aload_n ok (i := 0) d_T_follow_28 rfl rfl ?_
  refine sx_getr ok hB fl_T_47 (tm_20 hb) rfl d_T_follow_29 ?_
  refine mr_iload_n ok (i := 1) d_T_follow_32 rfl rfl ?_
  refine mr_iconst ok 0 d_T_follow_33 (by decide) ?_
  refine rx_iast ok hB rfl (tm_35 hb) (ty_0 hb) rfl (lt5 hb hi) (by decide) d_T_follow_34 ?_
  refine mr_aload_n ok (i := 0) d_T_follow_35 rfl rfl ?_
  refine sx_getr ok hB fl_T_50 (tm_20 hb) rfl d_T_follow_36 ?_
  refine mr_iload_n ok (i := 1) d_T_follow_39 rfl rfl ?_
  refine mr_iconst ok 0 d_T_follow_40 (by decide) ?_
  refine rx_iast ok hB rfl (tm_36 hb) (ty_0 hb) rfl (lt5 hb hi) (by decide) d_T_follow_41 ?_
  refine sx_vret ok en (Nat.le_refl _) (Nat.le_refl _) d_T_follow_42 ?_
  exact ⟨rfl, (by first | rfl | simp only [s_T_follow])⟩
def lv_T_count (N L : Nat) : Nat → sh_S → Int32 → Int32 → Int32 → Int32
  | 0, _, _, _, _ => 0
  | n + 1, r, x, a, b => (if (nI N) ≤ b then a else (lv_T_count N L n r x (a + ((x >>> (b &&& 31)) &&& 1)) (b + 1)))
set_option maxHeartbeats 4000000 in
set_option maxRecDepth 100000 in
theorem l_T_count {B : sh_B} {Z : mx_Z} {N L : Nat} {cI cR cZ : ClassId} (hb : wB B Z N L cI cR cZ) {c : sh_S} {x : Int32} {X : mx_C} {V0 : Option Value} {S0 : sh_S} (ok : mx_ok X Z R_T b_T_count 4 (rmm 0 0)) (en : sx_end B X (some (.int)) (rmm 0 0) (qe V0 S0)) : ∀ (n : Nat) (r : sh_S) (a : Int32) (b : Int32), (∃ k : Nat, b = nI k ∧ k ≤ N ∧ N + 1 ≤ k + n) → V0 = some (.int (lv_T_count N L n r x a b)) → S0 = (jn c r) → sx B X (0, 0) 4 [(0, .ref (B.2.1 20 0)), (1, .int x), (2, .int a), (3, .int b)] [] (jn c r) := by
  have hB := hb.1
  intro n
  induction n with
  | zero =>
    intro r a b hh _ _
    obtain ⟨k, h1, h2, h3⟩ := hh
    omega
  | succ n ih =>
    intro r a b hh hV hS
    obtain ⟨k, h1, h2, h3⟩ := hh
    refine mr_iload_n ok (i := 3) d_T_count_4 rfl rfl ?_
    refine mr_aload_n ok (i := 0) d_T_count_5 rfl rfl ?_
    refine sx_getr ok hB fl_T_65 (tm_20 hb) rfl d_T_count_6 ?_
    refine mr_icmp_ge ok 26 d_T_count_9 (by decide) (fun h9_0 => ?_) (fun h9_0 => ?_)
    · refine mr_iload_n ok (i := 2) d_T_count_26 rfl rfl ?_
      refine sx_iret ok en (Nat.le_refl _) (Nat.le_refl _) d_T_count_27 ?_
      exact ⟨(by rw [hV]; simp only [lv_T_count, if_pos h9_0]), (by rw [hS])⟩
    · refine mr_iload_n ok (i := 2) d_T_count_12 rfl rfl ?_
      refine mr_iload_n ok (i := 1) d_T_count_13 rfl rfl ?_
      refine mr_iload_n ok (i := 3) d_T_count_14 rfl rfl ?_
      refine mr_ishr ok d_T_count_15 ?_
      refine mr_iconst ok 1 d_T_count_16 (by decide) ?_
      refine mr_iand ok d_T_count_17 ?_
      refine mr_iadd ok d_T_count_18 ?_
      refine mr_istore_n ok (i := 2) d_T_count_19 rfl (by decide) ?_
      refine mr_iinc ok _ d_T_count_20 rfl rfl (by decide) ?_
      refine mr_goto ok 4 d_T_count_23 (by decide) ?_
      refine mr_lv [(0, .ref (B.2.1 20 0)), (1, .int x), (2, .int (a + ((x >>> (b &&& 31)) &&& 1))), (3, .int (b + 1))] ⟨rfl, rfl, rfl, rfl, trivial⟩ ?_
      exact ih _ _ _ (ks_rec h1 h2 h3 ‹_› (by have := hb.2.2.2.1.2; omega)) (hV.trans (by simp only [lv_T_count, if_neg h9_0])) hS
def v_T_count (N L : Nat) (r : sh_S) (x : Int32) : Int32 := (lv_T_count N L 6 r x 0 0)
set_option maxHeartbeats 4000000 in
set_option maxRecDepth 100000 in
theorem c_T_count {B : sh_B} {Z : mx_Z} {N L : Nat} {cI cR cZ : ClassId} (hb : wB B Z N L cI cR cZ) {c r : sh_S} {x : Int32} : sc B Z y_T_count b_T_count 4 (some (.int)) (rmm 0 0) [.ref (B.2.1 20 0), .int x] (jn c r) (qe (some (.int (v_T_count N L r x))) (jn c r)) := by
  refine ct_of (by decide) (Nat.le_of_ble_eq_true rfl) (cat_of rfl) ?_
  intro X ok en _
  have hB := hb.1
  refine mr_lv [(0, .ref (B.2.1 20 0)), (1, .int x)] ⟨rfl, rfl, trivial⟩ ?_
  refine mr_iconst ok 0 d_T_count_0 (by decide) ?_
  refine mr_istore_n ok (i := 2) d_T_count_1 rfl (by decide) ?_
  refine mr_iconst ok 0 d_T_count_2 (by decide) ?_
  refine mr_istore_n ok (i := 3) d_T_count_3 rfl (by decide) ?_
  refine mr_lv [(0, .ref (B.2.1 20 0)), (1, .int x), (2, .int 0), (3, .int 0)] ⟨rfl, rfl, rfl, rfl, trivial⟩ ?_
  exact l_T_count hb ok en 6 _ _ _ ⟨0, rfl, Nat.zero_le _, by have := hb.2.2.2.1.2; omega⟩ rfl rfl
def s_T_proposeIt (N L : Nat) (r : sh_S) (i : Nat) (x : Int32) : sh_S := (let r1 := sU r 34 0 i x; (let r2 := sU r1 29 0 i x; (let r3 := sU r2 28 0 i (r2 32 0 i); (let r4 := sU r3 33 0 i (1 <<< ((nI i) &&& 31)); (let r5 := s_T_sendAll N L r4 3 (nI i) (r4 32 0 i) ((r4 24 0 i) + 1) x; r5)))))
set_option maxHeartbeats 4000000 in
set_option maxRecDepth 100000 in
theorem c_T_proposeIt {B : sh_B} {Z : mx_Z} {N L : Nat} {cI cR cZ : ClassId} (hb : wB B Z N L cI cR cZ) {c r : sh_S} {i : Nat} (hi : i < N) {x : Int32} (hc : rK N r) : sc B Z y_T_proposeIt b_T_proposeIt 3 none (rmm 2 54) [.ref (B.2.1 20 0), .int (nI i), .int x] (jn c r) (qe none (jn c (s_T_proposeIt N L r i x))) := by
  refine ct_of (by decide) (Nat.le_of_ble_eq_true rfl) (cat_of rfl) ?_
  intro X ok en _
  have hB := hb.1
  refine mr_lv [(0, .ref (B.2.1 20 0)), (1, .int (nI i)), (2, .int x)] ⟨rfl, rfl, rfl, trivial⟩ ?_
  refine mr_aload_n ok (i := 0) d_T_proposeIt_0 rfl rfl ?_
  refine sx_getr ok hB fl_T_44 (tm_20 hb) rfl d_T_proposeIt_1 ?_
  refine mr_iload_n ok (i := 1) d_T_proposeIt_4 rfl rfl ?_
  refine mr_iload_n ok (i := 2) d_T_proposeIt_5 rfl rfl ?_
  refine rx_iast ok hB rfl (tm_34 hb) (ty_0 hb) rfl (lt5 hb hi) (by decide) d_T_proposeIt_6 ?_
  refine mr_aload_n ok (i := 0) d_T_proposeIt_7 rfl rfl ?_
  refine sx_getr ok hB fl_T_29 (tm_20 hb) rfl d_T_proposeIt_8 ?_
  refine mr_iload_n ok (i := 1) d_T_proposeIt_11 rfl rfl ?_
  refine mr_iload_n ok (i := 2) d_T_proposeIt_12 rfl rfl ?_
  refine rx_iast ok hB rfl (tm_29 hb) (ty_0 hb) rfl (lt5 hb hi) (by decide) d_T_proposeIt_13 ?_
  refine mr_aload_n ok (i := 0) d_T_proposeIt_14 rfl rfl ?_
  refine sx_getr ok hB fl_T_26 (tm_20 hb) rfl d_T_proposeIt_15 ?_
  refine mr_iload_n ok (i := 1) d_T_proposeIt_18 rfl rfl ?_
  refine mr_aload_n ok (i := 0) d_T_proposeIt_19 rfl rfl ?_
  refine sx_getr ok hB fl_T_38 (tm_20 hb) rfl d_T_proposeIt_20 ?_
  refine mr_iload_n ok (i := 1) d_T_proposeIt_23 rfl rfl ?_
  refine rx_iald ok hB rfl (tm_32 hb) (ty_0 hb) rfl (lt5 hb hi) (by decide) d_T_proposeIt_24 ?_
  refine rx_iast ok hB rfl (tm_28 hb) (ty_0 hb) rfl (lt5 hb hi) (by decide) d_T_proposeIt_25 ?_
  refine mr_aload_n ok (i := 0) d_T_proposeIt_26 rfl rfl ?_
  refine sx_getr ok hB fl_T_41 (tm_20 hb) rfl d_T_proposeIt_27 ?_
  refine mr_iload_n ok (i := 1) d_T_proposeIt_30 rfl rfl ?_
  refine mr_iconst ok 1 d_T_proposeIt_31 (by decide) ?_
  refine mr_iload_n ok (i := 1) d_T_proposeIt_32 rfl rfl ?_
  refine mr_ishl ok d_T_proposeIt_33 ?_
  refine rx_iast ok hB rfl (tm_33 hb) (ty_0 hb) rfl (lt5 hb hi) (by decide) d_T_proposeIt_34 ?_
  refine mr_aload_n ok (i := 0) d_T_proposeIt_35 rfl rfl ?_
  refine mr_iconst ok 3 d_T_proposeIt_36 (by decide) ?_
  refine mr_iload_n ok (i := 1) d_T_proposeIt_37 rfl rfl ?_
  refine mr_aload_n ok (i := 0) d_T_proposeIt_38 rfl rfl ?_
  refine sx_getr ok hB fl_T_38 (tm_20 hb) rfl d_T_proposeIt_39 ?_
  refine mr_iload_n ok (i := 1) d_T_proposeIt_42 rfl rfl ?_
  refine rx_iald ok hB rfl (tm_32 hb) (ty_0 hb) rfl (lt5 hb hi) (by decide) d_T_proposeIt_43 ?_
  refine mr_aload_n ok (i := 0) d_T_proposeIt_44 rfl rfl ?_
  refine sx_getr ok hB fl_T_13 (tm_20 hb) rfl d_T_proposeIt_45 ?_
  refine mr_iload_n ok (i := 1) d_T_proposeIt_48 rfl rfl ?_
  refine rx_iald ok hB rfl (tm_24 hb) (ty_0 hb) rfl (lt5 hb hi) (by decide) d_T_proposeIt_49 ?_
  refine mr_iconst ok 1 d_T_proposeIt_50 (by decide) ?_
  refine mr_iadd ok d_T_proposeIt_51 ?_
  refine mr_iload_n ok (i := 2) d_T_proposeIt_52 rfl rfl ?_
  refine sx_cVv ok hB [_, _, _, _, _] rfl cb_T_96 cv_T_sendAll (tm_20 hb) rfl rfl (c_T_sendAll hb (by exact hc)) rfl (Nat.le_of_ble_eq_true rfl) (by decide) ⟨Nat.le_refl _, Nat.le_refl _⟩ d_T_proposeIt_53 ?_
  have hc : rK N (s_T_sendAll N L (sU (sU (sU (sU r 34 0 i x) 29 0 i x) 28 0 i ((sU (sU r 34 0 i x) 29 0 i x) 32 0 i)) 33 0 i (1 <<< ((nI i) &&& 31))) 3 (nI i) ((sU (sU (sU (sU r 34 0 i x) 29 0 i x) 28 0 i ((sU (sU r 34 0 i x) 29 0 i x) 32 0 i)) 33 0 i (1 <<< ((nI i) &&& 31))) 32 0 i) (((sU (sU (sU (sU r 34 0 i x) 29 0 i x) 28 0 i ((sU (sU r 34 0 i x) 29 0 i x) 32 0 i)) 33 0 i (1 <<< ((nI i) &&& 31))) 24 0 i) + 1) x) := rK_T_sendAll (L := L) hc
  refine sx_vret ok en (Nat.le_refl _) (Nat.le_refl _) d_T_proposeIt_56 ?_
  exact ⟨rfl, (by first | rfl | simp only [s_T_proposeIt])⟩
def s_T_propose (N L : Nat) (r : sh_S) (i : Nat) : sh_S := (if (r 39 0 i) ≤ 0 then r else (let r1 := s_T_proposeIt N L r i (r 38 0 (((8 * (nI i)) : Int32).toNatClampNeg)); r1))
set_option maxHeartbeats 4000000 in
set_option maxRecDepth 100000 in
theorem c_T_propose {B : sh_B} {Z : mx_Z} {N L : Nat} {cI cR cZ : ClassId} (hb : wB B Z N L cI cR cZ) {c r : sh_S} {i : Nat} (hi : i < N) (hc : rK N r) : sc B Z y_T_propose b_T_propose 2 none (rmm 3 76) [.ref (B.2.1 20 0), .int (nI i)] (jn c r) (qe none (jn c (s_T_propose N L r i))) := by
  refine ct_of (by decide) (Nat.le_of_ble_eq_true rfl) (cat_of rfl) ?_
  intro X ok en _
  have hB := hb.1
  refine mr_lv [(0, .ref (B.2.1 20 0)), (1, .int (nI i))] ⟨rfl, rfl, trivial⟩ ?_
  refine mr_aload_n ok (i := 0) d_T_propose_0 rfl rfl ?_
  refine sx_getr ok hB fl_T_59 (tm_20 hb) rfl d_T_propose_1 ?_
  refine mr_iload_n ok (i := 1) d_T_propose_4 rfl rfl ?_
  refine rx_iald ok hB rfl (tm_39 hb) (ty_0 hb) rfl (lt5 hb hi) (by decide) d_T_propose_5 ?_
  refine mr_if_le ok 23 d_T_propose_6 (by decide) (fun h6_0 => ?_) (fun h6_0 => ?_)
  · refine sx_vret ok en (Nat.le_refl _) (Nat.le_refl _) d_T_propose_23 ?_
    exact ⟨rfl, (by first | rfl | simp only [s_T_propose, if_pos h6_0])⟩
  · refine mr_aload_n ok (i := 0) d_T_propose_9 rfl rfl ?_
    refine mr_iload_n ok (i := 1) d_T_propose_10 rfl rfl ?_
    refine mr_aload_n ok (i := 0) d_T_propose_11 rfl rfl ?_
    refine sx_getr ok hB fl_T_56 (tm_20 hb) rfl d_T_propose_12 ?_
    refine mr_bipush ok 8 d_T_propose_15 (by decide) ?_
    refine mr_iload_n ok (i := 1) d_T_propose_17 rfl rfl ?_
    refine mr_imul ok d_T_propose_18 ?_
    refine rx_ialdC ok hB rfl (tm_38 hb) (ty_0 hb) (kt_80 (lt5 hb hi)) d_T_propose_19 ?_
    refine sx_cVv ok hB [_, _] rfl cb_T_100 cv_T_proposeIt (tm_20 hb) rfl rfl (c_T_proposeIt hb hi (by exact hc)) rfl (Nat.le_of_ble_eq_true rfl) (by decide) ⟨Nat.le_refl _, Nat.le_refl _⟩ d_T_propose_20 ?_
    refine sx_vret ok en (Nat.le_refl _) (Nat.le_refl _) d_T_propose_23 ?_
    exact ⟨rfl, (by first | rfl | simp only [s_T_propose, if_neg h6_0])⟩
def ls_T_campaign (N L : Nat) : Nat → sh_S → Nat → Int32 → Int32 → sh_S
  | 0, r, _, _, _ => r
  | n + 1, r, i, m, b => (if m < b then (let r1 := s_T_follow N L r i; (let r2 := sU r1 27 0 i b; (let r3 := sU r2 31 0 i 1; (let r4 := sU r3 32 0 i b; (let r5 := sU r4 33 0 i (1 <<< ((nI i) &&& 31)); (let r6 := sU r5 35 0 i (r5 29 0 i); (let r7 := sU r6 36 0 i (r6 28 0 i); (let r8 := s_T_sendAll N L r7 1 (nI i) b ((r7 24 0 i) + 1) 0; r8)))))))) else (ls_T_campaign N L n r i m (b + (nI N))))
set_option maxHeartbeats 4000000 in
set_option maxRecDepth 100000 in
theorem l_T_campaign {B : sh_B} {Z : mx_Z} {N L : Nat} {cI cR cZ : ClassId} (hb : wB B Z N L cI cR cZ) {c : sh_S} {i : Nat} (hi : i < N) {X : mx_C} {V0 : Option Value} {S0 : sh_S} (ok : mx_ok X Z R_T b_T_campaign 4 (rmm 2 54)) (en : sx_end B X none (rmm 2 54) (qe V0 S0)) (hV : V0 = none) : ∀ (n : Nat) (r : sh_S) (m : Int32) (b : Int32), (rK N r ∧ ∃ M k : Nat, M ≤ 10000 ∧ m = nI M ∧ b = nI k ∧ k ≤ M + 5 ∧ M + 7 ≤ k + n) → S0 = (jn c (ls_T_campaign N L n r i m b)) → sx B X (0, 0) 44 [(0, .ref (B.2.1 20 0)), (1, .int (nI i)), (2, .int m), (3, .int b)] [] (jn c r) := by
  have hB := hb.1
  intro n
  induction n with
  | zero =>
    intro r m b hh _
    obtain ⟨-, M, k, h0, h1, h2, h3, h4⟩ := hh
    omega
  | succ n ih =>
    intro r m b hh hS
    obtain ⟨hc, M, k, h0, h1, h2, h3, h4⟩ := hh
    refine mr_iload_n ok (i := 3) d_T_campaign_44 rfl rfl ?_
    refine mr_iload_n ok (i := 2) d_T_campaign_45 rfl rfl ?_
    refine mr_icmp_gt ok 59 d_T_campaign_46 (by decide) (fun h46_0 => ?_) (fun h46_0 => ?_)
    · refine mr_aload_n ok (i := 0) d_T_campaign_59 rfl rfl ?_
      refine mr_iload_n ok (i := 1) d_T_campaign_60 rfl rfl ?_
      refine sx_cVv ok hB [_] rfl cb_T_92 cv_T_follow (tm_20 hb) rfl rfl (c_T_follow hb hi) rfl (Nat.le_of_ble_eq_true rfl) (by decide) ⟨Nat.le_refl _, Nat.le_refl _⟩ d_T_campaign_61 ?_
      refine mr_aload_n ok (i := 0) d_T_campaign_64 rfl rfl ?_
      refine sx_getr ok hB fl_T_23 (tm_20 hb) rfl d_T_campaign_65 ?_
      refine mr_iload_n ok (i := 1) d_T_campaign_68 rfl rfl ?_
      refine mr_iload_n ok (i := 3) d_T_campaign_69 rfl rfl ?_
      refine rx_iast ok hB rfl (tm_27 hb) (ty_0 hb) rfl (lt5 hb hi) (by decide) d_T_campaign_70 ?_
      refine mr_aload_n ok (i := 0) d_T_campaign_71 rfl rfl ?_
      refine sx_getr ok hB fl_T_35 (tm_20 hb) rfl d_T_campaign_72 ?_
      refine mr_iload_n ok (i := 1) d_T_campaign_75 rfl rfl ?_
      refine mr_iconst ok 1 d_T_campaign_76 (by decide) ?_
      refine rx_iast ok hB rfl (tm_31 hb) (ty_0 hb) rfl (lt5 hb hi) (by decide) d_T_campaign_77 ?_
      refine mr_aload_n ok (i := 0) d_T_campaign_78 rfl rfl ?_
      refine sx_getr ok hB fl_T_38 (tm_20 hb) rfl d_T_campaign_79 ?_
      refine mr_iload_n ok (i := 1) d_T_campaign_82 rfl rfl ?_
      refine mr_iload_n ok (i := 3) d_T_campaign_83 rfl rfl ?_
      refine rx_iast ok hB rfl (tm_32 hb) (ty_0 hb) rfl (lt5 hb hi) (by decide) d_T_campaign_84 ?_
      refine mr_aload_n ok (i := 0) d_T_campaign_85 rfl rfl ?_
      refine sx_getr ok hB fl_T_41 (tm_20 hb) rfl d_T_campaign_86 ?_
      refine mr_iload_n ok (i := 1) d_T_campaign_89 rfl rfl ?_
      refine mr_iconst ok 1 d_T_campaign_90 (by decide) ?_
      refine mr_iload_n ok (i := 1) d_T_campaign_91 rfl rfl ?_
      refine mr_ishl ok d_T_campaign_92 ?_
      refine rx_iast ok hB rfl (tm_33 hb) (ty_0 hb) rfl (lt5 hb hi) (by decide) d_T_campaign_93 ?_
      refine mr_aload_n ok (i := 0) d_T_campaign_94 rfl rfl ?_
      refine sx_getr ok hB fl_T_47 (tm_20 hb) rfl d_T_campaign_95 ?_
      refine mr_iload_n ok (i := 1) d_T_campaign_98 rfl rfl ?_
      refine mr_aload_n ok (i := 0) d_T_campaign_99 rfl rfl ?_
      refine sx_getr ok hB fl_T_29 (tm_20 hb) rfl d_T_campaign_100 ?_
      refine mr_iload_n ok (i := 1) d_T_campaign_103 rfl rfl ?_
      refine rx_iald ok hB rfl (tm_29 hb) (ty_0 hb) rfl (lt5 hb hi) (by decide) d_T_campaign_104 ?_
      refine rx_iast ok hB rfl (tm_35 hb) (ty_0 hb) rfl (lt5 hb hi) (by decide) d_T_campaign_105 ?_
      refine mr_aload_n ok (i := 0) d_T_campaign_106 rfl rfl ?_
      refine sx_getr ok hB fl_T_50 (tm_20 hb) rfl d_T_campaign_107 ?_
      refine mr_iload_n ok (i := 1) d_T_campaign_110 rfl rfl ?_
      refine mr_aload_n ok (i := 0) d_T_campaign_111 rfl rfl ?_
      refine sx_getr ok hB fl_T_26 (tm_20 hb) rfl d_T_campaign_112 ?_
      refine mr_iload_n ok (i := 1) d_T_campaign_115 rfl rfl ?_
      refine rx_iald ok hB rfl (tm_28 hb) (ty_0 hb) rfl (lt5 hb hi) (by decide) d_T_campaign_116 ?_
      refine rx_iast ok hB rfl (tm_36 hb) (ty_0 hb) rfl (lt5 hb hi) (by decide) d_T_campaign_117 ?_
      refine mr_aload_n ok (i := 0) d_T_campaign_118 rfl rfl ?_
      refine mr_iconst ok 1 d_T_campaign_119 (by decide) ?_
      refine mr_iload_n ok (i := 1) d_T_campaign_120 rfl rfl ?_
      refine mr_iload_n ok (i := 3) d_T_campaign_121 rfl rfl ?_
      refine mr_aload_n ok (i := 0) d_T_campaign_122 rfl rfl ?_
      refine sx_getr ok hB fl_T_13 (tm_20 hb) rfl d_T_campaign_123 ?_
      refine mr_iload_n ok (i := 1) d_T_campaign_126 rfl rfl ?_
      refine rx_iald ok hB rfl (tm_24 hb) (ty_0 hb) rfl (lt5 hb hi) (by decide) d_T_campaign_127 ?_
      refine mr_iconst ok 1 d_T_campaign_128 (by decide) ?_
      refine mr_iadd ok d_T_campaign_129 ?_
      refine mr_iconst ok 0 d_T_campaign_130 (by decide) ?_
      refine sx_cVv ok hB [_, _, _, _, _] rfl cb_T_96 cv_T_sendAll (tm_20 hb) rfl rfl (c_T_sendAll hb (by exact hc)) rfl (Nat.le_of_ble_eq_true rfl) (by decide) ⟨Nat.le_refl _, Nat.le_refl _⟩ d_T_campaign_131 ?_
      have hc : rK N (s_T_sendAll N L (sU (sU (sU (sU (sU (sU (s_T_follow N L r i) 27 0 i b) 31 0 i 1) 32 0 i b) 33 0 i (1 <<< ((nI i) &&& 31))) 35 0 i ((sU (sU (sU (sU (s_T_follow N L r i) 27 0 i b) 31 0 i 1) 32 0 i b) 33 0 i (1 <<< ((nI i) &&& 31))) 29 0 i)) 36 0 i ((sU (sU (sU (sU (sU (s_T_follow N L r i) 27 0 i b) 31 0 i 1) 32 0 i b) 33 0 i (1 <<< ((nI i) &&& 31))) 35 0 i ((sU (sU (sU (sU (s_T_follow N L r i) 27 0 i b) 31 0 i 1) 32 0 i b) 33 0 i (1 <<< ((nI i) &&& 31))) 29 0 i)) 28 0 i)) 1 (nI i) b (((sU (sU (sU (sU (sU (sU (s_T_follow N L r i) 27 0 i b) 31 0 i 1) 32 0 i b) 33 0 i (1 <<< ((nI i) &&& 31))) 35 0 i ((sU (sU (sU (sU (s_T_follow N L r i) 27 0 i b) 31 0 i 1) 32 0 i b) 33 0 i (1 <<< ((nI i) &&& 31))) 29 0 i)) 36 0 i ((sU (sU (sU (sU (sU (s_T_follow N L r i) 27 0 i b) 31 0 i 1) 32 0 i b) 33 0 i (1 <<< ((nI i) &&& 31))) 35 0 i ((sU (sU (sU (sU (s_T_follow N L r i) 27 0 i b) 31 0 i 1) 32 0 i b) 33 0 i (1 <<< ((nI i) &&& 31))) 29 0 i)) 28 0 i)) 24 0 i) + 1) 0) := rK_T_sendAll (L := L) hc
      refine sx_vret ok en (Nat.le_refl _) (Nat.le_refl _) d_T_campaign_134 ?_
      exact ⟨(by rw [hV]), (by rw [hS]; simp only [ls_T_campaign, if_pos h46_0])⟩
    · refine mr_iload_n ok (i := 3) d_T_campaign_49 rfl rfl ?_
      refine mr_aload_n ok (i := 0) d_T_campaign_50 rfl rfl ?_
      refine sx_getr ok hB fl_T_65 (tm_20 hb) rfl d_T_campaign_51 ?_
      refine mr_iadd ok d_T_campaign_54 ?_
      refine mr_istore_n ok (i := 3) d_T_campaign_55 rfl (by decide) ?_
      refine mr_goto ok 44 d_T_campaign_56 (by decide) ?_
      refine mr_lv [(0, .ref (B.2.1 20 0)), (1, .int (nI i)), (2, .int m), (3, .int (b + (nI N)))] ⟨rfl, rfl, rfl, rfl, trivial⟩ ?_
      exact ih _ _ _ ⟨hc, kc_rec h0 h1 h2 h3 h4 ‹_› hb.2.2.2.1⟩ (hS.trans (by simp only [ls_T_campaign, if_neg h46_0]))
def s_T_campaign (N L : Nat) (r : sh_S) (i : Nat) : sh_S := (if (r 27 0 i) ≤ (r 37 0 i) then (if (nI i) = 0 then (ls_T_campaign N L 10007 r i (r 37 0 i) (nI N)) else (ls_T_campaign N L 10007 r i (r 37 0 i) (nI i))) else (if (nI i) = 0 then (ls_T_campaign N L 10007 r i (r 27 0 i) (nI N)) else (ls_T_campaign N L 10007 r i (r 27 0 i) (nI i))))
set_option maxHeartbeats 4000000 in
set_option maxRecDepth 100000 in
theorem c_T_campaign {B : sh_B} {Z : mx_Z} {N L : Nat} {cI cR cZ : ClassId} (hb : wB B Z N L cI cR cZ) {c r : sh_S} {i : Nat} (hi : i < N) (hc : rK N r) (hx : ∃ a b : Nat, a ≤ 10000 ∧ b ≤ 10000 ∧ r 27 0 i = nI a ∧ r 37 0 i = nI b) : sc B Z y_T_campaign b_T_campaign 4 none (rmm 2 54) [.ref (B.2.1 20 0), .int (nI i)] (jn c r) (qe none (jn c (s_T_campaign N L r i))) := by
  refine ct_of (by decide) (Nat.le_of_ble_eq_true rfl) (cat_of rfl) ?_
  intro X ok en _
  have hB := hb.1
  refine mr_lv [(0, .ref (B.2.1 20 0)), (1, .int (nI i))] ⟨rfl, rfl, trivial⟩ ?_
  refine mr_aload_n ok (i := 0) d_T_campaign_0 rfl rfl ?_
  refine sx_getr ok hB fl_T_23 (tm_20 hb) rfl d_T_campaign_1 ?_
  refine mr_iload_n ok (i := 1) d_T_campaign_4 rfl rfl ?_
  refine rx_iald ok hB rfl (tm_27 hb) (ty_0 hb) rfl (lt5 hb hi) (by decide) d_T_campaign_5 ?_
  refine mr_aload_n ok (i := 0) d_T_campaign_6 rfl rfl ?_
  refine sx_getr ok hB fl_T_53 (tm_20 hb) rfl d_T_campaign_7 ?_
  refine mr_iload_n ok (i := 1) d_T_campaign_10 rfl rfl ?_
  refine rx_iald ok hB rfl (tm_37 hb) (ty_0 hb) rfl (lt5 hb hi) (by decide) d_T_campaign_11 ?_
  refine mr_icmp_le ok 24 d_T_campaign_12 (by decide) (fun h12_0 => ?_) (fun h12_0 => ?_)
  · refine mr_aload_n ok (i := 0) d_T_campaign_24 rfl rfl ?_
    refine sx_getr ok hB fl_T_53 (tm_20 hb) rfl d_T_campaign_25 ?_
    refine mr_iload_n ok (i := 1) d_T_campaign_28 rfl rfl ?_
    refine rx_iald ok hB rfl (tm_37 hb) (ty_0 hb) rfl (lt5 hb hi) (by decide) d_T_campaign_29 ?_
    refine mr_istore_n ok (i := 2) d_T_campaign_30 rfl (by decide) ?_
    refine mr_iload_n ok (i := 1) d_T_campaign_31 rfl rfl ?_
    refine mr_if_ne ok 42 d_T_campaign_32 (by decide) (fun h32_1 => ?_) (fun h32_1 => ?_)
    · refine mr_iload_n ok (i := 1) d_T_campaign_42 rfl rfl ?_
      refine mr_istore_n ok (i := 3) d_T_campaign_43 rfl (by decide) ?_
      refine mr_lv [(0, .ref (B.2.1 20 0)), (1, .int (nI i)), (2, .int (r 37 0 i)), (3, .int (nI i))] ⟨rfl, rfl, rfl, rfl, trivial⟩ ?_
      exact l_T_campaign hb hi ok en rfl 10007 _ _ _ ⟨hc, by obtain ⟨a, b, ha, hb2, e1, e2⟩ := hx; have h5 := hb.2.2.2.1; first | exact ⟨a, N, ha, e1, rfl, by omega, by omega⟩ | exact ⟨b, N, hb2, e2, rfl, by omega, by omega⟩ | exact ⟨a, i, ha, e1, rfl, by omega, by omega⟩ | exact ⟨b, i, hb2, e2, rfl, by omega, by omega⟩⟩ (by simp only [s_T_campaign, if_pos h12_0, if_neg h32_1])
    · refine mr_aload_n ok (i := 0) d_T_campaign_35 rfl rfl ?_
      refine sx_getr ok hB fl_T_65 (tm_20 hb) rfl d_T_campaign_36 ?_
      refine mr_goto ok 43 d_T_campaign_39 (by decide) ?_
      refine mr_istore_n ok (i := 3) d_T_campaign_43 rfl (by decide) ?_
      refine mr_lv [(0, .ref (B.2.1 20 0)), (1, .int (nI i)), (2, .int (r 37 0 i)), (3, .int (nI N))] ⟨rfl, rfl, rfl, rfl, trivial⟩ ?_
      exact l_T_campaign hb hi ok en rfl 10007 _ _ _ ⟨hc, by obtain ⟨a, b, ha, hb2, e1, e2⟩ := hx; have h5 := hb.2.2.2.1; first | exact ⟨a, N, ha, e1, rfl, by omega, by omega⟩ | exact ⟨b, N, hb2, e2, rfl, by omega, by omega⟩ | exact ⟨a, i, ha, e1, rfl, by omega, by omega⟩ | exact ⟨b, i, hb2, e2, rfl, by omega, by omega⟩⟩ (by simp only [s_T_campaign, if_pos h12_0, if_pos h32_1])
  · refine mr_aload_n ok (i := 0) d_T_campaign_15 rfl rfl ?_
    refine sx_getr ok hB fl_T_23 (tm_20 hb) rfl d_T_campaign_16 ?_
    refine mr_iload_n ok (i := 1) d_T_campaign_19 rfl rfl ?_
    refine rx_iald ok hB rfl (tm_27 hb) (ty_0 hb) rfl (lt5 hb hi) (by decide) d_T_campaign_20 ?_
    refine mr_goto ok 30 d_T_campaign_21 (by decide) ?_
    refine mr_istore_n ok (i := 2) d_T_campaign_30 rfl (by decide) ?_
    refine mr_iload_n ok (i := 1) d_T_campaign_31 rfl rfl ?_
    refine mr_if_ne ok 42 d_T_campaign_32 (by decide) (fun h32_1 => ?_) (fun h32_1 => ?_)
    · refine mr_iload_n ok (i := 1) d_T_campaign_42 rfl rfl ?_
      refine mr_istore_n ok (i := 3) d_T_campaign_43 rfl (by decide) ?_
      refine mr_lv [(0, .ref (B.2.1 20 0)), (1, .int (nI i)), (2, .int (r 27 0 i)), (3, .int (nI i))] ⟨rfl, rfl, rfl, rfl, trivial⟩ ?_
      exact l_T_campaign hb hi ok en rfl 10007 _ _ _ ⟨hc, by obtain ⟨a, b, ha, hb2, e1, e2⟩ := hx; have h5 := hb.2.2.2.1; first | exact ⟨a, N, ha, e1, rfl, by omega, by omega⟩ | exact ⟨b, N, hb2, e2, rfl, by omega, by omega⟩ | exact ⟨a, i, ha, e1, rfl, by omega, by omega⟩ | exact ⟨b, i, hb2, e2, rfl, by omega, by omega⟩⟩ (by simp only [s_T_campaign, if_neg h12_0, if_neg h32_1])
    · refine mr_aload_n ok (i := 0) d_T_campaign_35 rfl rfl ?_
      refine sx_getr ok hB fl_T_65 (tm_20 hb) rfl d_T_campaign_36 ?_
      refine mr_goto ok 43 d_T_campaign_39 (by decide) ?_
      refine mr_istore_n ok (i := 3) d_T_campaign_43 rfl (by decide) ?_
      refine mr_lv [(0, .ref (B.2.1 20 0)), (1, .int (nI i)), (2, .int (r 27 0 i)), (3, .int (nI N))] ⟨rfl, rfl, rfl, rfl, trivial⟩ ?_
      exact l_T_campaign hb hi ok en rfl 10007 _ _ _ ⟨hc, by obtain ⟨a, b, ha, hb2, e1, e2⟩ := hx; have h5 := hb.2.2.2.1; first | exact ⟨a, N, ha, e1, rfl, by omega, by omega⟩ | exact ⟨b, N, hb2, e2, rfl, by omega, by omega⟩ | exact ⟨a, i, ha, e1, rfl, by omega, by omega⟩ | exact ⟨b, i, hb2, e2, rfl, by omega, by omega⟩⟩ (by simp only [s_T_campaign, if_neg h12_0, if_pos h32_1])
