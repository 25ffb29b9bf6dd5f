/-! rows with the place as the machine computes it -/
section CR
variable {X : mx_C} {Z : mx_Z} {own : String} {cc : ByteArray} {nL : Nat} {rm : Room} {n : Nat × Nat} {pc : Nat} {lv : List (Nat × Value)} {st : List Value} {B : sh_B} {c r : sh_S}
theorem cx_ialdC (ok : mx_ok X Z own cc nL rm) (hB : sh_F B) {kd i t0 N : Nat} {cA : ClassId} {x : Int32} (hk0 : Nat.blt kd 20 = true) (ht : B.2.2 kd i = some (.inl (cA, N))) (hty : Z.2.2[t0]? = some (cA, .int)) (hin : vp_in x N) (hd : decode cc pc = .ok (.iaload, 1)) (kk : sx B X n (pc + 1) lv (.int (c kd i x.toNatClampNeg) :: st) (jn c r)) : sx B X n pc lv (.int x :: .ref (B.2.1 kd i) :: st) (jn c r) :=
  sx_iald ok hB ht hty hin hd (by rw [jn_c hk0]; exact kk)
theorem cx_iastC (ok : mx_ok X Z own cc nL rm) (hB : sh_F B) {kd i t0 N : Nat} {cA : ClassId} {x v : Int32} (hk0 : Nat.blt kd 20 = true) (ht : B.2.2 kd i = some (.inl (cA, N))) (hty : Z.2.2[t0]? = some (cA, .int)) (hin : vp_in x N) (hd : decode cc pc = .ok (.iastore, 1)) (kk : sx B X n (pc + 1) lv st (jn (sU c kd i x.toNatClampNeg v) r)) : sx B X n pc lv (.int v :: .int x :: .ref (B.2.1 kd i) :: st) (jn c r) :=
  sx_iast ok hB ht hty hin hd (sx_S (sU_c hk0) kk)
theorem rx_ialdC (ok : mx_ok X Z own cc nL rm) (hB : sh_F B) {kd i t0 N : Nat} {cA : ClassId} {x : Int32} (hk0 : Nat.blt kd 20 = false) (ht : B.2.2 kd i = some (.inl (cA, N))) (hty : Z.2.2[t0]? = some (cA, .int)) (hin : vp_in x N) (hd : decode cc pc = .ok (.iaload, 1)) (kk : sx B X n (pc + 1) lv (.int (r kd i x.toNatClampNeg) :: st) (jn c r)) : sx B X n pc lv (.int x :: .ref (B.2.1 kd i) :: st) (jn c r) :=
  sx_iald ok hB ht hty hin hd (by rw [jn_r hk0]; exact kk)
theorem rx_iastC (ok : mx_ok X Z own cc nL rm) (hB : sh_F B) {kd i t0 N : Nat} {cA : ClassId} {x v : Int32} (hk0 : Nat.blt kd 20 = false) (ht : B.2.2 kd i = some (.inl (cA, N))) (hty : Z.2.2[t0]? = some (cA, .int)) (hin : vp_in x N) (hd : decode cc pc = .ok (.iastore, 1)) (kk : sx B X n (pc + 1) lv st (jn c (sU r kd i x.toNatClampNeg v))) : sx B X n pc lv (.int v :: .int x :: .ref (B.2.1 kd i) :: st) (jn c r) :=
  sx_iast ok hB ht hty hin hd (sx_S (sU_r hk0) kk)
theorem rx_zaldC (ok : mx_ok X Z own cc nL rm) (hB : sh_F B) {kd i t0 N : Nat} {cA : ClassId} {x : Int32} (hk0 : Nat.blt kd 20 = false) (ht : B.2.2 kd i = some (.inl (cA, N))) (hty : Z.2.2[t0]? = some (cA, .boolean)) (hin : vp_in x N) (hd : decode cc pc = .ok (.baload, 1)) (kk : sx B X n (pc + 1) lv (.int (r kd i x.toNatClampNeg) :: st) (jn c r)) : sx B X n pc lv (.int x :: .ref (B.2.1 kd i) :: st) (jn c r) := by
  obtain ⟨q0, h0⟩ := hB.2 kd i _ ht
  refine mr_zald ok q0 t0 (sh_at h0) hty hin hd ?_
  rw [jn_r hk0]
  exact kk
theorem rx_zastC (ok : mx_ok X Z own cc nL rm) (hB : sh_F B) {kd i t0 N : Nat} {cA : ClassId} {x v : Int32} (hk0 : Nat.blt kd 20 = false) (ht : B.2.2 kd i = some (.inl (cA, N))) (hty : Z.2.2[t0]? = some (cA, .boolean)) (hin : vp_in x N) (hv : vp_nar .boolean v = v) (hd : decode cc pc = .ok (.bastore, 1)) (kk : sx B X n (pc + 1) lv st (jn c (sU r kd i x.toNatClampNeg v))) : sx B X n pc lv (.int v :: .int x :: .ref (B.2.1 kd i) :: st) (jn c r) := by
  obtain ⟨q0, h0⟩ := hB.2 kd i _ ht
  refine mr_zast ok q0 t0 (sh_at h0) hty hin hd ?_
  rw [hv]
  have e := sh_set (S := jn c r) hB.1 h0 (upd (jn c r kd i) x.toNatClampNeg v)
  rw [sU_sA, sU_r hk0] at e
  exact mr_ws e kk
theorem cx_copyC (ok : mx_ok X Z own cc nL rm) (hB : sh_F B) {idx : Nat} (cw : Cond.methodLink own idx arraycopyName ∈ mx_tbl ∧ Cond.native arraycopyName ∈ mx_tbl ∧ Cond.static arraycopyName ∈ mx_tbl ∧ Cond.initialized "java/lang/System" ∈ mx_tbl) {kd i t0 N : Nat} {cA : ClassId} {sp dp k : Int32} (hk0 : Nat.blt kd 20 = true) (ht : B.2.2 kd i = some (.inl (cA, N))) (hty : Z.2.2[t0]? = some (cA, .int)) (hin : (¬ sp < 0 ∧ ¬ dp < 0 ∧ ¬ k < 0) ∧ sp.toNatClampNeg + k.toNatClampNeg ≤ N ∧ dp.toNatClampNeg + k.toNatClampNeg ≤ N) (hf : 1 ≤ rm.frames) (hlo : (st.map fun v => v.category).sum + (nativeFrameWords "java/lang/System" "arraycopy" 5 + 11) ≤ rm.locals) (hd : decode cc pc = .ok (.invokestatic idx, 3))
    (kk : sx B X n (pc + 3) lv st (jn (sA c kd i (va_cpy (c kd i) (c kd i) sp.toNatClampNeg dp.toNatClampNeg k.toNatClampNeg)) r)) : sx B X n pc lv (.int k :: .int dp :: .ref (B.2.1 kd i) :: .int sp :: .ref (B.2.1 kd i) :: st) (jn c r) := by
  refine sx_copy ok hB cw ht ht hty hin.1.1 hin.1.2.1 hin.1.2.2 hin.2.1 hin.2.2 hf hlo hd ?_
  exact sx_S (by rw [jn_c hk0, sA_c hk0]) kk
end CR
theorem and31v (x : Int32) : vp_in (x &&& 31) 32 := by
  rw [(and31 x).1]
  exact vp_in_nI (and31 x).2 (by decide)
theorem kl_add {c : sh_S} {i : Nat} (hc : ∃ q : Nat, q ≤ 8 ∧ c 3 i 1 = nI q) (h : c 3 i 1 < 8) : vp_in (c 3 i 1) 8 := by
  obtain ⟨q, hq, e⟩ := hc
  rw [e] at h ⊢
  have : q < 8 := (nI_ltI (by omega) (by decide)).mp h
  exact vp_in_nI this (by decide)
theorem kl_at {c : sh_S} {i : Nat} {x : Int32} (hc : ∃ q : Nat, q ≤ 8 ∧ c 3 i 1 = nI q) (h0 : ¬ x < 0) (h : ¬ c 3 i 1 ≤ x) : vp_in x 8 := by
  obtain ⟨q, hq, e⟩ := hc
  rw [e] at h
  obtain ⟨j, hj, rfl, -⟩ := pk_mu h0 h (by omega)
  exact vp_in_nI (by omega) (by decide)

def v_G_ahead (N L : Nat) (c : sh_S) (i : Nat) : Int32 := (if (c 1 i 4) < ((c 1 i 2) - (nI L)) then ((c 1 i 2) - (nI L)) else (c 1 i 4))
set_option maxHeartbeats 4000000 in
set_option maxRecDepth 100000 in
theorem c_G_ahead {B : sh_B} {Z : mx_Z} {N L : Nat} {cI cR cZ : ClassId} (hb : wB B Z N L cI cR cZ) {c r : sh_S} {i : Nat} (hi : i < N) : sc B Z y_G_ahead b_G_ahead 1 (some (.int)) (rmm 1 22) [.ref (B.2.1 1 i)] (jn c r) (qe (some (.int (v_G_ahead N L c i))) (jn c r)) := by
  refine ct_of (by decide) (Nat.le_of_ble_eq_true rfl) (cat_of rfl) ?_
  intro X ok en _
  have hB := hb.1
  refine mr_lv [(0, .ref (B.2.1 1 i))] ⟨rfl, trivial⟩ ?_
  refine mr_aload_n ok (i := 0) d_G_ahead_0 rfl rfl ?_
  refine cx_geti ok hB rfl fl_G_19 (tm_1 hb hi) rfl d_G_ahead_1 ?_
  refine mr_aload_n ok (i := 0) d_G_ahead_4 rfl rfl ?_
  refine cx_geti ok hB rfl fl_G_22 (tm_1 hb hi) rfl d_G_ahead_5 ?_
  refine mr_aload_n ok (i := 0) d_G_ahead_8 rfl rfl ?_
  refine sx_getr ok hB fl_G_9 (tm_1 hb hi) rfl d_G_ahead_9 ?_
  refine mr_isub ok d_G_ahead_12 ?_
  refine mr_max ok (mw 361 rfl rfl) (mw 65 rfl rfl) (mw 44 rfl rfl) (mw 66 rfl rfl) (by decide) (Nat.le_of_ble_eq_true rfl) (Nat.le_refl _) (Nat.le_refl _) d_G_ahead_13 ?_
  refine sx_iret ok en (Nat.le_refl _) (Nat.le_refl _) d_G_ahead_16 ?_
  exact ⟨(by first | rfl | simp only [v_G_ahead]), (by first | rfl | simp only [s_G_ahead])⟩
def v_G_keeps (N L : Nat) (c : sh_S) (i : Nat) (x : Int32) : Int32 := (if x ≤ (v_G_ahead N L c i) then 0 else (if (c 1 i 2) < x then 0 else 1))
set_option maxHeartbeats 4000000 in
set_option maxRecDepth 100000 in
theorem c_G_keeps {B : sh_B} {Z : mx_Z} {N L : Nat} {cI cR cZ : ClassId} (hb : wB B Z N L cI cR cZ) {c r : sh_S} {i : Nat} (hi : i < N) {x : Int32} : sc B Z y_G_keeps b_G_keeps 2 (some (.boolean)) (rmm 2 42) [.ref (B.2.1 1 i), .int x] (jn c r) (qe (some (.int (v_G_keeps N L c i x))) (jn c r)) := by
  refine ct_of (by decide) (Nat.le_of_ble_eq_true rfl) (cat_of rfl) ?_
  intro X ok en _
  have hB := hb.1
  refine mr_lv [(0, .ref (B.2.1 1 i)), (1, .int x)] ⟨rfl, rfl, trivial⟩ ?_
  refine mr_iload_n ok (i := 1) d_G_keeps_0 rfl rfl ?_
  refine mr_aload_n ok (i := 0) d_G_keeps_1 rfl rfl ?_
  refine sx_cVi ok hB [] rfl cb_G_31 cv_G_ahead (tm_1 hb hi) rfl rfl (c_G_ahead hb hi) rfl (Nat.le_of_ble_eq_true rfl) (by decide) ⟨Nat.le_refl _, Nat.le_refl _⟩ d_G_keeps_2 ?_
  refine mr_icmp_le ok 20 d_G_keeps_5 (by decide) (fun h5_0 => ?_) (fun h5_0 => ?_)
  · refine mr_iconst ok 0 d_G_keeps_20 (by decide) ?_
    refine sx_zret rfl ok en (Nat.le_refl _) (Nat.le_refl _) d_G_keeps_21 ?_
    exact ⟨(by first | rfl | simp only [v_G_keeps, if_pos h5_0]), (by first | rfl | simp only [s_G_keeps, if_pos h5_0])⟩
  · refine mr_iload_n ok (i := 1) d_G_keeps_8 rfl rfl ?_
    refine mr_aload_n ok (i := 0) d_G_keeps_9 rfl rfl ?_
    refine cx_geti ok hB rfl fl_G_22 (tm_1 hb hi) rfl d_G_keeps_10 ?_
    refine mr_icmp_gt ok 20 d_G_keeps_13 (by decide) (fun h13_1 => ?_) (fun h13_1 => ?_)
    · refine mr_iconst ok 0 d_G_keeps_20 (by decide) ?_
      refine sx_zret rfl ok en (Nat.le_refl _) (Nat.le_refl _) d_G_keeps_21 ?_
      exact ⟨(by first | rfl | simp only [v_G_keeps, if_neg h5_0, if_pos h13_1]), (by first | rfl | simp only [s_G_keeps, if_neg h5_0, if_pos h13_1])⟩
    · refine mr_iconst ok 1 d_G_keeps_16 (by decide) ?_
      refine mr_goto ok 21 d_G_keeps_17 (by decide) ?_
      refine sx_zret rfl ok en (Nat.le_refl _) (Nat.le_refl _) d_G_keeps_21 ?_
      exact ⟨(by first | rfl | simp only [v_G_keeps, if_neg h5_0, if_neg h13_1]), (by first | rfl | simp only [s_G_keeps, if_neg h5_0, if_neg h13_1])⟩
def v_G_numberOf (N L : Nat) (c : sh_S) (i : Nat) (x : Int32) : Int32 := (if (v_G_keeps N L c i x) = 0 then 0 else (c 2 i (((x &&& 31) : Int32).toNatClampNeg)))
set_option maxHeartbeats 4000000 in
set_option maxRecDepth 100000 in
theorem c_G_numberOf {B : sh_B} {Z : mx_Z} {N L : Nat} {cI cR cZ : ClassId} (hb : wB B Z N L cI cR cZ) {c r : sh_S} {i : Nat} (hi : i < N) {x : Int32} : sc B Z y_G_numberOf b_G_numberOf 2 (some (.int)) (rmm 3 63) [.ref (B.2.1 1 i), .int x] (jn c r) (qe (some (.int (v_G_numberOf N L c i x))) (jn c r)) := by
  refine ct_of (by decide) (Nat.le_of_ble_eq_true rfl) (cat_of rfl) ?_
  intro X ok en _
  have hB := hb.1
  refine mr_lv [(0, .ref (B.2.1 1 i)), (1, .int x)] ⟨rfl, rfl, trivial⟩ ?_
  refine mr_aload_n ok (i := 0) d_G_numberOf_0 rfl rfl ?_
  refine mr_iload_n ok (i := 1) d_G_numberOf_1 rfl rfl ?_
  refine sx_cVi ok hB [_] rfl cb_G_35 cv_G_keeps (tm_1 hb hi) rfl rfl (c_G_keeps hb hi) rfl (Nat.le_of_ble_eq_true rfl) (by decide) ⟨Nat.le_refl _, Nat.le_refl _⟩ d_G_numberOf_2 ?_
  refine mr_if_eq ok 20 d_G_numberOf_5 (by decide) (fun h5_0 => ?_) (fun h5_0 => ?_)
  · refine mr_iconst ok 0 d_G_numberOf_20 (by decide) ?_
    refine sx_iret ok en (Nat.le_refl _) (Nat.le_refl _) d_G_numberOf_21 ?_
    exact ⟨(by first | rfl | simp only [v_G_numberOf, if_pos h5_0]), (by first | rfl | simp only [s_G_numberOf, if_pos h5_0])⟩
  · refine mr_aload_n ok (i := 0) d_G_numberOf_8 rfl rfl ?_
    refine sx_getr ok hB fl_G_15 (tm_1 hb hi) rfl d_G_numberOf_9 ?_
    refine mr_iload_n ok (i := 1) d_G_numberOf_12 rfl rfl ?_
    refine mr_bipush ok 31 d_G_numberOf_13 (by decide) ?_
    refine mr_iand ok d_G_numberOf_15 ?_
    refine cx_ialdC ok hB rfl (tm_2 hb hi) (ty_0 hb) (and31v x) d_G_numberOf_16 ?_
    refine mr_goto ok 21 d_G_numberOf_17 (by decide) ?_
    refine sx_iret ok en (Nat.le_refl _) (Nat.le_refl _) d_G_numberOf_21 ?_
    exact ⟨(by first | rfl | simp only [v_G_numberOf, if_neg h5_0]), (by first | rfl | simp only [s_G_numberOf, if_neg h5_0])⟩
def s_G_append (N L : Nat) (c : sh_S) (i : Nat) (x : Int32) : sh_S := (let c1 := sU c 1 i 2 ((c 1 i 2) + 1); (let c2 := sU c1 1 i 3 ((31 * (c1 1 i 3)) + x); (let c3 := sU c2 2 i ((((c2 1 i 2) &&& 31) : Int32).toNatClampNeg) x; c3)))
set_option maxHeartbeats 4000000 in
set_option maxRecDepth 100000 in
theorem c_G_append {B : sh_B} {Z : mx_Z} {N L : Nat} {cI cR cZ : ClassId} (hb : wB B Z N L cI cR cZ) {c r : sh_S} {i : Nat} (hi : i < N) {x : Int32} : sc B Z y_G_append b_G_append 2 none (rmm 0 0) [.ref (B.2.1 1 i), .int x] (jn c r) (qe none (jn (s_G_append N L c i x) r)) := by
  refine ct_of (by decide) (Nat.le_of_ble_eq_true rfl) (cat_of rfl) ?_
  intro X ok en _
  have hB := hb.1
  refine mr_lv [(0, .ref (B.2.1 1 i)), (1, .int x)] ⟨rfl, rfl, trivial⟩ ?_
  refine mr_aload_n ok (i := 0) d_G_append_0 rfl rfl ?_
  refine mr_dup ok d_G_append_1 rfl ?_
  refine cx_geti ok hB rfl fl_G_22 (tm_1 hb hi) rfl d_G_append_2 ?_
  refine mr_iconst ok 1 d_G_append_5 (by decide) ?_
  refine mr_iadd ok d_G_append_6 ?_
  refine cx_put ok hB rfl fw_G_22 (tm_1 hb hi) rfl rfl rfl d_G_append_7 ?_
  refine mr_aload_n ok (i := 0) d_G_append_10 rfl rfl ?_
  refine mr_bipush ok 31 d_G_append_11 (by decide) ?_
  refine mr_aload_n ok (i := 0) d_G_append_13 rfl rfl ?_
  refine cx_geti ok hB rfl fl_G_39 (tm_1 hb hi) rfl d_G_append_14 ?_
  refine mr_imul ok d_G_append_17 ?_
  refine mr_iload_n ok (i := 1) d_G_append_18 rfl rfl ?_
  refine mr_iadd ok d_G_append_19 ?_
  refine cx_put ok hB rfl fw_G_39 (tm_1 hb hi) rfl rfl rfl d_G_append_20 ?_
  refine mr_aload_n ok (i := 0) d_G_append_23 rfl rfl ?_
  refine sx_getr ok hB fl_G_15 (tm_1 hb hi) rfl d_G_append_24 ?_
  refine mr_aload_n ok (i := 0) d_G_append_27 rfl rfl ?_
  refine cx_geti ok hB rfl fl_G_22 (tm_1 hb hi) rfl d_G_append_28 ?_
  refine mr_bipush ok 31 d_G_append_31 (by decide) ?_
  refine mr_iand ok d_G_append_33 ?_
  refine mr_iload_n ok (i := 1) d_G_append_34 rfl rfl ?_
  refine cx_iastC ok hB rfl (tm_2 hb hi) (ty_0 hb) (and31v _) d_G_append_35 ?_
  refine sx_vret ok en (Nat.le_refl _) (Nat.le_refl _) d_G_append_36 ?_
  exact ⟨rfl, (by first | rfl | simp only [s_G_append])⟩
def s_G_jump (N L : Nat) (c : sh_S) (i : Nat) (x : Int32) (y : Int32) : sh_S := (let c1 := sU c 1 i 2 x; (let c2 := sU c1 1 i 3 y; (let c3 := sU c2 1 i 4 x; c3)))
set_option maxHeartbeats 4000000 in
set_option maxRecDepth 100000 in
theorem c_G_jump {B : sh_B} {Z : mx_Z} {N L : Nat} {cI cR cZ : ClassId} (hb : wB B Z N L cI cR cZ) {c r : sh_S} {i : Nat} (hi : i < N) {x : Int32} {y : Int32} : sc B Z y_G_jump b_G_jump 3 none (rmm 0 0) [.ref (B.2.1 1 i), .int x, .int y] (jn c r) (qe none (jn (s_G_jump N L c i x y) r)) := by
  refine ct_of (by decide) (Nat.le_of_ble_eq_true rfl) (cat_of rfl) ?_
  intro X ok en _
  have hB := hb.1
  refine mr_lv [(0, .ref (B.2.1 1 i)), (1, .int x), (2, .int y)] ⟨rfl, rfl, rfl, trivial⟩ ?_
  refine mr_aload_n ok (i := 0) d_G_jump_0 rfl rfl ?_
  refine mr_iload_n ok (i := 1) d_G_jump_1 rfl rfl ?_
  refine cx_put ok hB rfl fw_G_22 (tm_1 hb hi) rfl rfl rfl d_G_jump_2 ?_
  refine mr_aload_n ok (i := 0) d_G_jump_5 rfl rfl ?_
  refine mr_iload_n ok (i := 2) d_G_jump_6 rfl rfl ?_
  refine cx_put ok hB rfl fw_G_39 (tm_1 hb hi) rfl rfl rfl d_G_jump_7 ?_
  refine mr_aload_n ok (i := 0) d_G_jump_10 rfl rfl ?_
  refine mr_iload_n ok (i := 1) d_G_jump_11 rfl rfl ?_
  refine cx_put ok hB rfl fw_G_19 (tm_1 hb hi) rfl rfl rfl d_G_jump_12 ?_
  refine sx_vret ok en (Nat.le_refl _) (Nat.le_refl _) d_G_jump_15 ?_
  exact ⟨rfl, (by first | rfl | simp only [s_G_jump])⟩
def v_L_add (N L : Nat) (c : sh_S) (i : Nat) (x : Int32) : Int32 := (if (c 3 i 1) < 8 then (let c1 := sU c 4 i (((c 3 i 1) : Int32).toNatClampNeg) x; (let c2 := sU c1 3 i 1 ((c1 3 i 1) + 1); 1)) else 0)
def s_L_add (N L : Nat) (c : sh_S) (i : Nat) (x : Int32) : sh_S := (if (c 3 i 1) < 8 then (let c1 := sU c 4 i (((c 3 i 1) : Int32).toNatClampNeg) x; (let c2 := sU c1 3 i 1 ((c1 3 i 1) + 1); c2)) else c)
set_option maxHeartbeats 4000000 in
set_option maxRecDepth 100000 in
theorem c_L_add {B : sh_B} {Z : mx_Z} {N L : Nat} {cI cR cZ : ClassId} (hb : wB B Z N L cI cR cZ) {c r : sh_S} {i : Nat} (hi : i < N) {x : Int32} (hc : ∃ q : Nat, q ≤ 8 ∧ c 3 i 1 = nI q) : sc B Z y_L_add b_L_add 2 (some (.boolean)) (rmm 0 0) [.ref (B.2.1 3 i), .int x] (jn c r) (qe (some (.int (v_L_add N L c i x))) (jn (s_L_add N L c i x) r)) := by
  refine ct_of (by decide) (Nat.le_of_ble_eq_true rfl) (cat_of rfl) ?_
  intro X ok en _
  have hB := hb.1
  refine mr_lv [(0, .ref (B.2.1 3 i)), (1, .int x)] ⟨rfl, rfl, trivial⟩ ?_
  refine mr_aload_n ok (i := 0) d_L_add_0 rfl rfl ?_
  refine cx_geti ok hB rfl fl_L_15 (tm_3 hb hi) rfl d_L_add_1 ?_
  refine mr_bipush ok 8 d_L_add_4 (by decide) ?_
  refine mr_icmp_lt ok 11 d_L_add_6 (by decide) (fun h6_0 => ?_) (fun h6_0 => ?_)
  · refine mr_aload_n ok (i := 0) d_L_add_11 rfl rfl ?_
    refine sx_getr ok hB fl_L_9 (tm_3 hb hi) rfl d_L_add_12 ?_
    refine mr_aload_n ok (i := 0) d_L_add_15 rfl rfl ?_
    refine cx_geti ok hB rfl fl_L_15 (tm_3 hb hi) rfl d_L_add_16 ?_
    refine mr_iload_n ok (i := 1) d_L_add_19 rfl rfl ?_
    refine cx_iastC ok hB rfl (tm_4 hb hi) (ty_0 hb) (kl_add hc ‹_›) d_L_add_20 ?_
    refine mr_aload_n ok (i := 0) d_L_add_21 rfl rfl ?_
    refine mr_dup ok d_L_add_22 rfl ?_
    refine cx_geti ok hB rfl fl_L_15 (tm_3 hb hi) rfl d_L_add_23 ?_
    refine mr_iconst ok 1 d_L_add_26 (by decide) ?_
    refine mr_iadd ok d_L_add_27 ?_
    refine cx_put ok hB rfl fw_L_15 (tm_3 hb hi) rfl rfl rfl d_L_add_28 ?_
    refine mr_iconst ok 1 d_L_add_31 (by decide) ?_
    refine sx_zret rfl ok en (Nat.le_refl _) (Nat.le_refl _) d_L_add_32 ?_
    exact ⟨(by first | rfl | simp only [v_L_add, if_pos h6_0]), (by first | rfl | simp only [s_L_add, if_pos h6_0])⟩
  · refine mr_iconst ok 0 d_L_add_9 (by decide) ?_
    refine sx_zret rfl ok en (Nat.le_refl _) (Nat.le_refl _) d_L_add_10 ?_
    exact ⟨(by first | rfl | simp only [v_L_add, if_neg h6_0]), (by first | rfl | simp only [s_L_add, if_neg h6_0])⟩
def v_L_at (N L : Nat) (c : sh_S) (i : Nat) (x : Int32) : Int32 := (if x < 0 then 0 else (if (c 3 i 1) ≤ x then 0 else (c 4 i ((x : Int32).toNatClampNeg))))
set_option maxHeartbeats 4000000 in
set_option maxRecDepth 100000 in
theorem c_L_at {B : sh_B} {Z : mx_Z} {N L : Nat} {cI cR cZ : ClassId} (hb : wB B Z N L cI cR cZ) {c r : sh_S} {i : Nat} (hi : i < N) {x : Int32} (hc : ∃ q : Nat, q ≤ 8 ∧ c 3 i 1 = nI q) : sc B Z y_L_at b_L_at 2 (some (.int)) (rmm 0 0) [.ref (B.2.1 3 i), .int x] (jn c r) (qe (some (.int (v_L_at N L c i x))) (jn c r)) := by
  refine ct_of (by decide) (Nat.le_of_ble_eq_true rfl) (cat_of rfl) ?_
  intro X ok en _
  have hB := hb.1
  refine mr_lv [(0, .ref (B.2.1 3 i)), (1, .int x)] ⟨rfl, rfl, trivial⟩ ?_
  refine mr_iload_n ok (i := 1) d_L_at_0 rfl rfl ?_
  refine mr_if_lt ok 21 d_L_at_1 (by decide) (fun h1_0 => ?_) (fun h1_0 => ?_)
  · refine mr_iconst ok 0 d_L_at_21 (by decide) ?_
    refine sx_iret ok en (Nat.le_refl _) (Nat.le_refl _) d_L_at_22 ?_
    exact ⟨(by first | rfl | simp only [v_L_at, if_pos h1_0]), (by first | rfl | simp only [s_L_at, if_pos h1_0])⟩
  · refine mr_iload_n ok (i := 1) d_L_at_4 rfl rfl ?_
    refine mr_aload_n ok (i := 0) d_L_at_5 rfl rfl ?_
    refine cx_geti ok hB rfl fl_L_15 (tm_3 hb hi) rfl d_L_at_6 ?_
    refine mr_icmp_ge ok 21 d_L_at_9 (by decide) (fun h9_1 => ?_) (fun h9_1 => ?_)
    · refine mr_iconst ok 0 d_L_at_21 (by decide) ?_
      refine sx_iret ok en (Nat.le_refl _) (Nat.le_refl _) d_L_at_22 ?_
      exact ⟨(by first | rfl | simp only [v_L_at, if_neg h1_0, if_pos h9_1]), (by first | rfl | simp only [s_L_at, if_neg h1_0, if_pos h9_1])⟩
    · refine mr_aload_n ok (i := 0) d_L_at_12 rfl rfl ?_
      refine sx_getr ok hB fl_L_9 (tm_3 hb hi) rfl d_L_at_13 ?_
      refine mr_iload_n ok (i := 1) d_L_at_16 rfl rfl ?_
      refine cx_ialdC ok hB rfl (tm_4 hb hi) (ty_0 hb) (kl_at hc ‹_› ‹_›) d_L_at_17 ?_
      refine mr_goto ok 22 d_L_at_18 (by decide) ?_
      refine sx_iret ok en (Nat.le_refl _) (Nat.le_refl _) d_L_at_22 ?_
      exact ⟨(by first | rfl | simp only [v_L_at, if_neg h1_0, if_neg h9_1]), (by first | rfl | simp only [s_L_at, if_neg h1_0, if_neg h9_1])⟩
def s_R_becomeFollower (N L : Nat) (c : sh_S) (i : Nat) : sh_S := (let c1 := sU c 0 i 7 0; (let c2 := sU c1 0 i 8 0; (let c3 := sU c2 0 i 9 0; (let c4 := sU c3 0 i 10 0; c4))))
set_option maxHeartbeats 4000000 in
set_option maxRecDepth 100000 in
theorem c_R_becomeFollower {B : sh_B} {Z : mx_Z} {N L : Nat} {cI cR cZ : ClassId} (hb : wB B Z N L cI cR cZ) {c r : sh_S} {i : Nat} (hi : i < N) : sc B Z y_R_becomeFollower b_R_becomeFollower 1 none (rmm 0 0) [.ref (B.2.1 0 i)] (jn c r) (qe none (jn (s_R_becomeFollower N L c i) r)) := by
  refine ct_of (by decide) (Nat.le_of_ble_eq_true rfl) (cat_of rfl) ?_
  intro X ok en _
  have hB := hb.1
  refine mr_lv [(0, .ref (B.2.1 0 i))] ⟨rfl, trivial⟩ ?_
  refine mr_aload_n ok (i := 0) d_R_becomeFollower_0 rfl rfl ?_
  refine mr_iconst ok 0 d_R_becomeFollower_1 (by decide) ?_
  refine cx_put ok hB rfl fw_R_47 (tm_0 hb hi) rfl rfl rfl d_R_becomeFollower_2 ?_
  refine mr_aload_n ok (i := 0) d_R_becomeFollower_5 rfl rfl ?_
  refine mr_iconst ok 0 d_R_becomeFollower_6 (by decide) ?_
  refine cx_put ok hB rfl fw_R_50 (tm_0 hb hi) rfl rfl rfl d_R_becomeFollower_7 ?_
  refine mr_aload_n ok (i := 0) d_R_becomeFollower_10 rfl rfl ?_
  refine mr_iconst ok 0 d_R_becomeFollower_11 (by decide) ?_
  refine cx_put ok hB rfl fw_R_53 (tm_0 hb hi) rfl rfl rfl d_R_becomeFollower_12 ?_
  refine mr_aload_n ok (i := 0) d_R_becomeFollower_15 rfl rfl ?_
  refine mr_iconst ok 0 d_R_becomeFollower_16 (by decide) ?_
  refine cx_put ok hB rfl fw_R_56 (tm_0 hb hi) rfl rfl rfl d_R_becomeFollower_17 ?_
  refine sx_vret ok en (Nat.le_refl _) (Nat.le_refl _) d_R_becomeFollower_20 ?_
  exact ⟨rfl, (by first | rfl | simp only [s_R_becomeFollower])⟩
def s_R_becomeLeader (N L : Nat) (c : sh_S) (i : Nat) : sh_S := (let c1 := sU c 0 i 7 2; (let c2 := sU c1 0 i 9 0; c2))
set_option maxHeartbeats 4000000 in
set_option maxRecDepth 100000 in
theorem c_R_becomeLeader {B : sh_B} {Z : mx_Z} {N L : Nat} {cI cR cZ : ClassId} (hb : wB B Z N L cI cR cZ) {c r : sh_S} {i : Nat} (hi : i < N) : sc B Z y_R_becomeLeader b_R_becomeLeader 1 none (rmm 0 0) [.ref (B.2.1 0 i)] (jn c r) (qe none (jn (s_R_becomeLeader N L c i) r)) := by
  refine ct_of (by decide) (Nat.le_of_ble_eq_true rfl) (cat_of rfl) ?_
  intro X ok en _
  have hB := hb.1
  refine mr_lv [(0, .ref (B.2.1 0 i))] ⟨rfl, trivial⟩ ?_
  refine mr_aload_n ok (i := 0) d_R_becomeLeader_0 rfl rfl ?_
  refine mr_iconst ok 2 d_R_becomeLeader_1 (by decide) ?_
  refine cx_put ok hB rfl fw_R_47 (tm_0 hb hi) rfl rfl rfl d_R_becomeLeader_2 ?_
  refine mr_aload_n ok (i := 0) d_R_becomeLeader_5 rfl rfl ?_
  refine mr_iconst ok 0 d_R_becomeLeader_6 (by decide) ?_
  refine cx_put ok hB rfl fw_R_53 (tm_0 hb hi) rfl rfl rfl d_R_becomeLeader_7 ?_
  refine sx_vret ok en (Nat.le_refl _) (Nat.le_refl _) d_R_becomeLeader_10 ?_
  exact ⟨rfl, (by first | rfl | simp only [s_R_becomeLeader])⟩
def s_R_becomeCandidate (N L : Nat) (c : sh_S) (i : Nat) (x : Int32) : sh_S := (let c1 := sU c 0 i 4 x; (let c2 := sU c1 0 i 7 1; (let c3 := sU c2 0 i 8 x; (let c4 := sU c3 0 i 9 (1 <<< ((nI i) &&& 31)); (let c5 := sU c4 0 i 12 (c4 0 i 5); (let c6 := sU c5 0 i 13 (c5 0 i 6); c6))))))
set_option maxHeartbeats 4000000 in
set_option maxRecDepth 100000 in
theorem c_R_becomeCandidate {B : sh_B} {Z : mx_Z} {N L : Nat} {cI cR cZ : ClassId} (hb : wB B Z N L cI cR cZ) {c r : sh_S} {i : Nat} (hi : i < N) {x : Int32} : sc B Z y_R_becomeCandidate b_R_becomeCandidate 2 none (rmm 0 0) [.ref (B.2.1 0 i), .int x] (jn c r) (qe none (jn (s_R_becomeCandidate N L c i x) r)) := by
  refine ct_of (by decide) (Nat.le_of_ble_eq_true rfl) (cat_of rfl) ?_
  intro X ok en _
  have hB := hb.1
  refine mr_lv [(0, .ref (B.2.1 0 i)), (1, .int x)] ⟨rfl, rfl, trivial⟩ ?_
  refine mr_aload_n ok (i := 0) d_R_becomeCandidate_0 rfl rfl ?_
  refine mr_iload_n ok (i := 1) d_R_becomeCandidate_1 rfl rfl ?_
  refine cx_put ok hB rfl fw_R_38 (tm_0 hb hi) rfl rfl rfl d_R_becomeCandidate_2 ?_
  refine mr_aload_n ok (i := 0) d_R_becomeCandidate_5 rfl rfl ?_
  refine mr_iconst ok 1 d_R_becomeCandidate_6 (by decide) ?_
  refine cx_put ok hB rfl fw_R_47 (tm_0 hb hi) rfl rfl rfl d_R_becomeCandidate_7 ?_
  refine mr_aload_n ok (i := 0) d_R_becomeCandidate_10 rfl rfl ?_
  refine mr_iload_n ok (i := 1) d_R_becomeCandidate_11 rfl rfl ?_
  refine cx_put ok hB rfl fw_R_50 (tm_0 hb hi) rfl rfl rfl d_R_becomeCandidate_12 ?_
  refine mr_aload_n ok (i := 0) d_R_becomeCandidate_15 rfl rfl ?_
  refine mr_iconst ok 1 d_R_becomeCandidate_16 (by decide) ?_
  refine mr_aload_n ok (i := 0) d_R_becomeCandidate_17 rfl rfl ?_
  refine sx_getr ok hB fl_R_9 (tm_0 hb hi) rfl d_R_becomeCandidate_18 ?_
  refine mr_ishl ok d_R_becomeCandidate_21 ?_
  refine cx_put ok hB rfl fw_R_53 (tm_0 hb hi) rfl rfl rfl d_R_becomeCandidate_22 ?_
  refine mr_aload_n ok (i := 0) d_R_becomeCandidate_25 rfl rfl ?_
  refine mr_aload_n ok (i := 0) d_R_becomeCandidate_26 rfl rfl ?_
  refine cx_geti ok hB rfl fl_R_59 (tm_0 hb hi) rfl d_R_becomeCandidate_27 ?_
  refine cx_put ok hB rfl fw_R_62 (tm_0 hb hi) rfl rfl rfl d_R_becomeCandidate_30 ?_
  refine mr_aload_n ok (i := 0) d_R_becomeCandidate_33 rfl rfl ?_
  refine mr_aload_n ok (i := 0) d_R_becomeCandidate_34 rfl rfl ?_
  refine cx_geti ok hB rfl fl_R_65 (tm_0 hb hi) rfl d_R_becomeCandidate_35 ?_
  refine cx_put ok hB rfl fw_R_68 (tm_0 hb hi) rfl rfl rfl d_R_becomeCandidate_38 ?_
  refine sx_vret ok en (Nat.le_refl _) (Nat.le_refl _) d_R_becomeCandidate_41 ?_
  exact ⟨rfl, (by first | rfl | simp only [s_R_becomeCandidate])⟩
def v_R_isNext (N L : Nat) (c : sh_S) (i : Nat) (x : Int32) : Int32 := (if x = ((c 1 i 2) + 1) then 1 else 0)
set_option maxHeartbeats 4000000 in
set_option maxRecDepth 100000 in
theorem c_R_isNext {B : sh_B} {Z : mx_Z} {N L : Nat} {cI cR cZ : ClassId} (hb : wB B Z N L cI cR cZ) {c r : sh_S} {i : Nat} (hi : i < N) {x : Int32} : sc B Z y_R_isNext b_R_isNext 2 (some (.boolean)) (rmm 0 0) [.ref (B.2.1 0 i), .int x] (jn c r) (qe (some (.int (v_R_isNext N L c i x))) (jn c r)) := by
  refine ct_of (by decide) (Nat.le_of_ble_eq_true rfl) (cat_of rfl) ?_
  intro X ok en _
  have hB := hb.1
  refine mr_lv [(0, .ref (B.2.1 0 i)), (1, .int x)] ⟨rfl, rfl, trivial⟩ ?_
  refine mr_iload_n ok (i := 1) d_R_isNext_0 rfl rfl ?_
  refine mr_aload_n ok (i := 0) d_R_isNext_1 rfl rfl ?_
  refine sx_getr ok hB fl_R_20 (tm_0 hb hi) rfl d_R_isNext_2 ?_
  refine cx_geti ok hB rfl fl_R_71 (tm_1 hb hi) rfl d_R_isNext_5 ?_
  refine mr_iconst ok 1 d_R_isNext_8 (by decide) ?_
  refine mr_iadd ok d_R_isNext_9 ?_
  refine mr_icmp_ne ok 17 d_R_isNext_10 (by decide) (fun h10_0 => ?_) (fun h10_0 => ?_)
  · refine mr_iconst ok 0 d_R_isNext_17 (by decide) ?_
    refine sx_zret rfl ok en (Nat.le_refl _) (Nat.le_refl _) d_R_isNext_18 ?_
    exact ⟨(by first | rfl | simp only [v_R_isNext, if_neg h10_0]), (by first | rfl | simp only [s_R_isNext, if_neg h10_0])⟩
  · refine mr_iconst ok 1 d_R_isNext_13 (by decide) ?_
    refine mr_goto ok 18 d_R_isNext_14 (by decide) ?_
    refine sx_zret rfl ok en (Nat.le_refl _) (Nat.le_refl _) d_R_isNext_18 ?_
    exact ⟨(by first | rfl | simp only [v_R_isNext, if_pos h10_0]), (by first | rfl | simp only [s_R_isNext, if_pos h10_0])⟩
def v_R_hasAnswer (N L : Nat) (c : sh_S) (i : Nat) (x : Int32) : Int32 := (if ((c 0 i 9) &&& (1 <<< (x &&& 31))) = 0 then 0 else 1)
set_option maxHeartbeats 4000000 in
set_option maxRecDepth 100000 in
theorem c_R_hasAnswer {B : sh_B} {Z : mx_Z} {N L : Nat} {cI cR cZ : ClassId} (hb : wB B Z N L cI cR cZ) {c r : sh_S} {i : Nat} (hi : i < N) {x : Int32} : sc B Z y_R_hasAnswer b_R_hasAnswer 2 (some (.boolean)) (rmm 0 0) [.ref (B.2.1 0 i), .int x] (jn c r) (qe (some (.int (v_R_hasAnswer N L c i x))) (jn c r)) := by
  refine ct_of (by decide) (Nat.le_of_ble_eq_true rfl) (cat_of rfl) ?_
  intro X ok en _
  have hB := hb.1
  refine mr_lv [(0, .ref (B.2.1 0 i)), (1, .int x)] ⟨rfl, rfl, trivial⟩ ?_
  refine mr_aload_n ok (i := 0) d_R_hasAnswer_0 rfl rfl ?_
  refine cx_geti ok hB rfl fl_R_53 (tm_0 hb hi) rfl d_R_hasAnswer_1 ?_
  refine mr_iconst ok 1 d_R_hasAnswer_4 (by decide) ?_
  refine mr_iload_n ok (i := 1) d_R_hasAnswer_5 rfl rfl ?_
  refine mr_ishl ok d_R_hasAnswer_6 ?_
  refine mr_iand ok d_R_hasAnswer_7 ?_
  refine mr_if_eq ok 15 d_R_hasAnswer_8 (by decide) (fun h8_0 => ?_) (fun h8_0 => ?_)
  · refine mr_iconst ok 0 d_R_hasAnswer_15 (by decide) ?_
    refine sx_zret rfl ok en (Nat.le_refl _) (Nat.le_refl _) d_R_hasAnswer_16 ?_
    exact ⟨(by first | rfl | simp only [v_R_hasAnswer, if_pos h8_0]), (by first | rfl | simp only [s_R_hasAnswer, if_pos h8_0])⟩
  · refine mr_iconst ok 1 d_R_hasAnswer_11 (by decide) ?_
    refine mr_goto ok 16 d_R_hasAnswer_12 (by decide) ?_
    refine sx_zret rfl ok en (Nat.le_refl _) (Nat.le_refl _) d_R_hasAnswer_16 ?_
    exact ⟨(by first | rfl | simp only [v_R_hasAnswer, if_neg h8_0]), (by first | rfl | simp only [s_R_hasAnswer, if_neg h8_0])⟩
def s_R_addAnswer (N L : Nat) (c : sh_S) (i : Nat) (x : Int32) : sh_S := (let c1 := sU c 0 i 9 ((c 0 i 9) ||| (1 <<< (x &&& 31))); c1)
set_option maxHeartbeats 4000000 in
set_option maxRecDepth 100000 in
theorem c_R_addAnswer {B : sh_B} {Z : mx_Z} {N L : Nat} {cI cR cZ : ClassId} (hb : wB B Z N L cI cR cZ) {c r : sh_S} {i : Nat} (hi : i < N) {x : Int32} : sc B Z y_R_addAnswer b_R_addAnswer 2 none (rmm 0 0) [.ref (B.2.1 0 i), .int x] (jn c r) (qe none (jn (s_R_addAnswer N L c i x) r)) := by
  refine ct_of (by decide) (Nat.le_of_ble_eq_true rfl) (cat_of rfl) ?_
  intro X ok en _
  have hB := hb.1
  refine mr_lv [(0, .ref (B.2.1 0 i)), (1, .int x)] ⟨rfl, rfl, trivial⟩ ?_
  refine mr_aload_n ok (i := 0) d_R_addAnswer_0 rfl rfl ?_
  refine mr_dup ok d_R_addAnswer_1 rfl ?_
  refine cx_geti ok hB rfl fl_R_53 (tm_0 hb hi) rfl d_R_addAnswer_2 ?_
  refine mr_iconst ok 1 d_R_addAnswer_5 (by decide) ?_
  refine mr_iload_n ok (i := 1) d_R_addAnswer_6 rfl rfl ?_
  refine mr_ishl ok d_R_addAnswer_7 ?_
  refine mr_ior ok d_R_addAnswer_8 ?_
  refine cx_put ok hB rfl fw_R_53 (tm_0 hb hi) rfl rfl rfl d_R_addAnswer_9 ?_
  refine sx_vret ok en (Nat.le_refl _) (Nat.le_refl _) d_R_addAnswer_12 ?_
  exact ⟨rfl, (by first | rfl | simp only [s_R_addAnswer])⟩
def s_R_keepGreatest (N L : Nat) (c : sh_S) (i : Nat) (x : Int32) (y : Int32) : sh_S := (if x ≤ (c 0 i 12) then c else (let c1 := sU c 0 i 12 x; (let c2 := sU c1 0 i 13 y; c2)))
set_option maxHeartbeats 4000000 in
set_option maxRecDepth 100000 in
theorem c_R_keepGreatest {B : sh_B} {Z : mx_Z} {N L : Nat} {cI cR cZ : ClassId} (hb : wB B Z N L cI cR cZ) {c r : sh_S} {i : Nat} (hi : i < N) {x : Int32} {y : Int32} : sc B Z y_R_keepGreatest b_R_keepGreatest 3 none (rmm 0 0) [.ref (B.2.1 0 i), .int x, .int y] (jn c r) (qe none (jn (s_R_keepGreatest N L c i x y) r)) := by
  refine ct_of (by decide) (Nat.le_of_ble_eq_true rfl) (cat_of rfl) ?_
  intro X ok en _
  have hB := hb.1
  refine mr_lv [(0, .ref (B.2.1 0 i)), (1, .int x), (2, .int y)] ⟨rfl, rfl, rfl, trivial⟩ ?_
  refine mr_iload_n ok (i := 1) d_R_keepGreatest_0 rfl rfl ?_
  refine mr_aload_n ok (i := 0) d_R_keepGreatest_1 rfl rfl ?_
  refine cx_geti ok hB rfl fl_R_62 (tm_0 hb hi) rfl d_R_keepGreatest_2 ?_
  refine mr_icmp_le ok 18 d_R_keepGreatest_5 (by decide) (fun h5_0 => ?_) (fun h5_0 => ?_)
  · refine sx_vret ok en (Nat.le_refl _) (Nat.le_refl _) d_R_keepGreatest_18 ?_
    exact ⟨rfl, (by first | rfl | simp only [s_R_keepGreatest, if_pos h5_0])⟩
  · refine mr_aload_n ok (i := 0) d_R_keepGreatest_8 rfl rfl ?_
    refine mr_iload_n ok (i := 1) d_R_keepGreatest_9 rfl rfl ?_
    refine cx_put ok hB rfl fw_R_62 (tm_0 hb hi) rfl rfl rfl d_R_keepGreatest_10 ?_
    refine mr_aload_n ok (i := 0) d_R_keepGreatest_13 rfl rfl ?_
    refine mr_iload_n ok (i := 2) d_R_keepGreatest_14 rfl rfl ?_
    refine cx_put ok hB rfl fw_R_68 (tm_0 hb hi) rfl rfl rfl d_R_keepGreatest_15 ?_
    refine sx_vret ok en (Nat.le_refl _) (Nat.le_refl _) d_R_keepGreatest_18 ?_
    exact ⟨rfl, (by first | rfl | simp only [s_R_keepGreatest, if_neg h5_0])⟩
def v_R_hasAccepted (N L : Nat) (c : sh_S) (i : Nat) : Int32 := (if (c 0 i 5) = 0 then 0 else 1)
set_option maxHeartbeats 4000000 in
set_option maxRecDepth 100000 in
theorem c_R_hasAccepted {B : sh_B} {Z : mx_Z} {N L : Nat} {cI cR cZ : ClassId} (hb : wB B Z N L cI cR cZ) {c r : sh_S} {i : Nat} (hi : i < N) : sc B Z y_R_hasAccepted b_R_hasAccepted 1 (some (.boolean)) (rmm 0 0) [.ref (B.2.1 0 i)] (jn c r) (qe (some (.int (v_R_hasAccepted N L c i))) (jn c r)) := by
  refine ct_of (by decide) (Nat.le_of_ble_eq_true rfl) (cat_of rfl) ?_
  intro X ok en _
  have hB := hb.1
  refine mr_lv [(0, .ref (B.2.1 0 i))] ⟨rfl, trivial⟩ ?_
  refine mr_aload_n ok (i := 0) d_R_hasAccepted_0 rfl rfl ?_
  refine cx_geti ok hB rfl fl_R_59 (tm_0 hb hi) rfl d_R_hasAccepted_1 ?_
  refine mr_if_eq ok 11 d_R_hasAccepted_4 (by decide) (fun h4_0 => ?_) (fun h4_0 => ?_)
  · refine mr_iconst ok 0 d_R_hasAccepted_11 (by decide) ?_
    refine sx_zret rfl ok en (Nat.le_refl _) (Nat.le_refl _) d_R_hasAccepted_12 ?_
    exact ⟨(by first | rfl | simp only [v_R_hasAccepted, if_pos h4_0]), (by first | rfl | simp only [s_R_hasAccepted, if_pos h4_0])⟩
  · refine mr_iconst ok 1 d_R_hasAccepted_7 (by decide) ?_
    refine mr_goto ok 12 d_R_hasAccepted_8 (by decide) ?_
    refine sx_zret rfl ok en (Nat.le_refl _) (Nat.le_refl _) d_R_hasAccepted_12 ?_
    exact ⟨(by first | rfl | simp only [v_R_hasAccepted, if_neg h4_0]), (by first | rfl | simp only [s_R_hasAccepted, if_neg h4_0])⟩
def s_R_accept (N L : Nat) (c : sh_S) (i : Nat) (x : Int32) (y : Int32) : sh_S := (let c1 := sU c 0 i 5 x; (let c2 := sU c1 0 i 6 y; c2))
set_option maxHeartbeats 4000000 in
set_option maxRecDepth 100000 in
theorem c_R_accept {B : sh_B} {Z : mx_Z} {N L : Nat} {cI cR cZ : ClassId} (hb : wB B Z N L cI cR cZ) {c r : sh_S} {i : Nat} (hi : i < N) {x : Int32} {y : Int32} : sc B Z y_R_accept b_R_accept 3 none (rmm 0 0) [.ref (B.2.1 0 i), .int x, .int y] (jn c r) (qe none (jn (s_R_accept N L c i x y) r)) := by
  refine ct_of (by decide) (Nat.le_of_ble_eq_true rfl) (cat_of rfl) ?_
  intro X ok en _
  have hB := hb.1
  refine mr_lv [(0, .ref (B.2.1 0 i)), (1, .int x), (2, .int y)] ⟨rfl, rfl, rfl, trivial⟩ ?_
  refine mr_aload_n ok (i := 0) d_R_accept_0 rfl rfl ?_
  refine mr_iload_n ok (i := 1) d_R_accept_1 rfl rfl ?_
  refine cx_put ok hB rfl fw_R_59 (tm_0 hb hi) rfl rfl rfl d_R_accept_2 ?_
  refine mr_aload_n ok (i := 0) d_R_accept_5 rfl rfl ?_
  refine mr_iload_n ok (i := 2) d_R_accept_6 rfl rfl ?_
  refine cx_put ok hB rfl fw_R_65 (tm_0 hb hi) rfl rfl rfl d_R_accept_7 ?_
  refine sx_vret ok en (Nat.le_refl _) (Nat.le_refl _) d_R_accept_10 ?_
  exact ⟨rfl, (by first | rfl | simp only [s_R_accept])⟩
def s_R_dropAccepted (N L : Nat) (c : sh_S) (i : Nat) : sh_S := (let c1 := sU c 0 i 5 0; (let c2 := sU c1 0 i 6 0; c2))
set_option maxHeartbeats 4000000 in
set_option maxRecDepth 100000 in
theorem c_R_dropAccepted {B : sh_B} {Z : mx_Z} {N L : Nat} {cI cR cZ : ClassId} (hb : wB B Z N L cI cR cZ) {c r : sh_S} {i : Nat} (hi : i < N) : sc B Z y_R_dropAccepted b_R_dropAccepted 1 none (rmm 0 0) [.ref (B.2.1 0 i)] (jn c r) (qe none (jn (s_R_dropAccepted N L c i) r)) := by
  refine ct_of (by decide) (Nat.le_of_ble_eq_true rfl) (cat_of rfl) ?_
  intro X ok en _
  have hB := hb.1
  refine mr_lv [(0, .ref (B.2.1 0 i))] ⟨rfl, trivial⟩ ?_
  refine mr_aload_n ok (i := 0) d_R_dropAccepted_0 rfl rfl ?_
  refine mr_iconst ok 0 d_R_dropAccepted_1 (by decide) ?_
  refine cx_put ok hB rfl fw_R_59 (tm_0 hb hi) rfl rfl rfl d_R_dropAccepted_2 ?_
  refine mr_aload_n ok (i := 0) d_R_dropAccepted_5 rfl rfl ?_
  refine mr_iconst ok 0 d_R_dropAccepted_6 (by decide) ?_
  refine cx_put ok hB rfl fw_R_65 (tm_0 hb hi) rfl rfl rfl d_R_dropAccepted_7 ?_
  refine sx_vret ok en (Nat.le_refl _) (Nat.le_refl _) d_R_dropAccepted_10 ?_
  exact ⟨rfl, (by first | rfl | simp only [s_R_dropAccepted])⟩
def s_R_proposeAndAccept (N L : Nat) (c : sh_S) (i : Nat) (x : Int32) : sh_S := (let c1 := sU c 0 i 10 x; (let c2 := sU c1 0 i 9 (1 <<< ((nI i) &&& 31)); (let c3 := s_R_accept N L c2 i (c2 0 i 8) x; c3)))
set_option maxHeartbeats 4000000 in
set_option maxRecDepth 100000 in
theorem c_R_proposeAndAccept {B : sh_B} {Z : mx_Z} {N L : Nat} {cI cR cZ : ClassId} (hb : wB B Z N L cI cR cZ) {c r : sh_S} {i : Nat} (hi : i < N) {x : Int32} : sc B Z y_R_proposeAndAccept b_R_proposeAndAccept 2 none (rmm 1 22) [.ref (B.2.1 0 i), .int x] (jn c r) (qe none (jn (s_R_proposeAndAccept N L c i x) r)) := by
  refine ct_of (by decide) (Nat.le_of_ble_eq_true rfl) (cat_of rfl) ?_
  intro X ok en _
  have hB := hb.1
  refine mr_lv [(0, .ref (B.2.1 0 i)), (1, .int x)] ⟨rfl, rfl, trivial⟩ ?_
  refine mr_aload_n ok (i := 0) d_R_proposeAndAccept_0 rfl rfl ?_
  refine mr_iload_n ok (i := 1) d_R_proposeAndAccept_1 rfl rfl ?_
  refine cx_put ok hB rfl fw_R_56 (tm_0 hb hi) rfl rfl rfl d_R_proposeAndAccept_2 ?_
  refine mr_aload_n ok (i := 0) d_R_proposeAndAccept_5 rfl rfl ?_
  refine mr_iconst ok 1 d_R_proposeAndAccept_6 (by decide) ?_
  refine mr_aload_n ok (i := 0) d_R_proposeAndAccept_7 rfl rfl ?_
  refine sx_getr ok hB fl_R_9 (tm_0 hb hi) rfl d_R_proposeAndAccept_8 ?_
  refine mr_ishl ok d_R_proposeAndAccept_11 ?_
  refine cx_put ok hB rfl fw_R_53 (tm_0 hb hi) rfl rfl rfl d_R_proposeAndAccept_12 ?_
  refine mr_aload_n ok (i := 0) d_R_proposeAndAccept_15 rfl rfl ?_
  refine mr_aload_n ok (i := 0) d_R_proposeAndAccept_16 rfl rfl ?_
  refine cx_geti ok hB rfl fl_R_50 (tm_0 hb hi) rfl d_R_proposeAndAccept_17 ?_
  refine mr_iload_n ok (i := 1) d_R_proposeAndAccept_20 rfl rfl ?_
  refine sx_cVv ok hB [_, _] rfl cb_R_74 cv_R_accept (tm_0 hb hi) rfl rfl (c_R_accept hb hi) rfl (Nat.le_of_ble_eq_true rfl) (by decide) ⟨Nat.le_refl _, Nat.le_refl _⟩ d_R_proposeAndAccept_21 ?_
  refine sx_vret ok en (Nat.le_refl _) (Nat.le_refl _) d_R_proposeAndAccept_24 ?_
  exact ⟨rfl, (by first | rfl | simp only [s_R_proposeAndAccept])⟩
def s_R_forget (N L : Nat) (c : sh_S) (i : Nat) : sh_S := (let c1 := s_R_becomeFollower N L c i; (let c2 := sU c1 0 i 11 (c1 0 i 4); (let c3 := sU c2 3 i 1 0; c3)))
set_option maxHeartbeats 4000000 in
set_option maxRecDepth 100000 in
theorem c_R_forget {B : sh_B} {Z : mx_Z} {N L : Nat} {cI cR cZ : ClassId} (hb : wB B Z N L cI cR cZ) {c r : sh_S} {i : Nat} (hi : i < N) : sc B Z y_R_forget b_R_forget 1 none (rmm 1 20) [.ref (B.2.1 0 i)] (jn c r) (qe none (jn (s_R_forget N L c i) r)) := by
  refine ct_of (by decide) (Nat.le_of_ble_eq_true rfl) (cat_of rfl) ?_
  intro X ok en _
  have hB := hb.1
  refine mr_lv [(0, .ref (B.2.1 0 i))] ⟨rfl, trivial⟩ ?_
  refine mr_aload_n ok (i := 0) d_R_forget_0 rfl rfl ?_
  refine sx_cVv ok hB [] rfl cb_R_35 cv_R_becomeFollower (tm_0 hb hi) rfl rfl (c_R_becomeFollower hb hi) rfl (Nat.le_of_ble_eq_true rfl) (by decide) ⟨Nat.le_refl _, Nat.le_refl _⟩ d_R_forget_1 ?_
  refine mr_aload_n ok (i := 0) d_R_forget_4 rfl rfl ?_
  refine mr_aload_n ok (i := 0) d_R_forget_5 rfl rfl ?_
  refine cx_geti ok hB rfl fl_R_38 (tm_0 hb hi) rfl d_R_forget_6 ?_
  refine cx_put ok hB rfl fw_R_41 (tm_0 hb hi) rfl rfl rfl d_R_forget_9 ?_
  refine mr_aload_n ok (i := 0) d_R_forget_12 rfl rfl ?_
  refine sx_getr ok hB fl_R_27 (tm_0 hb hi) rfl d_R_forget_13 ?_
  refine mr_iconst ok 0 d_R_forget_16 (by decide) ?_
  refine cx_put ok hB rfl fw_R_44 (tm_3 hb hi) rfl rfl rfl d_R_forget_17 ?_
  refine sx_vret ok en (Nat.le_refl _) (Nat.le_refl _) d_R_forget_20 ?_
  exact ⟨rfl, (by first | rfl | simp only [s_R_forget])⟩
def v_R_passing (N L : Nat) (c : sh_S) (i : Nat) (x : Int32) : Int32 := (if x = 7 then (c 0 i 7) else (if x = 8 then (c 0 i 8) else (if x = 9 then (c 0 i 9) else (if x = 10 then (c 0 i 11) else (if x = 11 then (c 3 i 1) else (if x = 12 then (c 0 i 10) else (-1)))))))
set_option maxHeartbeats 4000000 in
set_option maxRecDepth 100000 in
theorem c_R_passing {B : sh_B} {Z : mx_Z} {N L : Nat} {cI cR cZ : ClassId} (hb : wB B Z N L cI cR cZ) {c r : sh_S} {i : Nat} (hi : i < N) {x : Int32} : sc B Z y_R_passing b_R_passing 2 (some (.int)) (rmm 0 0) [.ref (B.2.1 0 i), .int x] (jn c r) (qe (some (.int (v_R_passing N L c i x))) (jn c r)) := by
  refine ct_of (by decide) (Nat.le_of_ble_eq_true rfl) (cat_of rfl) ?_
  intro X ok en _
  have hB := hb.1
  refine mr_lv [(0, .ref (B.2.1 0 i)), (1, .int x)] ⟨rfl, rfl, trivial⟩ ?_
  refine mr_iload_n ok (i := 1) d_R_passing_0 rfl rfl ?_
  by_cases h1_0_7 : x = 7
  · refine mr_tableIn (off := 39) ok 40 d_R_passing_1 (by rw [h1_0_7]; decide) (by rw [h1_0_7]; decide) (by rw [h1_0_7]; decide) (by decide) ?_
    refine mr_aload_n ok (i := 0) d_R_passing_40 rfl rfl ?_
    refine cx_geti ok hB rfl fl_R_47 (tm_0 hb hi) rfl d_R_passing_41 ?_
    refine sx_iret ok en (Nat.le_refl _) (Nat.le_refl _) d_R_passing_44 ?_
    exact ⟨(by first | rfl | simp only [v_R_passing, if_pos h1_0_7]), (by first | rfl | simp only [s_R_passing, if_pos h1_0_7])⟩
  by_cases h1_0_8 : x = 8
  · refine mr_tableIn (off := 44) ok 45 d_R_passing_1 (by rw [h1_0_8]; decide) (by rw [h1_0_8]; decide) (by rw [h1_0_8]; decide) (by decide) ?_
    refine mr_aload_n ok (i := 0) d_R_passing_45 rfl rfl ?_
    refine cx_geti ok hB rfl fl_R_50 (tm_0 hb hi) rfl d_R_passing_46 ?_
    refine sx_iret ok en (Nat.le_refl _) (Nat.le_refl _) d_R_passing_49 ?_
    exact ⟨(by first | rfl | simp only [v_R_passing, if_neg h1_0_7, if_pos h1_0_8]), (by first | rfl | simp only [s_R_passing, if_neg h1_0_7, if_pos h1_0_8])⟩
  by_cases h1_0_9 : x = 9
  · refine mr_tableIn (off := 49) ok 50 d_R_passing_1 (by rw [h1_0_9]; decide) (by rw [h1_0_9]; decide) (by rw [h1_0_9]; decide) (by decide) ?_
    refine mr_aload_n ok (i := 0) d_R_passing_50 rfl rfl ?_
    refine cx_geti ok hB rfl fl_R_53 (tm_0 hb hi) rfl d_R_passing_51 ?_
    refine sx_iret ok en (Nat.le_refl _) (Nat.le_refl _) d_R_passing_54 ?_
    exact ⟨(by first | rfl | simp only [v_R_passing, if_neg h1_0_7, if_neg h1_0_8, if_pos h1_0_9]), (by first | rfl | simp only [s_R_passing, if_neg h1_0_7, if_neg h1_0_8, if_pos h1_0_9])⟩
  by_cases h1_0_10 : x = 10
  · refine mr_tableIn (off := 54) ok 55 d_R_passing_1 (by rw [h1_0_10]; decide) (by rw [h1_0_10]; decide) (by rw [h1_0_10]; decide) (by decide) ?_
    refine mr_aload_n ok (i := 0) d_R_passing_55 rfl rfl ?_
    refine cx_geti ok hB rfl fl_R_41 (tm_0 hb hi) rfl d_R_passing_56 ?_
    refine sx_iret ok en (Nat.le_refl _) (Nat.le_refl _) d_R_passing_59 ?_
    exact ⟨(by first | rfl | simp only [v_R_passing, if_neg h1_0_7, if_neg h1_0_8, if_neg h1_0_9, if_pos h1_0_10]), (by first | rfl | simp only [s_R_passing, if_neg h1_0_7, if_neg h1_0_8, if_neg h1_0_9, if_pos h1_0_10])⟩
  by_cases h1_0_11 : x = 11
  · refine mr_tableIn (off := 59) ok 60 d_R_passing_1 (by rw [h1_0_11]; decide) (by rw [h1_0_11]; decide) (by rw [h1_0_11]; decide) (by decide) ?_
    refine mr_aload_n ok (i := 0) d_R_passing_60 rfl rfl ?_
    refine sx_getr ok hB fl_R_27 (tm_0 hb hi) rfl d_R_passing_61 ?_
    refine cx_geti ok hB rfl fl_R_44 (tm_3 hb hi) rfl d_R_passing_64 ?_
    refine sx_iret ok en (Nat.le_refl _) (Nat.le_refl _) d_R_passing_67 ?_
    exact ⟨(by first | rfl | simp only [v_R_passing, if_neg h1_0_7, if_neg h1_0_8, if_neg h1_0_9, if_neg h1_0_10, if_pos h1_0_11]), (by first | rfl | simp only [s_R_passing, if_neg h1_0_7, if_neg h1_0_8, if_neg h1_0_9, if_neg h1_0_10, if_pos h1_0_11])⟩
  by_cases h1_0_12 : x = 12
  · refine mr_tableIn (off := 67) ok 68 d_R_passing_1 (by rw [h1_0_12]; decide) (by rw [h1_0_12]; decide) (by rw [h1_0_12]; decide) (by decide) ?_
    refine mr_aload_n ok (i := 0) d_R_passing_68 rfl rfl ?_
    refine cx_geti ok hB rfl fl_R_56 (tm_0 hb hi) rfl d_R_passing_69 ?_
    refine sx_iret ok en (Nat.le_refl _) (Nat.le_refl _) d_R_passing_72 ?_
    exact ⟨(by first | rfl | simp only [v_R_passing, if_neg h1_0_7, if_neg h1_0_8, if_neg h1_0_9, if_neg h1_0_10, if_neg h1_0_11, if_pos h1_0_12]), (by first | rfl | simp only [s_R_passing, if_neg h1_0_7, if_neg h1_0_8, if_neg h1_0_9, if_neg h1_0_10, if_neg h1_0_11, if_pos h1_0_12])⟩
  have th1_0_7 := lv_neT h1_0_7 (a := 7) (by decide)
  have th1_0_8 := lv_neT h1_0_8 (a := 8) (by decide)
  have th1_0_9 := lv_neT h1_0_9 (a := 9) (by decide)
  have th1_0_10 := lv_neT h1_0_10 (a := 10) (by decide)
  have th1_0_11 := lv_neT h1_0_11 (a := 11) (by decide)
  have th1_0_12 := lv_neT h1_0_12 (a := 12) (by decide)
  refine mr_tableOut ok 73 d_R_passing_1 (by omega) (by decide) ?_
  refine mr_iconst ok (-1) d_R_passing_73 (by decide) ?_
  refine sx_iret ok en (Nat.le_refl _) (Nat.le_refl _) d_R_passing_74 ?_
  exact ⟨(by first | rfl | simp only [v_R_passing, if_neg h1_0_7, if_neg h1_0_8, if_neg h1_0_9, if_neg h1_0_10, if_neg h1_0_11, if_neg h1_0_12]), (by first | rfl | simp only [s_R_passing, if_neg h1_0_7, if_neg h1_0_8, if_neg h1_0_9, if_neg h1_0_10, if_neg h1_0_11, if_neg h1_0_12])⟩
