/-! the class's own bounds: 0..200 messages, 0..8 waiting numbers a replica; kept by every method -/
def kI (N : Nat) (c : sh_S) : Prop := (∃ q : Nat, q ≤ 200 ∧ c 5 0 1 = nI q) ∧ ∀ i, i < N → ∃ q : Nat, q ≤ 8 ∧ c 3 i 1 = nI q
theorem kI_ite {N : Nat} {a b : sh_S} {p : Prop} {hp : Decidable p} (h1 : p → kI N a) (h2 : ¬ p → kI N b) : kI N (@ite _ p hp a b) := by
  by_cases h : p
  · rw [if_pos h]; exact h1 h
  · rw [if_neg h]; exact h2 h
theorem kI_set3 {N : Nat} {c : sh_S} {i : Nat} {v : Int32} (hc : kI N c) (h : ∃ q : Nat, q ≤ 8 ∧ v = nI q) : kI N (sU c 3 i 1 v) := by
  refine ⟨hc.1, fun i' hi' => ?_⟩
  show ∃ q : Nat, q ≤ 8 ∧ (bif Nat.beq i' i then v else c 3 i' 1) = nI q
  cases Nat.beq i' i with
  | true => exact h
  | false => exact hc.2 i' hi'
theorem kI_F_send {N L : Nat} {c : sh_S} {x1 x2 x3 x4 x5 x6 x7 : Int32} (hc : kI N c) : kI N (s_F_send N L c x1 x2 x3 x4 x5 x6 x7) := by
  unfold s_F_send
  dsimp only
  obtain ⟨⟨q, h1, h2⟩, h3⟩ := hc
  split
  next h =>
    refine ⟨⟨q + 1, ?_, ?_⟩, h3⟩
    · have h : c 5 0 1 < 200 := h
      rw [h2] at h
      have : q < 200 := (nI_ltI (by omega) (by decide)).mp h
      omega
    · show c 5 0 1 + 1 = nI (q + 1)
      rw [h2, nI_1]
  next h => exact ⟨⟨q, h1, h2⟩, h3⟩
theorem kI_F_remove {N L : Nat} {c : sh_S} {x : Int32} (hc : kI N c) : kI N (s_F_remove N L c x) := by
  unfold s_F_remove
  split
  · exact hc
  next h =>
    obtain ⟨q, j, h1, h2, h3, -⟩ := kf_has (N := N) (L := L) hc.1 h
    refine ⟨⟨q - 1, by omega, ?_⟩, hc.2⟩
    show c 5 0 1 - 1 = nI (q - 1)
    rw [h2, show (1 : Int32) = nI 1 from rfl, pk_sub (by omega)]
theorem kI_F_repeat {N L : Nat} {c : sh_S} {x : Int32} (hc : kI N c) : kI N (s_F_repeat N L c x) := by
  unfold s_F_repeat
  split
  · exact hc
  · split
    next h =>
      obtain ⟨⟨q, h1, h2⟩, h3⟩ := hc
      refine ⟨⟨q + 1, ?_, ?_⟩, h3⟩
      · have h : c 5 0 1 < 200 := h
        rw [h2] at h
        have : q < 200 := (nI_ltI (by omega) (by decide)).mp h
        omega
      · show c 5 0 1 + 1 = nI (q + 1)
        rw [h2, nI_1]
    · exact hc
theorem kI_F_read {N L : Nat} {c : sh_S} {x : Int32} (hc : kI N c) : kI N (s_F_read N L c x) := hc
theorem kI_L_add {N L : Nat} {c : sh_S} {i : Nat} {x : Int32} (hi : i < N) (hc : kI N c) : kI N (s_L_add N L c i x) := by
  unfold s_L_add
  split
  next h =>
    obtain ⟨q, h1, h2⟩ := hc.2 i hi
    have h : c 3 i 1 < 8 := h
    refine kI_set3 (c := sU c 4 i ((c 3 i 1).toNatClampNeg) x) hc ⟨q + 1, ?_, ?_⟩
    · rw [h2] at h
      have : q < 8 := (nI_ltI (by omega) (by decide)).mp h
      omega
    · show c 3 i 1 + 1 = nI (q + 1)
      rw [h2, nI_1]
  · exact hc
theorem kI_lsdrop {N L : Nat} {i : Nat} {x : Int32} : ∀ (n : Nat) (c : sh_S) (a b : Int32), kI N c → (∃ q k p : Nat, q ≤ 8 ∧ c 3 i 1 = nI q ∧ b = nI k ∧ a = nI p ∧ p ≤ k ∧ k ≤ q ∧ q + 1 ≤ k + n) → kI N (ls_L_drop N L n c i x a b) := by
  intro n
  induction n with
  | zero =>
    intro c a b hc _
    exact hc
  | succ n ih =>
    intro c a b hc hh
    obtain ⟨q, k, p, h1, h2, h3, h4, h5, h6, h7⟩ := hh
    unfold ls_L_drop
    split
    · exact kI_set3 hc ⟨p, by omega, h4⟩
    next h =>
      split
      · exact ih _ _ _ hc (kd_rec h1 h2 h3 h4 h5 h6 h7 h rfl (Or.inl rfl))
      · exact ih _ _ _ hc (kd_rec h1 h2 h3 h4 h5 h6 h7 h rfl (Or.inr rfl))
theorem kI_L_drop {N L : Nat} {c : sh_S} {i : Nat} {x : Int32} (hi : i < N) (hc : kI N c) : kI N (s_L_drop N L c i x) := kI_lsdrop 9 c 0 0 hc (kd_init (hc.2 i hi))
theorem kI_R_learn {N L : Nat} {c : sh_S} {i : Nat} {x : Int32} (hi : i < N) (hc : kI N c) : kI N (s_R_learn N L c i x) := by
  unfold s_R_learn
  dsimp only
  split
  · exact kI_L_drop hi hc
  · exact kI_L_drop hi hc
theorem kI_R_forget {N L : Nat} {c : sh_S} {i : Nat} (hi : i < N) (hc : kI N c) : kI N (s_R_forget N L c i) := kI_set3 (c := sU (s_R_becomeFollower N L c i) 0 i 11 ((s_R_becomeFollower N L c i) 0 i 4)) hc ⟨0, by omega, rfl⟩
theorem kI_R_keepGreatest {N L : Nat} {c : sh_S} {i : Nat} {x y : Int32} (hi : i < N) (hc : kI N c) : kI N (s_R_keepGreatest N L c i x y) := by
  unfold s_R_keepGreatest
  split
  · exact hc
  · exact hc
theorem narrow01 {v : Int32} (h : v = 0 ∨ v = 1) : narrow .boolean (.int v) = .int v := by
  rcases h with rfl | rfl <;> rfl
theorem zb_L_add (N L : Nat) (c : sh_S) (i : Nat) (x : Int32) : narrow .boolean (.int (v_L_add N L c i x)) = .int (v_L_add N L c i x) := narrow01 (by
  unfold v_L_add
  split
  · exact Or.inr rfl
  · exact Or.inl rfl)
theorem zb_F_repeat (N L : Nat) (c : sh_S) (x : Int32) : narrow .boolean (.int (v_F_repeat N L c x)) = .int (v_F_repeat N L c x) := narrow01 (by
  unfold v_F_repeat
  split
  · exact Or.inl rfl
  · split
    · exact Or.inr rfl
    · exact Or.inl rfl)
/-! find -/
abbrev kF (N : Nat) (x : Int32) : Prop := ¬ x < 0 ∧ ¬ nI N ≤ x
theorem kF_lt {N : Nat} {x : Int32} (h : kF N x) (hN : N ≤ 5) : x.toNatClampNeg < N ∧ vp_in x N := by
  obtain ⟨j, hj, e, -, e2, -⟩ := pk_mu h.1 h.2 (by omega)
  rw [e2]
  exact ⟨hj, by rw [e]; exact vp_in_nI hj (by omega)⟩
section FR
variable {X : mx_C} {Z : mx_Z} {own : String} {cc : ByteArray} {nL : Nat} {rm : Room} {n : Nat × Nat} {pc : Nat} {lv : List (Nat × Value)} {st : List Value} {B : sh_B} {N L : Nat} {cI cR cZ : ClassId} {S : sh_S}
theorem P_ald_row (ok : mx_ok X Z own cc nL rm) (hb : wB B Z N L cI cR cZ) {x : Int32} (hin : vp_in x N) (hd : decode cc pc = .ok (.aaload, 1)) (kk : sx B X n (pc + 1) lv (.ref (B.2.1 0 x.toNatClampNeg) :: st) S) : sx B X n pc lv (.int x :: .ref (B.2.1 9 0) :: st) S :=
  sx_aald ok hb.1 (tm_9 hb) (ty_1 hb) hin hd kk
end FR
set_option maxHeartbeats 4000000 in
set_option maxRecDepth 100000 in
theorem c_P_find {B : sh_B} {Z : mx_Z} {N L : Nat} {cI cR cZ : ClassId} (hb : wB B Z N L cI cR cZ) {S : sh_S} {x : Int32} : sc B Z y_P_find b_P_find 2 (some (.object "SlotPaxos$Replica")) (rmm 0 0) [.ref (B.2.1 8 0), .int x] S (qe (some (if kF N x then .ref (B.2.1 0 x.toNatClampNeg) else .null)) S) := by
  refine ct_of (by decide) (Nat.le_of_ble_eq_true rfl) (cat_of rfl) ?_
  intro X ok en _
  have hB := hb.1
  refine mr_lv [(0, .ref (B.2.1 8 0)), (1, .int x)] ⟨rfl, rfl, trivial⟩ ?_
  refine mr_iload_n ok (i := 1) d_P_find_0 rfl rfl ?_
  refine mr_if_lt ok 21 d_P_find_1 (by decide) (fun h1 => ?_) (fun h1 => ?_)
  · refine mr_null ok d_P_find_21 ?_
    refine sx_aret ok en (Nat.le_refl _) (Nat.le_refl _) (Or.inl rfl) d_P_find_22 ?_
    exact ⟨by rw [if_neg (fun z => z.1 h1)], rfl⟩
  · refine mr_iload_n ok (i := 1) d_P_find_4 rfl rfl ?_
    refine mr_aload_n ok (i := 0) d_P_find_5 rfl rfl ?_
    refine sx_getr ok hB fl_P_18 (tm_8 hb) rfl d_P_find_6 ?_
    refine mr_icmp_ge ok 21 d_P_find_9 (by decide) (fun h9 => ?_) (fun h9 => ?_)
    · refine mr_null ok d_P_find_21 ?_
      refine sx_aret ok en (Nat.le_refl _) (Nat.le_refl _) (Or.inl rfl) d_P_find_22 ?_
      exact ⟨by rw [if_neg (fun z => z.2 h9)], rfl⟩
    · refine mr_aload_n ok (i := 0) d_P_find_12 rfl rfl ?_
      refine sx_getr ok hB fl_P_27 (tm_8 hb) rfl d_P_find_13 ?_
      refine mr_iload_n ok (i := 1) d_P_find_16 rfl rfl ?_
      refine P_ald_row ok hb (kF_lt ⟨h1, h9⟩ hb.2.2.2.1.2).2 d_P_find_17 ?_
      refine mr_goto ok 22 d_P_find_18 (by decide) ?_
      refine sx_aret ok en (Nat.le_refl _) (Nat.le_refl _) (Or.inr ⟨_, rfl⟩) d_P_find_22 ?_
      exact ⟨by rw [if_pos ⟨h1, h9⟩], rfl⟩
theorem P_find_row {X : mx_C} {Z : mx_Z} {cc : ByteArray} {nL : Nat} {rm : Room} {n : Nat × Nat} {pc : Nat} {lv : List (Nat × Value)} {st : List Value} {B : sh_B} {N L : Nat} {cI cR cZ : ClassId} {S : sh_S} {x : Int32} (ok : mx_ok X Z R_P cc nL rm) (hb : wB B Z N L cI cR cZ) (hst : (st.map fun v => v.category).sum ≤ 8) (hR : 1 ≤ rm.frames ∧ 8 + (2 + 11) + 0 ≤ rm.locals) (hn : n.1 ≤ rm.cells ∧ n.2 ≤ rm.slots) {idx : Nat} (hd : decode cc pc = .ok (.invokevirtual idx, 3)) (cb : mx_cB R_P idx y_P_find b_P_find 2 (some (.object "SlotPaxos$Replica")) 1)
    (k1 : kF N x → x.toNatClampNeg < N → sx B X n (pc + 3) lv (.ref (B.2.1 0 x.toNatClampNeg) :: st) S) (k2 : ¬ kF N x → sx B X n (pc + 3) lv (.null :: st) S) : sx B X n pc lv (.int x :: .ref (B.2.1 8 0) :: st) S := by
  refine sx_cVi ok hb.1 [.int x] rfl cb cv_P_find (tm_8 hb) rfl rfl (c_P_find hb) rfl hst hR hn hd ?_
  by_cases h : kF N x
  · rw [if_pos h]
    exact k1 h (kF_lt h hb.2.2.2.1.2).1
  · rw [if_neg h]
    exact k2 h
theorem ks_rec {N k n : Nat} {a : Int32} (h1 : a = nI k) (h2 : k ≤ N) (h3 : N + 1 ≤ k + (n + 1)) (h : ¬ nI N ≤ a) (hN : N < 100) : ∃ k : Nat, a + 1 = nI k ∧ k ≤ N ∧ N + 1 ≤ k + n := by
  rw [h1] at h
  have : k < N := Nat.lt_of_not_le fun z => h (nI_le z (by omega))
  exact ⟨k + 1, by rw [h1, nI_1], by omega, by omega⟩

def v_J_bitCount (N L : Nat) (c : sh_S) (x : Int32) : Int32 := ((((((((x - ((((x : Int32).toUInt32 >>> ((1 : Int32).toUInt32 &&& Int32.toUInt32 31)).toInt32) &&& 1431655765)) &&& 858993459) + (((((x - ((((x : Int32).toUInt32 >>> ((1 : Int32).toUInt32 &&& Int32.toUInt32 31)).toInt32) &&& 1431655765)) : Int32).toUInt32 >>> ((2 : Int32).toUInt32 &&& Int32.toUInt32 31)).toInt32) &&& 858993459)) + ((((((x - ((((x : Int32).toUInt32 >>> ((1 : Int32).toUInt32 &&& Int32.toUInt32 31)).toInt32) &&& 1431655765)) &&& 858993459) + (((((x - ((((x : Int32).toUInt32 >>> ((1 : Int32).toUInt32 &&& Int32.toUInt32 31)).toInt32) &&& 1431655765)) : Int32).toUInt32 >>> ((2 : Int32).toUInt32 &&& Int32.toUInt32 31)).toInt32) &&& 858993459)) : Int32).toUInt32 >>> ((4 : Int32).toUInt32 &&& Int32.toUInt32 31)).toInt32)) &&& 252645135) + ((((((((x - ((((x : Int32).toUInt32 >>> ((1 : Int32).toUInt32 &&& Int32.toUInt32 31)).toInt32) &&& 1431655765)) &&& 858993459) + (((((x - ((((x : Int32).toUInt32 >>> ((1 : Int32).toUInt32 &&& Int32.toUInt32 31)).toInt32) &&& 1431655765)) : Int32).toUInt32 >>> ((2 : Int32).toUInt32 &&& Int32.toUInt32 31)).toInt32) &&& 858993459)) + ((((((x - ((((x : Int32).toUInt32 >>> ((1 : Int32).toUInt32 &&& Int32.toUInt32 31)).toInt32) &&& 1431655765)) &&& 858993459) + (((((x - ((((x : Int32).toUInt32 >>> ((1 : Int32).toUInt32 &&& Int32.toUInt32 31)).toInt32) &&& 1431655765)) : Int32).toUInt32 >>> ((2 : Int32).toUInt32 &&& Int32.toUInt32 31)).toInt32) &&& 858993459)) : Int32).toUInt32 >>> ((4 : Int32).toUInt32 &&& Int32.toUInt32 31)).toInt32)) &&& 252645135) : Int32).toUInt32 >>> ((8 : Int32).toUInt32 &&& Int32.toUInt32 31)).toInt32)) + (((((((((x - ((((x : Int32).toUInt32 >>> ((1 : Int32).toUInt32 &&& Int32.toUInt32 31)).toInt32) &&& 1431655765)) &&& 858993459) + (((((x - ((((x : Int32).toUInt32 >>> ((1 : Int32).toUInt32 &&& Int32.toUInt32 31)).toInt32) &&& 1431655765)) : Int32).toUInt32 >>> ((2 : Int32).toUInt32 &&& Int32.toUInt32 31)).toInt32) &&& 858993459)) + ((((((x - ((((x : Int32).toUInt32 >>> ((1 : Int32).toUInt32 &&& Int32.toUInt32 31)).toInt32) &&& 1431655765)) &&& 858993459) + (((((x - ((((x : Int32).toUInt32 >>> ((1 : Int32).toUInt32 &&& Int32.toUInt32 31)).toInt32) &&& 1431655765)) : Int32).toUInt32 >>> ((2 : Int32).toUInt32 &&& Int32.toUInt32 31)).toInt32) &&& 858993459)) : Int32).toUInt32 >>> ((4 : Int32).toUInt32 &&& Int32.toUInt32 31)).toInt32)) &&& 252645135) + ((((((((x - ((((x : Int32).toUInt32 >>> ((1 : Int32).toUInt32 &&& Int32.toUInt32 31)).toInt32) &&& 1431655765)) &&& 858993459) + (((((x - ((((x : Int32).toUInt32 >>> ((1 : Int32).toUInt32 &&& Int32.toUInt32 31)).toInt32) &&& 1431655765)) : Int32).toUInt32 >>> ((2 : Int32).toUInt32 &&& Int32.toUInt32 31)).toInt32) &&& 858993459)) + ((((((x - ((((x : Int32).toUInt32 >>> ((1 : Int32).toUInt32 &&& Int32.toUInt32 31)).toInt32) &&& 1431655765)) &&& 858993459) + (((((x - ((((x : Int32).toUInt32 >>> ((1 : Int32).toUInt32 &&& Int32.toUInt32 31)).toInt32) &&& 1431655765)) : Int32).toUInt32 >>> ((2 : Int32).toUInt32 &&& Int32.toUInt32 31)).toInt32) &&& 858993459)) : Int32).toUInt32 >>> ((4 : Int32).toUInt32 &&& Int32.toUInt32 31)).toInt32)) &&& 252645135) : Int32).toUInt32 >>> ((8 : Int32).toUInt32 &&& Int32.toUInt32 31)).toInt32)) : Int32).toUInt32 >>> ((16 : Int32).toUInt32 &&& Int32.toUInt32 31)).toInt32)) &&& 63)
set_option maxHeartbeats 4000000 in
set_option maxRecDepth 100000 in
theorem c_J_bitCount {B : sh_B} {Z : mx_Z} {N L : Nat} {cI cR cZ : ClassId} (hb : wB B Z N L cI cR cZ) {c r : sh_S} {x : Int32} : sc B Z y_J_bitCount b_J_bitCount 1 (some (.int)) (rmm 0 0) [.int x] (jn c r) (qe (some (.int (v_J_bitCount N L c x))) (jn c r)) := by
  refine ct_of (by decide) (Nat.le_of_ble_eq_true rfl) (cat_of rfl) ?_
  intro X ok en _
  have hB := hb.1
  refine mr_lv [(0, .int x)] ⟨rfl, trivial⟩ ?_
  refine mr_iload_n ok (i := 0) d_J_bitCount_0 rfl rfl ?_
  refine mr_iload_n ok (i := 0) d_J_bitCount_1 rfl rfl ?_
  refine mr_iconst ok 1 d_J_bitCount_2 (by decide) ?_
  refine mr_iushr ok d_J_bitCount_3 ?_
  refine mr_ldcw ok 1431655765 (mw 410 rfl rfl) d_J_bitCount_4 ?_
  refine mr_iand ok d_J_bitCount_7 ?_
  refine mr_isub ok d_J_bitCount_8 ?_
  refine mr_istore_n ok (i := 0) d_J_bitCount_9 rfl (by decide) ?_
  refine mr_iload_n ok (i := 0) d_J_bitCount_10 rfl rfl ?_
  refine mr_ldcw ok 858993459 (mw 411 rfl rfl) d_J_bitCount_11 ?_
  refine mr_iand ok d_J_bitCount_14 ?_
  refine mr_iload_n ok (i := 0) d_J_bitCount_15 rfl rfl ?_
  refine mr_iconst ok 2 d_J_bitCount_16 (by decide) ?_
  refine mr_iushr ok d_J_bitCount_17 ?_
  refine mr_ldcw ok 858993459 (mw 411 rfl rfl) d_J_bitCount_18 ?_
  refine mr_iand ok d_J_bitCount_21 ?_
  refine mr_iadd ok d_J_bitCount_22 ?_
  refine mr_istore_n ok (i := 0) d_J_bitCount_23 rfl (by decide) ?_
  refine mr_iload_n ok (i := 0) d_J_bitCount_24 rfl rfl ?_
  refine mr_iload_n ok (i := 0) d_J_bitCount_25 rfl rfl ?_
  refine mr_iconst ok 4 d_J_bitCount_26 (by decide) ?_
  refine mr_iushr ok d_J_bitCount_27 ?_
  refine mr_iadd ok d_J_bitCount_28 ?_
  refine mr_ldcw ok 252645135 (mw 412 rfl rfl) d_J_bitCount_29 ?_
  refine mr_iand ok d_J_bitCount_32 ?_
  refine mr_istore_n ok (i := 0) d_J_bitCount_33 rfl (by decide) ?_
  refine mr_iload_n ok (i := 0) d_J_bitCount_34 rfl rfl ?_
  refine mr_iload_n ok (i := 0) d_J_bitCount_35 rfl rfl ?_
  refine mr_bipush ok 8 d_J_bitCount_36 (by decide) ?_
  refine mr_iushr ok d_J_bitCount_38 ?_
  refine mr_iadd ok d_J_bitCount_39 ?_
  refine mr_istore_n ok (i := 0) d_J_bitCount_40 rfl (by decide) ?_
  refine mr_iload_n ok (i := 0) d_J_bitCount_41 rfl rfl ?_
  refine mr_iload_n ok (i := 0) d_J_bitCount_42 rfl rfl ?_
  refine mr_bipush ok 16 d_J_bitCount_43 (by decide) ?_
  refine mr_iushr ok d_J_bitCount_45 ?_
  refine mr_iadd ok d_J_bitCount_46 ?_
  refine mr_istore_n ok (i := 0) d_J_bitCount_47 rfl (by decide) ?_
  refine mr_iload_n ok (i := 0) d_J_bitCount_48 rfl rfl ?_
  refine mr_bipush ok 63 d_J_bitCount_49 (by decide) ?_
  refine mr_iand ok d_J_bitCount_51 ?_
  refine sx_iret ok en (Nat.le_refl _) (Nat.le_refl _) d_J_bitCount_52 ?_
  exact ⟨(by first | rfl | simp only [v_J_bitCount]), (by first | rfl | simp only [s_J_bitCount])⟩
def ls_P_sendToAll (N L : Nat) : Nat → sh_S → Int32 → Int32 → Int32 → Int32 → Int32 → Int32 → sh_S
  | 0, c, _, _, _, _, _, _ => c
  | n + 1, c, x1, x2, x3, x4, x5, a => (if (nI N) ≤ a then c else (if a = x2 then (ls_P_sendToAll N L n c x1 x2 x3 x4 x5 (a + 1)) else (let c1 := s_F_send N L c x1 x2 a x3 x4 x5 0; (ls_P_sendToAll N L n c1 x1 x2 x3 x4 x5 (a + 1)))))
set_option maxHeartbeats 4000000 in
set_option maxRecDepth 100000 in
theorem l_P_sendToAll {B : sh_B} {Z : mx_Z} {N L : Nat} {cI cR cZ : ClassId} (hb : wB B Z N L cI cR cZ) {r : sh_S} {x1 : Int32} {x2 : Int32} {x3 : Int32} {x4 : Int32} {x5 : Int32} {X : mx_C} {V0 : Option Value} {S0 : sh_S} (ok : mx_ok X Z R_P b_P_sendToAll 7 (rmm 1 28)) (en : sx_end B X none (rmm 1 28) (qe V0 S0)) (hV : V0 = none) : ∀ (n : Nat) (c : sh_S) (a : Int32), (kI N c ∧ ∃ k : Nat, a = nI k ∧ k ≤ N ∧ N + 1 ≤ k + n) → S0 = (jn (ls_P_sendToAll N L n c x1 x2 x3 x4 x5 a) r) → sx B X (0, 0) 3 [(0, .ref (B.2.1 8 0)), (1, .int x1), (2, .int x2), (3, .int x3), (4, .int x4), (5, .int x5), (6, .int a)] [] (jn c r) := by
  have hB := hb.1
  intro n
  induction n with
  | zero =>
    intro c a hh _
    obtain ⟨-, k, h1, h2, h3⟩ := hh
    omega
  | succ n ih =>
    intro c a hh hS
    obtain ⟨hc, k, h1, h2, h3⟩ := hh
    refine mr_iload ok d_P_sendToAll_3 rfl ?_
    refine mr_aload_n ok (i := 0) d_P_sendToAll_5 rfl rfl ?_
    refine sx_getr ok hB fl_P_18 (tm_8 hb) rfl d_P_sendToAll_6 ?_
    refine mr_icmp_ge ok 41 d_P_sendToAll_9 (by decide) (fun h9_0 => ?_) (fun h9_0 => ?_)
    · refine sx_vret ok en (Nat.le_refl _) (Nat.le_refl _) d_P_sendToAll_41 ?_
      exact ⟨(by rw [hV]), (by rw [hS]; simp only [ls_P_sendToAll, if_pos h9_0])⟩
    · refine mr_iload ok d_P_sendToAll_12 rfl ?_
      refine mr_iload_n ok (i := 2) d_P_sendToAll_14 rfl rfl ?_
      refine mr_icmp_eq ok 35 d_P_sendToAll_15 (by decide) (fun h15_1 => ?_) (fun h15_1 => ?_)
      · refine mr_iinc ok _ d_P_sendToAll_35 rfl rfl (by decide) ?_
        refine mr_goto ok 3 d_P_sendToAll_38 (by decide) ?_
        refine mr_lv [(0, .ref (B.2.1 8 0)), (1, .int x1), (2, .int x2), (3, .int x3), (4, .int x4), (5, .int x5), (6, .int (a + 1))] ⟨rfl, rfl, rfl, rfl, rfl, rfl, rfl, trivial⟩ ?_
        exact ih _ _ ⟨hc, ks_rec h1 h2 h3 ‹_› (by have := hb.2.2.2.1.2; omega)⟩ (hS.trans (by simp only [ls_P_sendToAll, if_neg h9_0, if_pos h15_1]))
      · refine mr_aload_n ok (i := 0) d_P_sendToAll_18 rfl rfl ?_
        refine sx_getr ok hB fl_P_37 (tm_8 hb) rfl d_P_sendToAll_19 ?_
        refine mr_iload_n ok (i := 1) d_P_sendToAll_22 rfl rfl ?_
        refine mr_iload_n ok (i := 2) d_P_sendToAll_23 rfl rfl ?_
        refine mr_iload ok d_P_sendToAll_24 rfl ?_
        refine mr_iload_n ok (i := 3) d_P_sendToAll_26 rfl rfl ?_
        refine mr_iload ok d_P_sendToAll_27 rfl ?_
        refine mr_iload ok d_P_sendToAll_29 rfl ?_
        refine mr_iconst ok 0 d_P_sendToAll_31 (by decide) ?_
        refine sx_cVv ok hB [_, _, _, _, _, _, _] rfl cb_P_281 cv_F_send (tm_5 hb) rfl rfl (c_F_send hb (by exact hc.1)) rfl (Nat.le_of_ble_eq_true rfl) (by decide) ⟨Nat.le_refl _, Nat.le_refl _⟩ d_P_sendToAll_32 ?_
        have hc : kI N (s_F_send N L c x1 x2 a x3 x4 x5 0) := kI_F_send (L := L) hc
        refine mr_iinc ok _ d_P_sendToAll_35 rfl rfl (by decide) ?_
        refine mr_goto ok 3 d_P_sendToAll_38 (by decide) ?_
        refine mr_lv [(0, .ref (B.2.1 8 0)), (1, .int x1), (2, .int x2), (3, .int x3), (4, .int x4), (5, .int x5), (6, .int (a + 1))] ⟨rfl, rfl, rfl, rfl, rfl, rfl, rfl, trivial⟩ ?_
        exact ih _ _ ⟨hc, ks_rec h1 h2 h3 ‹_› (by have := hb.2.2.2.1.2; omega)⟩ (hS.trans (by simp only [ls_P_sendToAll, if_neg h9_0, if_neg h15_1]))
def s_P_sendToAll (N L : Nat) (c : sh_S) (x1 : Int32) (x2 : Int32) (x3 : Int32) (x4 : Int32) (x5 : Int32) : sh_S := (ls_P_sendToAll N L 6 c x1 x2 x3 x4 x5 0)
set_option maxHeartbeats 4000000 in
set_option maxRecDepth 100000 in
theorem c_P_sendToAll {B : sh_B} {Z : mx_Z} {N L : Nat} {cI cR cZ : ClassId} (hb : wB B Z N L cI cR cZ) {c r : sh_S} {x1 : Int32} {x2 : Int32} {x3 : Int32} {x4 : Int32} {x5 : Int32} (hc : kI N c) : sc B Z y_P_sendToAll b_P_sendToAll 7 none (rmm 1 28) [.ref (B.2.1 8 0), .int x1, .int x2, .int x3, .int x4, .int x5] (jn c r) (qe none (jn (s_P_sendToAll N L c x1 x2 x3 x4 x5) r)) := by
  refine ct_of (by decide) (Nat.le_of_ble_eq_true rfl) (cat_of rfl) ?_
  intro X ok en _
  have hB := hb.1
  refine mr_lv [(0, .ref (B.2.1 8 0)), (1, .int x1), (2, .int x2), (3, .int x3), (4, .int x4), (5, .int x5)] ⟨rfl, rfl, rfl, rfl, rfl, rfl, trivial⟩ ?_
  refine mr_iconst ok 0 d_P_sendToAll_0 (by decide) ?_
  refine mr_istore ok d_P_sendToAll_1 (by decide) ?_
  refine mr_lv [(0, .ref (B.2.1 8 0)), (1, .int x1), (2, .int x2), (3, .int x3), (4, .int x4), (5, .int x5), (6, .int 0)] ⟨rfl, rfl, rfl, rfl, rfl, rfl, rfl, trivial⟩ ?_
  exact l_P_sendToAll hb ok en rfl 6 _ _ ⟨hc, 0, rfl, Nat.zero_le _, by have := hb.2.2.2.1.2; omega⟩ rfl
theorem kI_lsendToAll {N L : Nat} {x1 x2 x3 x4 x5 : Int32} : ∀ (n : Nat) (c : sh_S) (a : Int32), kI N c → kI N (ls_P_sendToAll N L n c x1 x2 x3 x4 x5 a) := by
  intro n
  induction n with
  | zero =>
    intro c a hc
    exact hc
  | succ n ih =>
    intro c a hc
    unfold ls_P_sendToAll
    split
    · exact hc
    · split
      · exact ih _ _ hc
      · exact ih _ _ (kI_F_send hc)
theorem kI_P_sendToAll {N L : Nat} {c : sh_S} {x1 x2 x3 x4 x5 : Int32} (hc : kI N c) : kI N (s_P_sendToAll N L c x1 x2 x3 x4 x5) := kI_lsendToAll 6 c 0 hc
theorem kn_ne {B : sh_B} {Z : mx_Z} {N L : Nat} {cI cR cZ : ClassId} (hb : wB B Z N L cI cR cZ) : ¬ nI N = 0 := nI_ne0 (by have := hb.2.2.2.1; omega) (by have := hb.2.2.2.1; omega)

def v_P_isMajority (N L : Nat) (c : sh_S) (x : Int32) : Int32 := (if (2 * (v_J_bitCount N L c x)) ≤ (nI N) then 0 else 1)
set_option maxHeartbeats 4000000 in
set_option maxRecDepth 100000 in
theorem c_P_isMajority {B : sh_B} {Z : mx_Z} {N L : Nat} {cI cR cZ : ClassId} (hb : wB B Z N L cI cR cZ) {c r : sh_S} {x : Int32} : sc B Z y_P_isMajority b_P_isMajority 2 (some (.boolean)) (rmm 1 20) [.ref (B.2.1 8 0), .int x] (jn c r) (qe (some (.int (v_P_isMajority N L c x))) (jn c r)) := by
  refine ct_of (by decide) (Nat.le_of_ble_eq_true rfl) (cat_of rfl) ?_
  intro X ok en _
  have hB := hb.1
  refine mr_lv [(0, .ref (B.2.1 8 0)), (1, .int x)] ⟨rfl, rfl, trivial⟩ ?_
  refine mr_iconst ok 2 d_P_isMajority_0 (by decide) ?_
  refine mr_iload_n ok (i := 1) d_P_isMajority_1 rfl rfl ?_
  refine sx_cSi ok [_] rfl cb_P_168 cs_J_bitCount (c_J_bitCount hb) rfl (Nat.le_of_ble_eq_true rfl) (by decide) ⟨Nat.le_refl _, Nat.le_refl _⟩ d_P_isMajority_2 ?_
  refine mr_imul ok d_P_isMajority_5 ?_
  refine mr_aload_n ok (i := 0) d_P_isMajority_6 rfl rfl ?_
  refine sx_getr ok hB fl_P_18 (tm_8 hb) rfl d_P_isMajority_7 ?_
  refine mr_icmp_le ok 17 d_P_isMajority_10 (by decide) (fun h10_0 => ?_) (fun h10_0 => ?_)
  · refine mr_iconst ok 0 d_P_isMajority_17 (by decide) ?_
    refine sx_zret rfl ok en (Nat.le_refl _) (Nat.le_refl _) d_P_isMajority_18 ?_
    exact ⟨(by first | rfl | simp only [v_P_isMajority, if_pos h10_0]), (by first | rfl | simp only [s_P_isMajority, if_pos h10_0])⟩
  · refine mr_iconst ok 1 d_P_isMajority_13 (by decide) ?_
    refine mr_goto ok 18 d_P_isMajority_14 (by decide) ?_
    refine sx_zret rfl ok en (Nat.le_refl _) (Nat.le_refl _) d_P_isMajority_18 ?_
    exact ⟨(by first | rfl | simp only [v_P_isMajority, if_neg h10_0]), (by first | rfl | simp only [s_P_isMajority, if_neg h10_0])⟩
def s_P_sendPrepare (N L : Nat) (c : sh_S) (i : Nat) : sh_S := (let c1 := s_P_sendToAll N L c 1 (nI i) (c 0 i 8) ((c 1 i 2) + 1) 0; c1)
theorem kI_P_sendPrepare {N L : Nat} {c : sh_S} {i : Nat} (hi : i < N) (hc : kI N c) : kI N (s_P_sendPrepare N L c i) := by
  unfold s_P_sendPrepare
  try dsimp only
  exact (kI_P_sendToAll (L := L) hc)
set_option maxHeartbeats 4000000 in
set_option maxRecDepth 100000 in
theorem c_P_sendPrepare {B : sh_B} {Z : mx_Z} {N L : Nat} {cI cR cZ : ClassId} (hb : wB B Z N L cI cR cZ) {c r : sh_S} {i : Nat} (hi : i < N) (hc : kI N c) : sc B Z y_P_sendPrepare b_P_sendPrepare 2 none (rmm 2 54) [.ref (B.2.1 8 0), .ref (B.2.1 0 i)] (jn c r) (qe none (jn (s_P_sendPrepare N L c i) r)) := by
  refine ct_of (by decide) (Nat.le_of_ble_eq_true rfl) (cat_of rfl) ?_
  intro X ok en _
  have hB := hb.1
  refine mr_lv [(0, .ref (B.2.1 8 0)), (1, .ref (B.2.1 0 i))] ⟨rfl, rfl, trivial⟩ ?_
  refine mr_aload_n ok (i := 0) d_P_sendPrepare_0 rfl rfl ?_
  refine mr_iconst ok 1 d_P_sendPrepare_1 (by decide) ?_
  refine mr_aload_n ok (i := 1) d_P_sendPrepare_2 rfl rfl ?_
  refine sx_getr ok hB fl_P_82 (tm_0 hb hi) rfl d_P_sendPrepare_3 ?_
  refine mr_aload_n ok (i := 1) d_P_sendPrepare_6 rfl rfl ?_
  refine cx_geti ok hB rfl fl_P_244 (tm_0 hb hi) rfl d_P_sendPrepare_7 ?_
  refine mr_aload_n ok (i := 1) d_P_sendPrepare_10 rfl rfl ?_
  refine sx_getr ok hB fl_P_117 (tm_0 hb hi) rfl d_P_sendPrepare_11 ?_
  refine cx_geti ok hB rfl fl_P_121 (tm_1 hb hi) rfl d_P_sendPrepare_14 ?_
  refine mr_iconst ok 1 d_P_sendPrepare_17 (by decide) ?_
  refine mr_iadd ok d_P_sendPrepare_18 ?_
  refine mr_iconst ok 0 d_P_sendPrepare_19 (by decide) ?_
  refine sx_cVv ok hB [_, _, _, _, _] rfl cb_P_285 cv_P_sendToAll (tm_8 hb) rfl rfl (c_P_sendToAll hb (by exact hc)) rfl (Nat.le_of_ble_eq_true rfl) (by decide) ⟨Nat.le_refl _, Nat.le_refl _⟩ d_P_sendPrepare_20 ?_
  have hc : kI N (s_P_sendToAll N L c 1 (nI i) (c 0 i 8) ((c 1 i 2) + 1) 0) := kI_P_sendToAll (L := L) hc
  refine sx_vret ok en (Nat.le_refl _) (Nat.le_refl _) d_P_sendPrepare_23 ?_
  exact ⟨rfl, (by first | rfl | simp only [s_P_sendPrepare])⟩
def s_P_sendAccept (N L : Nat) (c : sh_S) (i : Nat) : sh_S := (let c1 := s_P_sendToAll N L c 3 (nI i) (c 0 i 8) ((c 1 i 2) + 1) (c 0 i 10); c1)
theorem kI_P_sendAccept {N L : Nat} {c : sh_S} {i : Nat} (hi : i < N) (hc : kI N c) : kI N (s_P_sendAccept N L c i) := by
  unfold s_P_sendAccept
  try dsimp only
  exact (kI_P_sendToAll (L := L) hc)
set_option maxHeartbeats 4000000 in
set_option maxRecDepth 100000 in
theorem c_P_sendAccept {B : sh_B} {Z : mx_Z} {N L : Nat} {cI cR cZ : ClassId} (hb : wB B Z N L cI cR cZ) {c r : sh_S} {i : Nat} (hi : i < N) (hc : kI N c) : sc B Z y_P_sendAccept b_P_sendAccept 2 none (rmm 2 54) [.ref (B.2.1 8 0), .ref (B.2.1 0 i)] (jn c r) (qe none (jn (s_P_sendAccept N L c i) r)) := by
  refine ct_of (by decide) (Nat.le_of_ble_eq_true rfl) (cat_of rfl) ?_
  intro X ok en _
  have hB := hb.1
  refine mr_lv [(0, .ref (B.2.1 8 0)), (1, .ref (B.2.1 0 i))] ⟨rfl, rfl, trivial⟩ ?_
  refine mr_aload_n ok (i := 0) d_P_sendAccept_0 rfl rfl ?_
  refine mr_iconst ok 3 d_P_sendAccept_1 (by decide) ?_
  refine mr_aload_n ok (i := 1) d_P_sendAccept_2 rfl rfl ?_
  refine sx_getr ok hB fl_P_82 (tm_0 hb hi) rfl d_P_sendAccept_3 ?_
  refine mr_aload_n ok (i := 1) d_P_sendAccept_6 rfl rfl ?_
  refine cx_geti ok hB rfl fl_P_244 (tm_0 hb hi) rfl d_P_sendAccept_7 ?_
  refine mr_aload_n ok (i := 1) d_P_sendAccept_10 rfl rfl ?_
  refine sx_getr ok hB fl_P_117 (tm_0 hb hi) rfl d_P_sendAccept_11 ?_
  refine cx_geti ok hB rfl fl_P_121 (tm_1 hb hi) rfl d_P_sendAccept_14 ?_
  refine mr_iconst ok 1 d_P_sendAccept_17 (by decide) ?_
  refine mr_iadd ok d_P_sendAccept_18 ?_
  refine mr_aload_n ok (i := 1) d_P_sendAccept_19 rfl rfl ?_
  refine cx_geti ok hB rfl fl_P_173 (tm_0 hb hi) rfl d_P_sendAccept_20 ?_
  refine sx_cVv ok hB [_, _, _, _, _] rfl cb_P_285 cv_P_sendToAll (tm_8 hb) rfl rfl (c_P_sendToAll hb (by exact hc)) rfl (Nat.le_of_ble_eq_true rfl) (by decide) ⟨Nat.le_refl _, Nat.le_refl _⟩ d_P_sendAccept_23 ?_
  have hc : kI N (s_P_sendToAll N L c 3 (nI i) (c 0 i 8) ((c 1 i 2) + 1) (c 0 i 10)) := kI_P_sendToAll (L := L) hc
  refine sx_vret ok en (Nat.le_refl _) (Nat.le_refl _) d_P_sendAccept_26 ?_
  exact ⟨rfl, (by first | rfl | simp only [s_P_sendAccept])⟩
def s_P_ask (N L : Nat) (c : sh_S) (i : Nat) (x : Int32) : sh_S := (let c1 := s_F_send N L c 6 (nI i) x 0 ((c 1 i 2) + 1) 0 0; c1)
theorem kI_P_ask {N L : Nat} {c : sh_S} {i : Nat} {x : Int32} (hi : i < N) (hc : kI N c) : kI N (s_P_ask N L c i x) := by
  unfold s_P_ask
  try dsimp only
  exact (kI_F_send (L := L) hc)
set_option maxHeartbeats 4000000 in
set_option maxRecDepth 100000 in
theorem c_P_ask {B : sh_B} {Z : mx_Z} {N L : Nat} {cI cR cZ : ClassId} (hb : wB B Z N L cI cR cZ) {c r : sh_S} {i : Nat} (hi : i < N) {x : Int32} (hc : kI N c) : sc B Z y_P_ask b_P_ask 3 none (rmm 1 28) [.ref (B.2.1 8 0), .ref (B.2.1 0 i), .int x] (jn c r) (qe none (jn (s_P_ask N L c i x) r)) := by
  refine ct_of (by decide) (Nat.le_of_ble_eq_true rfl) (cat_of rfl) ?_
  intro X ok en _
  have hB := hb.1
  refine mr_lv [(0, .ref (B.2.1 8 0)), (1, .ref (B.2.1 0 i)), (2, .int x)] ⟨rfl, rfl, rfl, trivial⟩ ?_
  refine mr_aload_n ok (i := 0) d_P_ask_0 rfl rfl ?_
  refine sx_getr ok hB fl_P_37 (tm_8 hb) rfl d_P_ask_1 ?_
  refine mr_bipush ok 6 d_P_ask_4 (by decide) ?_
  refine mr_aload_n ok (i := 1) d_P_ask_6 rfl rfl ?_
  refine sx_getr ok hB fl_P_82 (tm_0 hb hi) rfl d_P_ask_7 ?_
  refine mr_iload_n ok (i := 2) d_P_ask_10 rfl rfl ?_
  refine mr_iconst ok 0 d_P_ask_11 (by decide) ?_
  refine mr_aload_n ok (i := 1) d_P_ask_12 rfl rfl ?_
  refine sx_getr ok hB fl_P_117 (tm_0 hb hi) rfl d_P_ask_13 ?_
  refine cx_geti ok hB rfl fl_P_121 (tm_1 hb hi) rfl d_P_ask_16 ?_
  refine mr_iconst ok 1 d_P_ask_19 (by decide) ?_
  refine mr_iadd ok d_P_ask_20 ?_
  refine mr_iconst ok 0 d_P_ask_21 (by decide) ?_
  refine mr_iconst ok 0 d_P_ask_22 (by decide) ?_
  refine sx_cVv ok hB [_, _, _, _, _, _, _] rfl cb_P_281 cv_F_send (tm_5 hb) rfl rfl (c_F_send hb (by exact hc.1)) rfl (Nat.le_of_ble_eq_true rfl) (by decide) ⟨Nat.le_refl _, Nat.le_refl _⟩ d_P_ask_23 ?_
  have hc : kI N (s_F_send N L c 6 (nI i) x 0 ((c 1 i 2) + 1) 0 0) := kI_F_send (L := L) hc
  refine sx_vret ok en (Nat.le_refl _) (Nat.le_refl _) d_P_ask_26 ?_
  exact ⟨rfl, (by first | rfl | simp only [s_P_ask])⟩
def s_P_deny (N L : Nat) (c : sh_S) (i : Nat) (x : Int32) : sh_S := (let c1 := s_F_send N L c 7 (nI i) x (c 0 i 4) 0 0 0; c1)
theorem kI_P_deny {N L : Nat} {c : sh_S} {i : Nat} {x : Int32} (hi : i < N) (hc : kI N c) : kI N (s_P_deny N L c i x) := by
  unfold s_P_deny
  try dsimp only
  exact (kI_F_send (L := L) hc)
set_option maxHeartbeats 4000000 in
set_option maxRecDepth 100000 in
theorem c_P_deny {B : sh_B} {Z : mx_Z} {N L : Nat} {cI cR cZ : ClassId} (hb : wB B Z N L cI cR cZ) {c r : sh_S} {i : Nat} (hi : i < N) {x : Int32} (hc : kI N c) : sc B Z y_P_deny b_P_deny 3 none (rmm 1 28) [.ref (B.2.1 8 0), .ref (B.2.1 0 i), .int x] (jn c r) (qe none (jn (s_P_deny N L c i x) r)) := by
  refine ct_of (by decide) (Nat.le_of_ble_eq_true rfl) (cat_of rfl) ?_
  intro X ok en _
  have hB := hb.1
  refine mr_lv [(0, .ref (B.2.1 8 0)), (1, .ref (B.2.1 0 i)), (2, .int x)] ⟨rfl, rfl, rfl, trivial⟩ ?_
  refine mr_aload_n ok (i := 0) d_P_deny_0 rfl rfl ?_
  refine sx_getr ok hB fl_P_37 (tm_8 hb) rfl d_P_deny_1 ?_
  refine mr_bipush ok 7 d_P_deny_4 (by decide) ?_
  refine mr_aload_n ok (i := 1) d_P_deny_6 rfl rfl ?_
  refine sx_getr ok hB fl_P_82 (tm_0 hb hi) rfl d_P_deny_7 ?_
  refine mr_iload_n ok (i := 2) d_P_deny_10 rfl rfl ?_
  refine mr_aload_n ok (i := 1) d_P_deny_11 rfl rfl ?_
  refine cx_geti ok hB rfl fl_P_133 (tm_0 hb hi) rfl d_P_deny_12 ?_
  refine mr_iconst ok 0 d_P_deny_15 (by decide) ?_
  refine mr_iconst ok 0 d_P_deny_16 (by decide) ?_
  refine mr_iconst ok 0 d_P_deny_17 (by decide) ?_
  refine sx_cVv ok hB [_, _, _, _, _, _, _] rfl cb_P_281 cv_F_send (tm_5 hb) rfl rfl (c_F_send hb (by exact hc.1)) rfl (Nat.le_of_ble_eq_true rfl) (by decide) ⟨Nat.le_refl _, Nat.le_refl _⟩ d_P_deny_18 ?_
  have hc : kI N (s_F_send N L c 7 (nI i) x (c 0 i 4) 0 0 0) := kI_F_send (L := L) hc
  refine sx_vret ok en (Nat.le_refl _) (Nat.le_refl _) d_P_deny_21 ?_
  exact ⟨rfl, (by first | rfl | simp only [s_P_deny])⟩
def s_P_help (N L : Nat) (c : sh_S) (i : Nat) (x : Int32) (y : Int32) : sh_S := (if (v_G_keeps N L c i y) = 0 then (let c1 := s_F_send N L c 8 (nI i) x 0 (c 1 i 2) (c 1 i 3) 0; c1) else (let c2 := s_F_send N L c 5 (nI i) x 0 y (v_G_numberOf N L c i y) 0; c2))
theorem kI_P_help {N L : Nat} {c : sh_S} {i : Nat} {x : Int32} {y : Int32} (hi : i < N) (hc : kI N c) : kI N (s_P_help N L c i x y) := by
  unfold s_P_help
  try dsimp only
  refine kI_ite (fun _ => ?_) (fun _ => ?_)
  · exact (kI_F_send (L := L) hc)
  · exact (kI_F_send (L := L) hc)
set_option maxHeartbeats 4000000 in
set_option maxRecDepth 100000 in
theorem c_P_help {B : sh_B} {Z : mx_Z} {N L : Nat} {cI cR cZ : ClassId} (hb : wB B Z N L cI cR cZ) {c r : sh_S} {i : Nat} (hi : i < N) {x : Int32} {y : Int32} (hc : kI N c) : sc B Z y_P_help b_P_help 4 none (rmm 4 84) [.ref (B.2.1 8 0), .ref (B.2.1 0 i), .int x, .int y] (jn c r) (qe none (jn (s_P_help N L c i x y) r)) := by
  refine ct_of (by decide) (Nat.le_of_ble_eq_true rfl) (cat_of rfl) ?_
  intro X ok en _
  have hB := hb.1
  refine mr_lv [(0, .ref (B.2.1 8 0)), (1, .ref (B.2.1 0 i)), (2, .int x), (3, .int y)] ⟨rfl, rfl, rfl, rfl, trivial⟩ ?_
  refine mr_aload_n ok (i := 1) d_P_help_0 rfl rfl ?_
  refine sx_getr ok hB fl_P_117 (tm_0 hb hi) rfl d_P_help_1 ?_
  refine mr_iload_n ok (i := 3) d_P_help_4 rfl rfl ?_
  refine sx_cVi ok hB [_] rfl cb_P_298 cv_G_keeps (tm_1 hb hi) rfl rfl (c_G_keeps hb hi) rfl (Nat.le_of_ble_eq_true rfl) (by decide) ⟨Nat.le_refl _, Nat.le_refl _⟩ d_P_help_5 ?_
  refine mr_if_eq ok 38 d_P_help_8 (by decide) (fun h8_0 => ?_) (fun h8_0 => ?_)
  · refine mr_aload_n ok (i := 0) d_P_help_38 rfl rfl ?_
    refine sx_getr ok hB fl_P_37 (tm_8 hb) rfl d_P_help_39 ?_
    refine mr_bipush ok 8 d_P_help_42 (by decide) ?_
    refine mr_aload_n ok (i := 1) d_P_help_44 rfl rfl ?_
    refine sx_getr ok hB fl_P_82 (tm_0 hb hi) rfl d_P_help_45 ?_
    refine mr_iload_n ok (i := 2) d_P_help_48 rfl rfl ?_
    refine mr_iconst ok 0 d_P_help_49 (by decide) ?_
    refine mr_aload_n ok (i := 1) d_P_help_50 rfl rfl ?_
    refine sx_getr ok hB fl_P_117 (tm_0 hb hi) rfl d_P_help_51 ?_
    refine cx_geti ok hB rfl fl_P_121 (tm_1 hb hi) rfl d_P_help_54 ?_
    refine mr_aload_n ok (i := 1) d_P_help_57 rfl rfl ?_
    refine sx_getr ok hB fl_P_117 (tm_0 hb hi) rfl d_P_help_58 ?_
    refine cx_geti ok hB rfl fl_P_126 (tm_1 hb hi) rfl d_P_help_61 ?_
    refine mr_iconst ok 0 d_P_help_64 (by decide) ?_
    refine sx_cVv ok hB [_, _, _, _, _, _, _] rfl cb_P_281 cv_F_send (tm_5 hb) rfl rfl (c_F_send hb (by exact hc.1)) rfl (Nat.le_of_ble_eq_true rfl) (by decide) ⟨Nat.le_refl _, Nat.le_refl _⟩ d_P_help_65 ?_
    have hc : kI N (s_F_send N L c 8 (nI i) x 0 (c 1 i 2) (c 1 i 3) 0) := kI_F_send (L := L) hc
    refine sx_vret ok en (Nat.le_refl _) (Nat.le_refl _) d_P_help_68 ?_
    exact ⟨rfl, (by first | rfl | simp only [s_P_help, if_pos h8_0])⟩
  · refine mr_aload_n ok (i := 0) d_P_help_11 rfl rfl ?_
    refine sx_getr ok hB fl_P_37 (tm_8 hb) rfl d_P_help_12 ?_
    refine mr_iconst ok 5 d_P_help_15 (by decide) ?_
    refine mr_aload_n ok (i := 1) d_P_help_16 rfl rfl ?_
    refine sx_getr ok hB fl_P_82 (tm_0 hb hi) rfl d_P_help_17 ?_
    refine mr_iload_n ok (i := 2) d_P_help_20 rfl rfl ?_
    refine mr_iconst ok 0 d_P_help_21 (by decide) ?_
    refine mr_iload_n ok (i := 3) d_P_help_22 rfl rfl ?_
    refine mr_aload_n ok (i := 1) d_P_help_23 rfl rfl ?_
    refine sx_getr ok hB fl_P_117 (tm_0 hb hi) rfl d_P_help_24 ?_
    refine mr_iload_n ok (i := 3) d_P_help_27 rfl rfl ?_
    refine sx_cVi ok hB [_] rfl cb_P_150 cv_G_numberOf (tm_1 hb hi) rfl rfl (c_G_numberOf hb hi) rfl (Nat.le_of_ble_eq_true rfl) (by decide) ⟨Nat.le_refl _, Nat.le_refl _⟩ d_P_help_28 ?_
    refine mr_iconst ok 0 d_P_help_31 (by decide) ?_
    refine sx_cVv ok hB [_, _, _, _, _, _, _] rfl cb_P_281 cv_F_send (tm_5 hb) rfl rfl (c_F_send hb (by exact hc.1)) rfl (Nat.le_of_ble_eq_true rfl) (by decide) ⟨Nat.le_refl _, Nat.le_refl _⟩ d_P_help_32 ?_
    have hc : kI N (s_F_send N L c 5 (nI i) x 0 y (v_G_numberOf N L c i y) 0) := kI_F_send (L := L) hc
    refine mr_goto ok 68 d_P_help_35 (by decide) ?_
    refine sx_vret ok en (Nat.le_refl _) (Nat.le_refl _) d_P_help_68 ?_
    exact ⟨rfl, (by first | rfl | simp only [s_P_help, if_neg h8_0])⟩
def s_P_sendPromise (N L : Nat) (c : sh_S) (i : Nat) : sh_S := (if (v_R_isNext N L c i (c 7 0 4)) = 0 then (let c1 := s_F_send N L c 2 (nI i) (c 7 0 1) (c 7 0 3) (c 7 0 4) 0 0; c1) else (if (v_R_hasAccepted N L c i) = 0 then (let c2 := s_F_send N L c 2 (nI i) (c 7 0 1) (c 7 0 3) (c 7 0 4) 0 0; c2) else (let c3 := s_F_send N L c 2 (nI i) (c 7 0 1) (c 7 0 3) (c 7 0 4) (c 0 i 6) (c 0 i 5); c3)))
theorem kI_P_sendPromise {N L : Nat} {c : sh_S} {i : Nat} (hi : i < N) (hc : kI N c) : kI N (s_P_sendPromise N L c i) := by
  unfold s_P_sendPromise
  try dsimp only
  refine kI_ite (fun _ => ?_) (fun _ => ?_)
  · exact (kI_F_send (L := L) hc)
  · refine kI_ite (fun _ => ?_) (fun _ => ?_)
    · exact (kI_F_send (L := L) hc)
    · exact (kI_F_send (L := L) hc)
set_option maxHeartbeats 4000000 in
set_option maxRecDepth 100000 in
theorem c_P_sendPromise {B : sh_B} {Z : mx_Z} {N L : Nat} {cI cR cZ : ClassId} (hb : wB B Z N L cI cR cZ) {c r : sh_S} {i : Nat} (hi : i < N) (hc : kI N c) : sc B Z y_P_sendPromise b_P_sendPromise 6 none (rmm 1 28) [.ref (B.2.1 8 0), .ref (B.2.1 0 i), .ref (B.2.1 7 0)] (jn c r) (qe none (jn (s_P_sendPromise N L c i) r)) := by
  refine ct_of (by decide) (Nat.le_of_ble_eq_true rfl) (cat_of rfl) ?_
  intro X ok en _
  have hB := hb.1
  refine mr_lv [(0, .ref (B.2.1 8 0)), (1, .ref (B.2.1 0 i)), (2, .ref (B.2.1 7 0))] ⟨rfl, rfl, rfl, trivial⟩ ?_
  refine mr_aload_n ok (i := 1) d_P_sendPromise_0 rfl rfl ?_
  refine mr_aload_n ok (i := 2) d_P_sendPromise_1 rfl rfl ?_
  refine cx_geti ok hB rfl fl_P_225 (tm_7 hb) rfl d_P_sendPromise_2 ?_
  refine sx_cVi ok hB [_] rfl cb_P_245 cv_R_isNext (tm_0 hb hi) rfl rfl (c_R_isNext hb hi) rfl (Nat.le_of_ble_eq_true rfl) (by decide) ⟨Nat.le_refl _, Nat.le_refl _⟩ d_P_sendPromise_5 ?_
  refine mr_if_eq ok 22 d_P_sendPromise_8 (by decide) (fun h8_0 => ?_) (fun h8_0 => ?_)
  · refine mr_iconst ok 0 d_P_sendPromise_22 (by decide) ?_
    refine mr_istore_n ok (i := 3) d_P_sendPromise_23 rfl (by decide) ?_
    refine mr_iload_n ok (i := 3) d_P_sendPromise_24 rfl rfl ?_
    refine mr_if_eq ok 35 d_P_sendPromise_25 (by decide) (fun _ => ?_) (fun h => absurd h (by decide))
    refine mr_iconst ok 0 d_P_sendPromise_35 (by decide) ?_
    refine mr_istore ok d_P_sendPromise_36 (by decide) ?_
    refine mr_iload_n ok (i := 3) d_P_sendPromise_38 rfl rfl ?_
    refine mr_if_eq ok 49 d_P_sendPromise_39 (by decide) (fun _ => ?_) (fun h => absurd h (by decide))
    refine mr_iconst ok 0 d_P_sendPromise_49 (by decide) ?_
    refine mr_istore ok d_P_sendPromise_50 (by decide) ?_
    refine mr_aload_n ok (i := 0) d_P_sendPromise_52 rfl rfl ?_
    refine sx_getr ok hB fl_P_37 (tm_8 hb) rfl d_P_sendPromise_53 ?_
    refine mr_iconst ok 2 d_P_sendPromise_56 (by decide) ?_
    refine mr_aload_n ok (i := 1) d_P_sendPromise_57 rfl rfl ?_
    refine sx_getr ok hB fl_P_82 (tm_0 hb hi) rfl d_P_sendPromise_58 ?_
    refine mr_aload_n ok (i := 2) d_P_sendPromise_61 rfl rfl ?_
    refine cx_geti ok hB rfl fl_P_228 (tm_7 hb) rfl d_P_sendPromise_62 ?_
    refine mr_aload_n ok (i := 2) d_P_sendPromise_65 rfl rfl ?_
    refine cx_geti ok hB rfl fl_P_198 (tm_7 hb) rfl d_P_sendPromise_66 ?_
    refine mr_aload_n ok (i := 2) d_P_sendPromise_69 rfl rfl ?_
    refine cx_geti ok hB rfl fl_P_225 (tm_7 hb) rfl d_P_sendPromise_70 ?_
    refine mr_iload ok d_P_sendPromise_73 rfl ?_
    refine mr_iload ok d_P_sendPromise_75 rfl ?_
    refine sx_cVv ok hB [_, _, _, _, _, _, _] rfl cb_P_281 cv_F_send (tm_5 hb) rfl rfl (c_F_send hb (by exact hc.1)) rfl (Nat.le_of_ble_eq_true rfl) (by decide) ⟨Nat.le_refl _, Nat.le_refl _⟩ d_P_sendPromise_77 ?_
    have hc : kI N (s_F_send N L c 2 (nI i) (c 7 0 1) (c 7 0 3) (c 7 0 4) 0 0) := kI_F_send (L := L) hc
    refine sx_vret ok en (Nat.le_refl _) (Nat.le_refl _) d_P_sendPromise_80 ?_
    exact ⟨rfl, (by first | rfl | simp only [s_P_sendPromise, if_pos h8_0])⟩
  · refine mr_aload_n ok (i := 1) d_P_sendPromise_11 rfl rfl ?_
    refine sx_cVi ok hB [] rfl cb_P_136 cv_R_hasAccepted (tm_0 hb hi) rfl rfl (c_R_hasAccepted hb hi) rfl (Nat.le_of_ble_eq_true rfl) (by decide) ⟨Nat.le_refl _, Nat.le_refl _⟩ d_P_sendPromise_12 ?_
    refine mr_if_eq ok 22 d_P_sendPromise_15 (by decide) (fun h15_1 => ?_) (fun h15_1 => ?_)
    · refine mr_iconst ok 0 d_P_sendPromise_22 (by decide) ?_
      refine mr_istore_n ok (i := 3) d_P_sendPromise_23 rfl (by decide) ?_
      refine mr_iload_n ok (i := 3) d_P_sendPromise_24 rfl rfl ?_
      refine mr_if_eq ok 35 d_P_sendPromise_25 (by decide) (fun _ => ?_) (fun h => absurd h (by decide))
      refine mr_iconst ok 0 d_P_sendPromise_35 (by decide) ?_
      refine mr_istore ok d_P_sendPromise_36 (by decide) ?_
      refine mr_iload_n ok (i := 3) d_P_sendPromise_38 rfl rfl ?_
      refine mr_if_eq ok 49 d_P_sendPromise_39 (by decide) (fun _ => ?_) (fun h => absurd h (by decide))
      refine mr_iconst ok 0 d_P_sendPromise_49 (by decide) ?_
      refine mr_istore ok d_P_sendPromise_50 (by decide) ?_
      refine mr_aload_n ok (i := 0) d_P_sendPromise_52 rfl rfl ?_
      refine sx_getr ok hB fl_P_37 (tm_8 hb) rfl d_P_sendPromise_53 ?_
      refine mr_iconst ok 2 d_P_sendPromise_56 (by decide) ?_
      refine mr_aload_n ok (i := 1) d_P_sendPromise_57 rfl rfl ?_
      refine sx_getr ok hB fl_P_82 (tm_0 hb hi) rfl d_P_sendPromise_58 ?_
      refine mr_aload_n ok (i := 2) d_P_sendPromise_61 rfl rfl ?_
      refine cx_geti ok hB rfl fl_P_228 (tm_7 hb) rfl d_P_sendPromise_62 ?_
      refine mr_aload_n ok (i := 2) d_P_sendPromise_65 rfl rfl ?_
      refine cx_geti ok hB rfl fl_P_198 (tm_7 hb) rfl d_P_sendPromise_66 ?_
      refine mr_aload_n ok (i := 2) d_P_sendPromise_69 rfl rfl ?_
      refine cx_geti ok hB rfl fl_P_225 (tm_7 hb) rfl d_P_sendPromise_70 ?_
      refine mr_iload ok d_P_sendPromise_73 rfl ?_
      refine mr_iload ok d_P_sendPromise_75 rfl ?_
      refine sx_cVv ok hB [_, _, _, _, _, _, _] rfl cb_P_281 cv_F_send (tm_5 hb) rfl rfl (c_F_send hb (by exact hc.1)) rfl (Nat.le_of_ble_eq_true rfl) (by decide) ⟨Nat.le_refl _, Nat.le_refl _⟩ d_P_sendPromise_77 ?_
      have hc : kI N (s_F_send N L c 2 (nI i) (c 7 0 1) (c 7 0 3) (c 7 0 4) 0 0) := kI_F_send (L := L) hc
      refine sx_vret ok en (Nat.le_refl _) (Nat.le_refl _) d_P_sendPromise_80 ?_
      exact ⟨rfl, (by first | rfl | simp only [s_P_sendPromise, if_neg h8_0, if_pos h15_1])⟩
    · refine mr_iconst ok 1 d_P_sendPromise_18 (by decide) ?_
      refine mr_goto ok 23 d_P_sendPromise_19 (by decide) ?_
      refine mr_istore_n ok (i := 3) d_P_sendPromise_23 rfl (by decide) ?_
      refine mr_iload_n ok (i := 3) d_P_sendPromise_24 rfl rfl ?_
      refine mr_if_eq ok 35 d_P_sendPromise_25 (by decide) (fun h => absurd h (by decide)) (fun _ => ?_)
      refine mr_aload_n ok (i := 1) d_P_sendPromise_28 rfl rfl ?_
      refine cx_geti ok hB rfl fl_P_143 (tm_0 hb hi) rfl d_P_sendPromise_29 ?_
      refine mr_goto ok 36 d_P_sendPromise_32 (by decide) ?_
      refine mr_istore ok d_P_sendPromise_36 (by decide) ?_
      refine mr_iload_n ok (i := 3) d_P_sendPromise_38 rfl rfl ?_
      refine mr_if_eq ok 49 d_P_sendPromise_39 (by decide) (fun h => absurd h (by decide)) (fun _ => ?_)
      refine mr_aload_n ok (i := 1) d_P_sendPromise_42 rfl rfl ?_
      refine cx_geti ok hB rfl fl_P_140 (tm_0 hb hi) rfl d_P_sendPromise_43 ?_
      refine mr_goto ok 50 d_P_sendPromise_46 (by decide) ?_
      refine mr_istore ok d_P_sendPromise_50 (by decide) ?_
      refine mr_aload_n ok (i := 0) d_P_sendPromise_52 rfl rfl ?_
      refine sx_getr ok hB fl_P_37 (tm_8 hb) rfl d_P_sendPromise_53 ?_
      refine mr_iconst ok 2 d_P_sendPromise_56 (by decide) ?_
      refine mr_aload_n ok (i := 1) d_P_sendPromise_57 rfl rfl ?_
      refine sx_getr ok hB fl_P_82 (tm_0 hb hi) rfl d_P_sendPromise_58 ?_
      refine mr_aload_n ok (i := 2) d_P_sendPromise_61 rfl rfl ?_
      refine cx_geti ok hB rfl fl_P_228 (tm_7 hb) rfl d_P_sendPromise_62 ?_
      refine mr_aload_n ok (i := 2) d_P_sendPromise_65 rfl rfl ?_
      refine cx_geti ok hB rfl fl_P_198 (tm_7 hb) rfl d_P_sendPromise_66 ?_
      refine mr_aload_n ok (i := 2) d_P_sendPromise_69 rfl rfl ?_
      refine cx_geti ok hB rfl fl_P_225 (tm_7 hb) rfl d_P_sendPromise_70 ?_
      refine mr_iload ok d_P_sendPromise_73 rfl ?_
      refine mr_iload ok d_P_sendPromise_75 rfl ?_
      refine sx_cVv ok hB [_, _, _, _, _, _, _] rfl cb_P_281 cv_F_send (tm_5 hb) rfl rfl (c_F_send hb (by exact hc.1)) rfl (Nat.le_of_ble_eq_true rfl) (by decide) ⟨Nat.le_refl _, Nat.le_refl _⟩ d_P_sendPromise_77 ?_
      have hc : kI N (s_F_send N L c 2 (nI i) (c 7 0 1) (c 7 0 3) (c 7 0 4) (c 0 i 6) (c 0 i 5)) := kI_F_send (L := L) hc
      refine sx_vret ok en (Nat.le_refl _) (Nat.le_refl _) d_P_sendPromise_80 ?_
      exact ⟨rfl, (by first | rfl | simp only [s_P_sendPromise, if_neg h8_0, if_neg h15_1])⟩
def v_P_nextBallot (N L : Nat) (c : sh_S) (i : Nat) : Int32 := (if (((if (c 0 i 4) < (c 0 i 11) then (c 0 i 11) else (c 0 i 4)) - ((if (c 0 i 4) < (c 0 i 11) then (c 0 i 11) else (c 0 i 4)) - (if (c 0 i 4) < (c 0 i 11) then (c 0 i 11) else (c 0 i 4)) / (nI N) * (nI N))) + (nI i)) ≤ (if (c 0 i 4) < (c 0 i 11) then (c 0 i 11) else (c 0 i 4)) then ((((if (c 0 i 4) < (c 0 i 11) then (c 0 i 11) else (c 0 i 4)) - ((if (c 0 i 4) < (c 0 i 11) then (c 0 i 11) else (c 0 i 4)) - (if (c 0 i 4) < (c 0 i 11) then (c 0 i 11) else (c 0 i 4)) / (nI N) * (nI N))) + (nI i)) + (nI N)) else (((if (c 0 i 4) < (c 0 i 11) then (c 0 i 11) else (c 0 i 4)) - ((if (c 0 i 4) < (c 0 i 11) then (c 0 i 11) else (c 0 i 4)) - (if (c 0 i 4) < (c 0 i 11) then (c 0 i 11) else (c 0 i 4)) / (nI N) * (nI N))) + (nI i)))
set_option maxHeartbeats 4000000 in
set_option maxRecDepth 100000 in
theorem c_P_nextBallot {B : sh_B} {Z : mx_Z} {N L : Nat} {cI cR cZ : ClassId} (hb : wB B Z N L cI cR cZ) {c r : sh_S} {i : Nat} (hi : i < N) : sc B Z y_P_nextBallot b_P_nextBallot 4 (some (.int)) (rmm 1 22) [.ref (B.2.1 8 0), .ref (B.2.1 0 i)] (jn c r) (qe (some (.int (v_P_nextBallot N L c i))) (jn c r)) := by
  refine ct_of (by decide) (Nat.le_of_ble_eq_true rfl) (cat_of rfl) ?_
  intro X ok en _
  have hB := hb.1
  refine mr_lv [(0, .ref (B.2.1 8 0)), (1, .ref (B.2.1 0 i))] ⟨rfl, rfl, trivial⟩ ?_
  refine mr_aload_n ok (i := 1) d_P_nextBallot_0 rfl rfl ?_
  refine cx_geti ok hB rfl fl_P_133 (tm_0 hb hi) rfl d_P_nextBallot_1 ?_
  refine mr_aload_n ok (i := 1) d_P_nextBallot_4 rfl rfl ?_
  refine cx_geti ok hB rfl fl_P_189 (tm_0 hb hi) rfl d_P_nextBallot_5 ?_
  refine mr_max ok (mw 64 rfl rfl) (mw 65 rfl rfl) (mw 44 rfl rfl) (mw 66 rfl rfl) (by decide) (Nat.le_of_ble_eq_true rfl) (Nat.le_refl _) (Nat.le_refl _) d_P_nextBallot_8 ?_
  refine mr_istore_n ok (i := 2) d_P_nextBallot_11 rfl (by decide) ?_
  refine mr_iload_n ok (i := 2) d_P_nextBallot_12 rfl rfl ?_
  refine mr_iload_n ok (i := 2) d_P_nextBallot_13 rfl rfl ?_
  refine mr_aload_n ok (i := 0) d_P_nextBallot_14 rfl rfl ?_
  refine sx_getr ok hB fl_P_18 (tm_8 hb) rfl d_P_nextBallot_15 ?_
  refine mr_irem ok d_P_nextBallot_18 (kn_ne hb) ?_
  refine mr_isub ok d_P_nextBallot_19 ?_
  refine mr_aload_n ok (i := 1) d_P_nextBallot_20 rfl rfl ?_
  refine sx_getr ok hB fl_P_82 (tm_0 hb hi) rfl d_P_nextBallot_21 ?_
  refine mr_iadd ok d_P_nextBallot_24 ?_
  refine mr_istore_n ok (i := 3) d_P_nextBallot_25 rfl (by decide) ?_
  refine mr_iload_n ok (i := 3) d_P_nextBallot_26 rfl rfl ?_
  refine mr_iload_n ok (i := 2) d_P_nextBallot_27 rfl rfl ?_
  refine mr_icmp_le ok 35 d_P_nextBallot_28 (by decide) (fun h28_0 => ?_) (fun h28_0 => ?_)
  · refine mr_iload_n ok (i := 3) d_P_nextBallot_35 rfl rfl ?_
    refine mr_aload_n ok (i := 0) d_P_nextBallot_36 rfl rfl ?_
    refine sx_getr ok hB fl_P_18 (tm_8 hb) rfl d_P_nextBallot_37 ?_
    refine mr_iadd ok d_P_nextBallot_40 ?_
    refine sx_iret ok en (Nat.le_refl _) (Nat.le_refl _) d_P_nextBallot_41 ?_
    exact ⟨(by first | rfl | simp only [v_P_nextBallot, if_pos h28_0]), (by first | rfl | simp only [s_P_nextBallot, if_pos h28_0])⟩
  · refine mr_iload_n ok (i := 3) d_P_nextBallot_31 rfl rfl ?_
    refine mr_goto ok 41 d_P_nextBallot_32 (by decide) ?_
    refine sx_iret ok en (Nat.le_refl _) (Nat.le_refl _) d_P_nextBallot_41 ?_
    exact ⟨(by first | rfl | simp only [v_P_nextBallot, if_neg h28_0]), (by first | rfl | simp only [s_P_nextBallot, if_neg h28_0])⟩
def s_P_campaign (N L : Nat) (c : sh_S) (i : Nat) : sh_S := (let c1 := s_R_becomeCandidate N L c i (v_P_nextBallot N L c i); (let c2 := s_P_sendPrepare N L c1 i; c2))
theorem kI_P_campaign {N L : Nat} {c : sh_S} {i : Nat} (hi : i < N) (hc : kI N c) : kI N (s_P_campaign N L c i) := by
  unfold s_P_campaign
  try dsimp only
  exact (kI_P_sendPrepare (L := L) hi hc)
set_option maxHeartbeats 4000000 in
set_option maxRecDepth 100000 in
theorem c_P_campaign {B : sh_B} {Z : mx_Z} {N L : Nat} {cI cR cZ : ClassId} (hb : wB B Z N L cI cR cZ) {c r : sh_S} {i : Nat} (hi : i < N) (hc : kI N c) : sc B Z y_P_campaign b_P_campaign 2 none (rmm 3 75) [.ref (B.2.1 8 0), .ref (B.2.1 0 i)] (jn c r) (qe none (jn (s_P_campaign N L c i) r)) := by
  refine ct_of (by decide) (Nat.le_of_ble_eq_true rfl) (cat_of rfl) ?_
  intro X ok en _
  have hB := hb.1
  refine mr_lv [(0, .ref (B.2.1 8 0)), (1, .ref (B.2.1 0 i))] ⟨rfl, rfl, trivial⟩ ?_
  refine mr_aload_n ok (i := 1) d_P_campaign_0 rfl rfl ?_
  refine mr_aload_n ok (i := 0) d_P_campaign_1 rfl rfl ?_
  refine mr_aload_n ok (i := 1) d_P_campaign_2 rfl rfl ?_
  refine sx_cVi ok hB [_] rfl cb_P_182 cv_P_nextBallot (tm_8 hb) rfl rfl (c_P_nextBallot hb hi) rfl (Nat.le_of_ble_eq_true rfl) (by decide) ⟨Nat.le_refl _, Nat.le_refl _⟩ d_P_campaign_3 ?_
  refine sx_cVv ok hB [_] rfl cb_P_186 cv_R_becomeCandidate (tm_0 hb hi) rfl rfl (c_R_becomeCandidate hb hi) rfl (Nat.le_of_ble_eq_true rfl) (by decide) ⟨Nat.le_refl _, Nat.le_refl _⟩ d_P_campaign_6 ?_
  refine mr_aload_n ok (i := 0) d_P_campaign_9 rfl rfl ?_
  refine mr_aload_n ok (i := 1) d_P_campaign_10 rfl rfl ?_
  refine sx_cVv ok hB [_] rfl cb_P_73 cv_P_sendPrepare (tm_8 hb) rfl rfl (c_P_sendPrepare hb hi (by exact hc)) rfl (Nat.le_of_ble_eq_true rfl) (by decide) ⟨Nat.le_refl _, Nat.le_refl _⟩ d_P_campaign_11 ?_
  have hc : kI N (s_P_sendPrepare N L (s_R_becomeCandidate N L c i (v_P_nextBallot N L c i)) i) := kI_P_sendPrepare (L := L) hi hc
  refine sx_vret ok en (Nat.le_refl _) (Nat.le_refl _) d_P_campaign_14 ?_
  exact ⟨rfl, (by first | rfl | simp only [s_P_campaign])⟩
def s_P_proposeNumber (N L : Nat) (c : sh_S) (i : Nat) (x : Int32) : sh_S := (let c1 := s_R_proposeAndAccept N L c i x; (let c2 := s_P_sendAccept N L c1 i; c2))
theorem kI_P_proposeNumber {N L : Nat} {c : sh_S} {i : Nat} {x : Int32} (hi : i < N) (hc : kI N c) : kI N (s_P_proposeNumber N L c i x) := by
  unfold s_P_proposeNumber
  try dsimp only
  exact (kI_P_sendAccept (L := L) hi hc)
set_option maxHeartbeats 4000000 in
set_option maxRecDepth 100000 in
theorem c_P_proposeNumber {B : sh_B} {Z : mx_Z} {N L : Nat} {cI cR cZ : ClassId} (hb : wB B Z N L cI cR cZ) {c r : sh_S} {i : Nat} (hi : i < N) {x : Int32} (hc : kI N c) : sc B Z y_P_proposeNumber b_P_proposeNumber 3 none (rmm 3 75) [.ref (B.2.1 8 0), .ref (B.2.1 0 i), .int x] (jn c r) (qe none (jn (s_P_proposeNumber N L c i x) r)) := by
  refine ct_of (by decide) (Nat.le_of_ble_eq_true rfl) (cat_of rfl) ?_
  intro X ok en _
  have hB := hb.1
  refine mr_lv [(0, .ref (B.2.1 8 0)), (1, .ref (B.2.1 0 i)), (2, .int x)] ⟨rfl, rfl, rfl, trivial⟩ ?_
  refine mr_aload_n ok (i := 1) d_P_proposeNumber_0 rfl rfl ?_
  refine mr_iload_n ok (i := 2) d_P_proposeNumber_1 rfl rfl ?_
  refine sx_cVv ok hB [_] rfl cb_P_195 cv_R_proposeAndAccept (tm_0 hb hi) rfl rfl (c_R_proposeAndAccept hb hi) rfl (Nat.le_of_ble_eq_true rfl) (by decide) ⟨Nat.le_refl _, Nat.le_refl _⟩ d_P_proposeNumber_2 ?_
  refine mr_aload_n ok (i := 0) d_P_proposeNumber_5 rfl rfl ?_
  refine mr_aload_n ok (i := 1) d_P_proposeNumber_6 rfl rfl ?_
  refine sx_cVv ok hB [_] rfl cb_P_176 cv_P_sendAccept (tm_8 hb) rfl rfl (c_P_sendAccept hb hi (by exact hc)) rfl (Nat.le_of_ble_eq_true rfl) (by decide) ⟨Nat.le_refl _, Nat.le_refl _⟩ d_P_proposeNumber_7 ?_
  have hc : kI N (s_P_sendAccept N L (s_R_proposeAndAccept N L c i x) i) := kI_P_sendAccept (L := L) hi hc
  refine sx_vret ok en (Nat.le_refl _) (Nat.le_refl _) d_P_proposeNumber_10 ?_
  exact ⟨rfl, (by first | rfl | simp only [s_P_proposeNumber])⟩
def s_P_propose (N L : Nat) (c : sh_S) (i : Nat) : sh_S := (if (v_L_at N L c i 0) = 0 then c else (let c1 := s_P_proposeNumber N L c i (v_L_at N L c i 0); c1))
theorem kI_P_propose {N L : Nat} {c : sh_S} {i : Nat} (hi : i < N) (hc : kI N c) : kI N (s_P_propose N L c i) := by
  unfold s_P_propose
  try dsimp only
  refine kI_ite (fun _ => ?_) (fun _ => ?_)
  · exact hc
  · exact (kI_P_proposeNumber (L := L) hi hc)
set_option maxHeartbeats 4000000 in
set_option maxRecDepth 100000 in
theorem c_P_propose {B : sh_B} {Z : mx_Z} {N L : Nat} {cI cR cZ : ClassId} (hb : wB B Z N L cI cR cZ) {c r : sh_S} {i : Nat} (hi : i < N) (hc : kI N c) : sc B Z y_P_propose b_P_propose 3 none (rmm 4 97) [.ref (B.2.1 8 0), .ref (B.2.1 0 i)] (jn c r) (qe none (jn (s_P_propose N L c i) r)) := by
  refine ct_of (by decide) (Nat.le_of_ble_eq_true rfl) (cat_of rfl) ?_
  intro X ok en _
  have hB := hb.1
  refine mr_lv [(0, .ref (B.2.1 8 0)), (1, .ref (B.2.1 0 i))] ⟨rfl, rfl, trivial⟩ ?_
  refine mr_aload_n ok (i := 1) d_P_propose_0 rfl rfl ?_
  refine sx_getr ok hB fl_P_56 (tm_0 hb hi) rfl d_P_propose_1 ?_
  refine mr_iconst ok 0 d_P_propose_4 (by decide) ?_
  refine sx_cVi ok hB [_] rfl cb_P_153 cv_L_at (tm_3 hb hi) rfl rfl (c_L_at hb hi (by exact hc.2 _ hi)) rfl (Nat.le_of_ble_eq_true rfl) (by decide) ⟨Nat.le_refl _, Nat.le_refl _⟩ d_P_propose_5 ?_
  refine mr_istore_n ok (i := 2) d_P_propose_8 rfl (by decide) ?_
  refine mr_iload_n ok (i := 2) d_P_propose_9 rfl rfl ?_
  refine mr_if_eq ok 19 d_P_propose_10 (by decide) (fun h10_0 => ?_) (fun h10_0 => ?_)
  · refine sx_vret ok en (Nat.le_refl _) (Nat.le_refl _) d_P_propose_19 ?_
    exact ⟨rfl, (by first | rfl | simp only [s_P_propose, if_pos h10_0])⟩
  · refine mr_aload_n ok (i := 0) d_P_propose_13 rfl rfl ?_
    refine mr_aload_n ok (i := 1) d_P_propose_14 rfl rfl ?_
    refine mr_iload_n ok (i := 2) d_P_propose_15 rfl rfl ?_
    refine sx_cVv ok hB [_, _] rfl cb_P_192 cv_P_proposeNumber (tm_8 hb) rfl rfl (c_P_proposeNumber hb hi (by exact hc)) rfl (Nat.le_of_ble_eq_true rfl) (by decide) ⟨Nat.le_refl _, Nat.le_refl _⟩ d_P_propose_16 ?_
    have hc : kI N (s_P_proposeNumber N L c i (v_L_at N L c i 0)) := kI_P_proposeNumber (L := L) hi hc
    refine sx_vret ok en (Nat.le_refl _) (Nat.le_refl _) d_P_propose_19 ?_
    exact ⟨rfl, (by first | rfl | simp only [s_P_propose, if_neg h10_0])⟩
def s_P_tickLeader (N L : Nat) (c : sh_S) (i : Nat) : sh_S := (if (c 0 i 10) = 0 then (let c1 := s_P_propose N L c i; c1) else (let c2 := s_P_sendAccept N L c i; c2))
theorem kI_P_tickLeader {N L : Nat} {c : sh_S} {i : Nat} (hi : i < N) (hc : kI N c) : kI N (s_P_tickLeader N L c i) := by
  unfold s_P_tickLeader
  try dsimp only
  refine kI_ite (fun _ => ?_) (fun _ => ?_)
  · exact (kI_P_propose (L := L) hi hc)
  · exact (kI_P_sendAccept (L := L) hi hc)
set_option maxHeartbeats 4000000 in
set_option maxRecDepth 100000 in
theorem c_P_tickLeader {B : sh_B} {Z : mx_Z} {N L : Nat} {cI cR cZ : ClassId} (hb : wB B Z N L cI cR cZ) {c r : sh_S} {i : Nat} (hi : i < N) (hc : kI N c) : sc B Z y_P_tickLeader b_P_tickLeader 2 none (rmm 5 119) [.ref (B.2.1 8 0), .ref (B.2.1 0 i)] (jn c r) (qe none (jn (s_P_tickLeader N L c i) r)) := by
  refine ct_of (by decide) (Nat.le_of_ble_eq_true rfl) (cat_of rfl) ?_
  intro X ok en _
  have hB := hb.1
  refine mr_lv [(0, .ref (B.2.1 8 0)), (1, .ref (B.2.1 0 i))] ⟨rfl, rfl, trivial⟩ ?_
  refine mr_aload_n ok (i := 1) d_P_tickLeader_0 rfl rfl ?_
  refine cx_geti ok hB rfl fl_P_173 (tm_0 hb hi) rfl d_P_tickLeader_1 ?_
  refine mr_if_eq ok 15 d_P_tickLeader_4 (by decide) (fun h4_0 => ?_) (fun h4_0 => ?_)
  · refine mr_aload_n ok (i := 0) d_P_tickLeader_15 rfl rfl ?_
    refine mr_aload_n ok (i := 1) d_P_tickLeader_16 rfl rfl ?_
    refine sx_cVv ok hB [_] rfl cb_P_179 cv_P_propose (tm_8 hb) rfl rfl (c_P_propose hb hi (by exact hc)) rfl (Nat.le_of_ble_eq_true rfl) (by decide) ⟨Nat.le_refl _, Nat.le_refl _⟩ d_P_tickLeader_17 ?_
    have hc : kI N (s_P_propose N L c i) := kI_P_propose (L := L) hi hc
    refine sx_vret ok en (Nat.le_refl _) (Nat.le_refl _) d_P_tickLeader_20 ?_
    exact ⟨rfl, (by first | rfl | simp only [s_P_tickLeader, if_pos h4_0])⟩
  · refine mr_aload_n ok (i := 0) d_P_tickLeader_7 rfl rfl ?_
    refine mr_aload_n ok (i := 1) d_P_tickLeader_8 rfl rfl ?_
    refine sx_cVv ok hB [_] rfl cb_P_176 cv_P_sendAccept (tm_8 hb) rfl rfl (c_P_sendAccept hb hi (by exact hc)) rfl (Nat.le_of_ble_eq_true rfl) (by decide) ⟨Nat.le_refl _, Nat.le_refl _⟩ d_P_tickLeader_9 ?_
    have hc : kI N (s_P_sendAccept N L c i) := kI_P_sendAccept (L := L) hi hc
    refine mr_goto ok 20 d_P_tickLeader_12 (by decide) ?_
    refine sx_vret ok en (Nat.le_refl _) (Nat.le_refl _) d_P_tickLeader_20 ?_
    exact ⟨rfl, (by first | rfl | simp only [s_P_tickLeader, if_neg h4_0])⟩
