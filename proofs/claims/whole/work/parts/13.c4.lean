theorem ks_nn {N k : Nat} {b : Int32} (h1 : b = nI k) (h2 : k ≤ N) (hN : N ≤ 5) : ¬ b < 0 := by
  rw [h1]
  exact nI_pos (by omega)
def lv_P_greatestIndex (N L : Nat) : Nat → sh_S → Int32 → Int32 → Int32
  | 0, _, _, _ => 0
  | n + 1, c, a, b => (if (nI N) ≤ b then a else (lv_P_greatestIndex N L n c (if a < (c 1 ((b : Int32).toNatClampNeg) 2) then (c 1 ((b : Int32).toNatClampNeg) 2) else a) (b + 1)))
set_option maxHeartbeats 4000000 in
set_option maxRecDepth 100000 in
theorem l_P_greatestIndex {B : sh_B} {Z : mx_Z} {N L : Nat} {cI cR cZ : ClassId} (hb : wB B Z N L cI cR cZ) {r : sh_S} {X : mx_C} {V0 : Option Value} {S0 : sh_S} (ok : mx_ok X Z R_P b_P_greatestIndex 3 (rmm 1 22)) (en : sx_end B X (some (.int)) (rmm 1 22) (qe V0 S0)) : ∀ (n : Nat) (c : sh_S) (a : Int32) (b : Int32), (∃ k : Nat, b = nI k ∧ k ≤ N ∧ N + 1 ≤ k + n) → V0 = some (.int (lv_P_greatestIndex N L n c a b)) → S0 = (jn c r) → sx B X (0, 0) 4 [(0, .ref (B.2.1 8 0)), (1, .int a), (2, .int b)] [] (jn c r) := by
  have hB := hb.1
  intro n
  induction n with
  | zero =>
    intro c a b hh _ _
    obtain ⟨k, h1, h2, h3⟩ := hh
    omega
  | succ n ih =>
    intro c a b hh hV hS
    obtain ⟨k, h1, h2, h3⟩ := hh
    refine mr_iload_n ok (i := 2) d_P_greatestIndex_4 rfl rfl ?_
    refine mr_aload_n ok (i := 0) d_P_greatestIndex_5 rfl rfl ?_
    refine sx_getr ok hB fl_P_18 (tm_8 hb) rfl d_P_greatestIndex_6 ?_
    refine mr_icmp_ge ok 35 d_P_greatestIndex_9 (by decide) (fun h9_0 => ?_) (fun h9_0 => ?_)
    · refine mr_iload_n ok (i := 1) d_P_greatestIndex_35 rfl rfl ?_
      refine sx_iret ok en (Nat.le_refl _) (Nat.le_refl _) d_P_greatestIndex_36 ?_
      exact ⟨(by rw [hV]; simp only [lv_P_greatestIndex, if_pos h9_0]), (by rw [hS])⟩
    · refine mr_iload_n ok (i := 1) d_P_greatestIndex_12 rfl rfl ?_
      refine mr_aload_n ok (i := 0) d_P_greatestIndex_13 rfl rfl ?_
      refine sx_getr ok hB fl_P_27 (tm_8 hb) rfl d_P_greatestIndex_14 ?_
      refine mr_iload_n ok (i := 2) d_P_greatestIndex_17 rfl rfl ?_
      refine P_ald_row ok hb (kF_lt ⟨ks_nn h1 h2 hb.2.2.2.1.2, ‹_›⟩ hb.2.2.2.1.2).2 d_P_greatestIndex_18 ?_
      have hi := (kF_lt (N := N) (x := b) ⟨ks_nn h1 h2 hb.2.2.2.1.2, ‹_›⟩ hb.2.2.2.1.2).1
      refine sx_getr ok hB fl_P_117 (tm_0 hb hi) rfl d_P_greatestIndex_19 ?_
      refine cx_geti ok hB rfl fl_P_121 (tm_1 hb hi) rfl d_P_greatestIndex_22 ?_
      refine mr_max ok (mw 64 rfl rfl) (mw 65 rfl rfl) (mw 44 rfl rfl) (mw 66 rfl rfl) (by decide) (Nat.le_of_ble_eq_true rfl) (Nat.le_refl _) (Nat.le_refl _) d_P_greatestIndex_25 ?_
      refine mr_istore_n ok (i := 1) d_P_greatestIndex_28 rfl (by decide) ?_
      refine mr_iinc ok _ d_P_greatestIndex_29 rfl rfl (by decide) ?_
      refine mr_goto ok 4 d_P_greatestIndex_32 (by decide) ?_
      refine mr_lv [(0, .ref (B.2.1 8 0)), (1, .int (if a < (c 1 ((b : Int32).toNatClampNeg) 2) then (c 1 ((b : Int32).toNatClampNeg) 2) else a)), (2, .int (b + 1))] ⟨rfl, rfl, rfl, trivial⟩ ?_
      exact ih _ _ _ (ks_rec h1 h2 h3 ‹_› (by have := hb.2.2.2.1.2; omega)) (hV.trans (by simp only [lv_P_greatestIndex, if_neg h9_0])) hS
def v_P_greatestIndex (N L : Nat) (c : sh_S) : Int32 := (lv_P_greatestIndex N L 6 c 0 0)
set_option maxHeartbeats 4000000 in
set_option maxRecDepth 100000 in
theorem c_P_greatestIndex {B : sh_B} {Z : mx_Z} {N L : Nat} {cI cR cZ : ClassId} (hb : wB B Z N L cI cR cZ) {c r : sh_S} : sc B Z y_P_greatestIndex b_P_greatestIndex 3 (some (.int)) (rmm 1 22) [.ref (B.2.1 8 0)] (jn c r) (qe (some (.int (v_P_greatestIndex N L c))) (jn c r)) := by
  refine ct_of (by decide) (Nat.le_of_ble_eq_true rfl) (cat_of rfl) ?_
  intro X ok en _
  have hB := hb.1
  refine mr_lv [(0, .ref (B.2.1 8 0))] ⟨rfl, trivial⟩ ?_
  refine mr_iconst ok 0 d_P_greatestIndex_0 (by decide) ?_
  refine mr_istore_n ok (i := 1) d_P_greatestIndex_1 rfl (by decide) ?_
  refine mr_iconst ok 0 d_P_greatestIndex_2 (by decide) ?_
  refine mr_istore_n ok (i := 2) d_P_greatestIndex_3 rfl (by decide) ?_
  refine mr_lv [(0, .ref (B.2.1 8 0)), (1, .int 0), (2, .int 0)] ⟨rfl, rfl, rfl, trivial⟩ ?_
  exact l_P_greatestIndex hb ok en 6 _ _ _ ⟨0, rfl, Nat.zero_le _, by have := hb.2.2.2.1.2; omega⟩ rfl rfl
def s_P_onPrepare (N L : Nat) (c : sh_S) (i : Nat) : sh_S := (if (c 1 i 2) < (c 7 0 4) then (if (c 7 0 3) < (c 0 i 4) then (let c1 := s_P_deny N L c i (c 7 0 1); c1) else (let c2 := sU c 0 i 4 (c 7 0 3); (let c3 := s_R_becomeFollower N L c2 i; (let c4 := s_P_sendPromise N L c3 i; c4)))) else (let c5 := s_P_help N L c i (c 7 0 1) (c 7 0 4); c5))
theorem kI_P_onPrepare {N L : Nat} {c : sh_S} {i : Nat} (hi : i < N) (hc : kI N c) : kI N (s_P_onPrepare N L c i) := by
  unfold s_P_onPrepare
  try dsimp only
  refine kI_ite (fun _ => ?_) (fun _ => ?_)
  · refine kI_ite (fun _ => ?_) (fun _ => ?_)
    · exact (kI_P_deny (L := L) hi hc)
    · exact (kI_P_sendPromise (L := L) hi hc)
  · exact (kI_P_help (L := L) hi hc)
set_option maxHeartbeats 4000000 in
set_option maxRecDepth 100000 in
theorem c_P_onPrepare {B : sh_B} {Z : mx_Z} {N L : Nat} {cI cR cZ : ClassId} (hb : wB B Z N L cI cR cZ) {c r : sh_S} {i : Nat} (hi : i < N) (hc : kI N c) : sc B Z y_P_onPrepare b_P_onPrepare 3 none (rmm 5 107) [.ref (B.2.1 8 0), .ref (B.2.1 0 i), .ref (B.2.1 7 0)] (jn c r) (qe none (jn (s_P_onPrepare N L c i) r)) := by
  refine ct_of (by decide) (Nat.le_of_ble_eq_true rfl) (cat_of rfl) ?_
  intro X ok en _
  have hB := hb.1
  refine mr_lv [(0, .ref (B.2.1 8 0)), (1, .ref (B.2.1 0 i)), (2, .ref (B.2.1 7 0))] ⟨rfl, rfl, rfl, trivial⟩ ?_
  refine mr_aload_n ok (i := 2) d_P_onPrepare_0 rfl rfl ?_
  refine cx_geti ok hB rfl fl_P_225 (tm_7 hb) rfl d_P_onPrepare_1 ?_
  refine mr_aload_n ok (i := 1) d_P_onPrepare_4 rfl rfl ?_
  refine sx_getr ok hB fl_P_117 (tm_0 hb hi) rfl d_P_onPrepare_5 ?_
  refine cx_geti ok hB rfl fl_P_121 (tm_1 hb hi) rfl d_P_onPrepare_8 ?_
  refine mr_icmp_gt ok 30 d_P_onPrepare_11 (by decide) (fun h11_0 => ?_) (fun h11_0 => ?_)
  · refine mr_aload_n ok (i := 2) d_P_onPrepare_30 rfl rfl ?_
    refine cx_geti ok hB rfl fl_P_198 (tm_7 hb) rfl d_P_onPrepare_31 ?_
    refine mr_aload_n ok (i := 1) d_P_onPrepare_34 rfl rfl ?_
    refine cx_geti ok hB rfl fl_P_133 (tm_0 hb hi) rfl d_P_onPrepare_35 ?_
    refine mr_icmp_lt ok 62 d_P_onPrepare_38 (by decide) (fun h38_1 => ?_) (fun h38_1 => ?_)
    · refine mr_aload_n ok (i := 0) d_P_onPrepare_62 rfl rfl ?_
      refine mr_aload_n ok (i := 1) d_P_onPrepare_63 rfl rfl ?_
      refine mr_aload_n ok (i := 2) d_P_onPrepare_64 rfl rfl ?_
      refine cx_geti ok hB rfl fl_P_228 (tm_7 hb) rfl d_P_onPrepare_65 ?_
      refine sx_cVv ok hB [_, _] rfl cb_P_241 cv_P_deny (tm_8 hb) rfl rfl (c_P_deny hb hi (by exact hc)) rfl (Nat.le_of_ble_eq_true rfl) (by decide) ⟨Nat.le_refl _, Nat.le_refl _⟩ d_P_onPrepare_68 ?_
      have hc : kI N (s_P_deny N L c i (c 7 0 1)) := kI_P_deny (L := L) hi hc
      refine sx_vret ok en (Nat.le_refl _) (Nat.le_refl _) d_P_onPrepare_71 ?_
      exact ⟨rfl, (by first | rfl | simp only [s_P_onPrepare, if_pos h11_0, if_pos h38_1])⟩
    · refine mr_aload_n ok (i := 1) d_P_onPrepare_41 rfl rfl ?_
      refine mr_aload_n ok (i := 2) d_P_onPrepare_42 rfl rfl ?_
      refine cx_geti ok hB rfl fl_P_198 (tm_7 hb) rfl d_P_onPrepare_43 ?_
      refine cx_put ok hB rfl fw_P_133 (tm_0 hb hi) rfl rfl rfl d_P_onPrepare_46 ?_
      refine mr_aload_n ok (i := 1) d_P_onPrepare_49 rfl rfl ?_
      refine sx_cVv ok hB [] rfl cb_P_235 cv_R_becomeFollower (tm_0 hb hi) rfl rfl (c_R_becomeFollower hb hi) rfl (Nat.le_of_ble_eq_true rfl) (by decide) ⟨Nat.le_refl _, Nat.le_refl _⟩ d_P_onPrepare_50 ?_
      refine mr_aload_n ok (i := 0) d_P_onPrepare_53 rfl rfl ?_
      refine mr_aload_n ok (i := 1) d_P_onPrepare_54 rfl rfl ?_
      refine mr_aload_n ok (i := 2) d_P_onPrepare_55 rfl rfl ?_
      refine sx_cVv ok hB [_, _] rfl cb_P_238 cv_P_sendPromise (tm_8 hb) rfl rfl (c_P_sendPromise hb hi (by exact hc)) rfl (Nat.le_of_ble_eq_true rfl) (by decide) ⟨Nat.le_refl _, Nat.le_refl _⟩ d_P_onPrepare_56 ?_
      have hc : kI N (s_P_sendPromise N L (s_R_becomeFollower N L (sU c 0 i 4 (c 7 0 3)) i) i) := kI_P_sendPromise (L := L) hi hc
      refine mr_goto ok 71 d_P_onPrepare_59 (by decide) ?_
      refine sx_vret ok en (Nat.le_refl _) (Nat.le_refl _) d_P_onPrepare_71 ?_
      exact ⟨rfl, (by first | rfl | simp only [s_P_onPrepare, if_pos h11_0, if_neg h38_1])⟩
  · refine mr_aload_n ok (i := 0) d_P_onPrepare_14 rfl rfl ?_
    refine mr_aload_n ok (i := 1) d_P_onPrepare_15 rfl rfl ?_
    refine mr_aload_n ok (i := 2) d_P_onPrepare_16 rfl rfl ?_
    refine cx_geti ok hB rfl fl_P_228 (tm_7 hb) rfl d_P_onPrepare_17 ?_
    refine mr_aload_n ok (i := 2) d_P_onPrepare_20 rfl rfl ?_
    refine cx_geti ok hB rfl fl_P_225 (tm_7 hb) rfl d_P_onPrepare_21 ?_
    refine sx_cVv ok hB [_, _, _] rfl cb_P_231 cv_P_help (tm_8 hb) rfl rfl (c_P_help hb hi (by exact hc)) rfl (Nat.le_of_ble_eq_true rfl) (by decide) ⟨Nat.le_refl _, Nat.le_refl _⟩ d_P_onPrepare_24 ?_
    have hc : kI N (s_P_help N L c i (c 7 0 1) (c 7 0 4)) := kI_P_help (L := L) hi hc
    refine mr_goto ok 71 d_P_onPrepare_27 (by decide) ?_
    refine sx_vret ok en (Nat.le_refl _) (Nat.le_refl _) d_P_onPrepare_71 ?_
    exact ⟨rfl, (by first | rfl | simp only [s_P_onPrepare, if_neg h11_0])⟩
def s_P_onPromise (N L : Nat) (c : sh_S) (i : Nat) : sh_S := (if (c 0 i 7) = 1 then (if (c 0 i 8) = (c 7 0 3) then (if (v_R_isNext N L c i (c 7 0 4)) = 0 then c else (if (v_R_hasAnswer N L c i (c 7 0 1)) = 0 then (let c1 := s_R_addAnswer N L c i (c 7 0 1); (let c2 := s_R_keepGreatest N L c1 i (c1 7 0 6) (c1 7 0 5); (if (v_P_isMajority N L c2 (c2 0 i 9)) = 0 then c2 else (let c3 := s_R_becomeLeader N L c2 i; (if (c3 0 i 12) = 0 then (let c4 := s_P_propose N L c3 i; c4) else (let c5 := s_P_proposeNumber N L c3 i (c3 0 i 13); c5)))))) else c)) else c) else c)
theorem kI_P_onPromise {N L : Nat} {c : sh_S} {i : Nat} (hi : i < N) (hc : kI N c) : kI N (s_P_onPromise N L c i) := by
  unfold s_P_onPromise
  try dsimp only
  refine kI_ite (fun _ => ?_) (fun _ => ?_)
  · refine kI_ite (fun _ => ?_) (fun _ => ?_)
    · refine kI_ite (fun _ => ?_) (fun _ => ?_)
      · exact hc
      · refine kI_ite (fun _ => ?_) (fun _ => ?_)
        · refine kI_ite (fun _ => ?_) (fun _ => ?_)
          · exact (kI_R_keepGreatest (L := L) hi hc)
          · refine kI_ite (fun _ => ?_) (fun _ => ?_)
            · exact (kI_P_propose (L := L) hi (kI_R_keepGreatest (L := L) hi hc))
            · exact (kI_P_proposeNumber (L := L) hi (kI_R_keepGreatest (L := L) hi hc))
        · exact hc
    · exact hc
  · exact hc
set_option maxHeartbeats 4000000 in
set_option maxRecDepth 100000 in
theorem c_P_onPromise {B : sh_B} {Z : mx_Z} {N L : Nat} {cI cR cZ : ClassId} (hb : wB B Z N L cI cR cZ) {c r : sh_S} {i : Nat} (hi : i < N) (hc : kI N c) : sc B Z y_P_onPromise b_P_onPromise 4 none (rmm 5 119) [.ref (B.2.1 8 0), .ref (B.2.1 0 i), .ref (B.2.1 7 0)] (jn c r) (qe none (jn (s_P_onPromise N L c i) r)) := by
  refine ct_of (by decide) (Nat.le_of_ble_eq_true rfl) (cat_of rfl) ?_
  intro X ok en _
  have hB := hb.1
  refine mr_lv [(0, .ref (B.2.1 8 0)), (1, .ref (B.2.1 0 i)), (2, .ref (B.2.1 7 0))] ⟨rfl, rfl, rfl, trivial⟩ ?_
  refine mr_aload_n ok (i := 1) d_P_onPromise_0 rfl rfl ?_
  refine cx_geti ok hB rfl fl_P_66 (tm_0 hb hi) rfl d_P_onPromise_1 ?_
  refine mr_iconst ok 1 d_P_onPromise_4 (by decide) ?_
  refine mr_icmp_ne ok 45 d_P_onPromise_5 (by decide) (fun h5_0 => ?_) (fun h5_0 => ?_)
  · refine mr_iconst ok 0 d_P_onPromise_45 (by decide) ?_
    refine mr_istore_n ok (i := 3) d_P_onPromise_46 rfl (by decide) ?_
    refine mr_iload_n ok (i := 3) d_P_onPromise_47 rfl rfl ?_
    refine mr_if_ne ok 52 d_P_onPromise_48 (by decide) (fun h => absurd h (by decide)) (fun _ => ?_)
    refine sx_vret ok en (Nat.le_refl _) (Nat.le_refl _) d_P_onPromise_51 ?_
    exact ⟨rfl, (by first | rfl | simp only [s_P_onPromise, if_neg h5_0])⟩
  · refine mr_aload_n ok (i := 1) d_P_onPromise_8 rfl rfl ?_
    refine cx_geti ok hB rfl fl_P_244 (tm_0 hb hi) rfl d_P_onPromise_9 ?_
    refine mr_aload_n ok (i := 2) d_P_onPromise_12 rfl rfl ?_
    refine cx_geti ok hB rfl fl_P_198 (tm_7 hb) rfl d_P_onPromise_13 ?_
    refine mr_icmp_ne ok 45 d_P_onPromise_16 (by decide) (fun h16_1 => ?_) (fun h16_1 => ?_)
    · refine mr_iconst ok 0 d_P_onPromise_45 (by decide) ?_
      refine mr_istore_n ok (i := 3) d_P_onPromise_46 rfl (by decide) ?_
      refine mr_iload_n ok (i := 3) d_P_onPromise_47 rfl rfl ?_
      refine mr_if_ne ok 52 d_P_onPromise_48 (by decide) (fun h => absurd h (by decide)) (fun _ => ?_)
      refine sx_vret ok en (Nat.le_refl _) (Nat.le_refl _) d_P_onPromise_51 ?_
      exact ⟨rfl, (by first | rfl | simp only [s_P_onPromise, if_pos h5_0, if_neg h16_1])⟩
    · refine mr_aload_n ok (i := 1) d_P_onPromise_19 rfl rfl ?_
      refine mr_aload_n ok (i := 2) d_P_onPromise_20 rfl rfl ?_
      refine cx_geti ok hB rfl fl_P_225 (tm_7 hb) rfl d_P_onPromise_21 ?_
      refine sx_cVi ok hB [_] rfl cb_P_245 cv_R_isNext (tm_0 hb hi) rfl rfl (c_R_isNext hb hi) rfl (Nat.le_of_ble_eq_true rfl) (by decide) ⟨Nat.le_refl _, Nat.le_refl _⟩ d_P_onPromise_24 ?_
      refine mr_if_eq ok 45 d_P_onPromise_27 (by decide) (fun h27_2 => ?_) (fun h27_2 => ?_)
      · refine mr_iconst ok 0 d_P_onPromise_45 (by decide) ?_
        refine mr_istore_n ok (i := 3) d_P_onPromise_46 rfl (by decide) ?_
        refine mr_iload_n ok (i := 3) d_P_onPromise_47 rfl rfl ?_
        refine mr_if_ne ok 52 d_P_onPromise_48 (by decide) (fun h => absurd h (by decide)) (fun _ => ?_)
        refine sx_vret ok en (Nat.le_refl _) (Nat.le_refl _) d_P_onPromise_51 ?_
        exact ⟨rfl, (by first | rfl | simp only [s_P_onPromise, if_pos h5_0, if_pos h16_1, if_pos h27_2])⟩
      · refine mr_aload_n ok (i := 1) d_P_onPromise_30 rfl rfl ?_
        refine mr_aload_n ok (i := 2) d_P_onPromise_31 rfl rfl ?_
        refine cx_geti ok hB rfl fl_P_228 (tm_7 hb) rfl d_P_onPromise_32 ?_
        refine sx_cVi ok hB [_] rfl cb_P_248 cv_R_hasAnswer (tm_0 hb hi) rfl rfl (c_R_hasAnswer hb hi) rfl (Nat.le_of_ble_eq_true rfl) (by decide) ⟨Nat.le_refl _, Nat.le_refl _⟩ d_P_onPromise_35 ?_
        refine mr_if_ne ok 45 d_P_onPromise_38 (by decide) (fun h38_3 => ?_) (fun h38_3 => ?_)
        · refine mr_iconst ok 0 d_P_onPromise_45 (by decide) ?_
          refine mr_istore_n ok (i := 3) d_P_onPromise_46 rfl (by decide) ?_
          refine mr_iload_n ok (i := 3) d_P_onPromise_47 rfl rfl ?_
          refine mr_if_ne ok 52 d_P_onPromise_48 (by decide) (fun h => absurd h (by decide)) (fun _ => ?_)
          refine sx_vret ok en (Nat.le_refl _) (Nat.le_refl _) d_P_onPromise_51 ?_
          exact ⟨rfl, (by first | rfl | simp only [s_P_onPromise, if_pos h5_0, if_pos h16_1, if_neg h27_2, if_neg h38_3])⟩
        · refine mr_iconst ok 1 d_P_onPromise_41 (by decide) ?_
          refine mr_goto ok 46 d_P_onPromise_42 (by decide) ?_
          refine mr_istore_n ok (i := 3) d_P_onPromise_46 rfl (by decide) ?_
          refine mr_iload_n ok (i := 3) d_P_onPromise_47 rfl rfl ?_
          refine mr_if_ne ok 52 d_P_onPromise_48 (by decide) (fun _ => ?_) (fun h => absurd h (by decide))
          refine mr_aload_n ok (i := 1) d_P_onPromise_52 rfl rfl ?_
          refine mr_aload_n ok (i := 2) d_P_onPromise_53 rfl rfl ?_
          refine cx_geti ok hB rfl fl_P_228 (tm_7 hb) rfl d_P_onPromise_54 ?_
          refine sx_cVv ok hB [_] rfl cb_P_251 cv_R_addAnswer (tm_0 hb hi) rfl rfl (c_R_addAnswer hb hi) rfl (Nat.le_of_ble_eq_true rfl) (by decide) ⟨Nat.le_refl _, Nat.le_refl _⟩ d_P_onPromise_57 ?_
          refine mr_aload_n ok (i := 1) d_P_onPromise_60 rfl rfl ?_
          refine mr_aload_n ok (i := 2) d_P_onPromise_61 rfl rfl ?_
          refine cx_geti ok hB rfl fl_P_254 (tm_7 hb) rfl d_P_onPromise_62 ?_
          refine mr_aload_n ok (i := 2) d_P_onPromise_65 rfl rfl ?_
          refine cx_geti ok hB rfl fl_P_257 (tm_7 hb) rfl d_P_onPromise_66 ?_
          refine sx_cVv ok hB [_, _] rfl cb_P_260 cv_R_keepGreatest (tm_0 hb hi) rfl rfl (c_R_keepGreatest hb hi) rfl (Nat.le_of_ble_eq_true rfl) (by decide) ⟨Nat.le_refl _, Nat.le_refl _⟩ d_P_onPromise_69 ?_
          have hc : kI N (s_R_keepGreatest N L (s_R_addAnswer N L c i (c 7 0 1)) i ((s_R_addAnswer N L c i (c 7 0 1)) 7 0 6) ((s_R_addAnswer N L c i (c 7 0 1)) 7 0 5)) := kI_R_keepGreatest (L := L) hi hc
          refine mr_aload_n ok (i := 0) d_P_onPromise_72 rfl rfl ?_
          refine mr_aload_n ok (i := 1) d_P_onPromise_73 rfl rfl ?_
          refine cx_geti ok hB rfl fl_P_263 (tm_0 hb hi) rfl d_P_onPromise_74 ?_
          refine sx_cVi ok hB [_] rfl cb_P_266 cv_P_isMajority (tm_8 hb) rfl rfl (c_P_isMajority hb) rfl (Nat.le_of_ble_eq_true rfl) (by decide) ⟨Nat.le_refl _, Nat.le_refl _⟩ d_P_onPromise_77 ?_
          refine mr_if_eq ok 111 d_P_onPromise_80 (by decide) (fun h80_4 => ?_) (fun h80_4 => ?_)
          · refine sx_vret ok en (Nat.le_refl _) (Nat.le_refl _) d_P_onPromise_111 ?_
            exact ⟨rfl, (by first | rfl | simp only [s_P_onPromise, if_pos h5_0, if_pos h16_1, if_neg h27_2, if_pos h38_3, if_pos h80_4])⟩
          · refine mr_aload_n ok (i := 1) d_P_onPromise_83 rfl rfl ?_
            refine sx_cVv ok hB [] rfl cb_P_269 cv_R_becomeLeader (tm_0 hb hi) rfl rfl (c_R_becomeLeader hb hi) rfl (Nat.le_of_ble_eq_true rfl) (by decide) ⟨Nat.le_refl _, Nat.le_refl _⟩ d_P_onPromise_84 ?_
            refine mr_aload_n ok (i := 1) d_P_onPromise_87 rfl rfl ?_
            refine cx_geti ok hB rfl fl_P_272 (tm_0 hb hi) rfl d_P_onPromise_88 ?_
            refine mr_if_eq ok 106 d_P_onPromise_91 (by decide) (fun h91_5 => ?_) (fun h91_5 => ?_)
            · refine mr_aload_n ok (i := 0) d_P_onPromise_106 rfl rfl ?_
              refine mr_aload_n ok (i := 1) d_P_onPromise_107 rfl rfl ?_
              refine sx_cVv ok hB [_] rfl cb_P_179 cv_P_propose (tm_8 hb) rfl rfl (c_P_propose hb hi (by exact hc)) rfl (Nat.le_of_ble_eq_true rfl) (by decide) ⟨Nat.le_refl _, Nat.le_refl _⟩ d_P_onPromise_108 ?_
              have hc : kI N (s_P_propose N L (s_R_becomeLeader N L (s_R_keepGreatest N L (s_R_addAnswer N L c i (c 7 0 1)) i ((s_R_addAnswer N L c i (c 7 0 1)) 7 0 6) ((s_R_addAnswer N L c i (c 7 0 1)) 7 0 5)) i) i) := kI_P_propose (L := L) hi hc
              refine sx_vret ok en (Nat.le_refl _) (Nat.le_refl _) d_P_onPromise_111 ?_
              exact ⟨rfl, (by first | rfl | simp only [s_P_onPromise, if_pos h5_0, if_pos h16_1, if_neg h27_2, if_pos h38_3, if_neg h80_4, if_pos h91_5])⟩
            · refine mr_aload_n ok (i := 0) d_P_onPromise_94 rfl rfl ?_
              refine mr_aload_n ok (i := 1) d_P_onPromise_95 rfl rfl ?_
              refine mr_aload_n ok (i := 1) d_P_onPromise_96 rfl rfl ?_
              refine cx_geti ok hB rfl fl_P_275 (tm_0 hb hi) rfl d_P_onPromise_97 ?_
              refine sx_cVv ok hB [_, _] rfl cb_P_192 cv_P_proposeNumber (tm_8 hb) rfl rfl (c_P_proposeNumber hb hi (by exact hc)) rfl (Nat.le_of_ble_eq_true rfl) (by decide) ⟨Nat.le_refl _, Nat.le_refl _⟩ d_P_onPromise_100 ?_
              have hc : kI N (s_P_proposeNumber N L (s_R_becomeLeader N L (s_R_keepGreatest N L (s_R_addAnswer N L c i (c 7 0 1)) i ((s_R_addAnswer N L c i (c 7 0 1)) 7 0 6) ((s_R_addAnswer N L c i (c 7 0 1)) 7 0 5)) i) i ((s_R_becomeLeader N L (s_R_keepGreatest N L (s_R_addAnswer N L c i (c 7 0 1)) i ((s_R_addAnswer N L c i (c 7 0 1)) 7 0 6) ((s_R_addAnswer N L c i (c 7 0 1)) 7 0 5)) i) 0 i 13)) := kI_P_proposeNumber (L := L) hi hc
              refine mr_goto ok 111 d_P_onPromise_103 (by decide) ?_
              refine sx_vret ok en (Nat.le_refl _) (Nat.le_refl _) d_P_onPromise_111 ?_
              exact ⟨rfl, (by first | rfl | simp only [s_P_onPromise, if_pos h5_0, if_pos h16_1, if_neg h27_2, if_pos h38_3, if_neg h80_4, if_neg h91_5])⟩
def s_P_onAccept (N L : Nat) (c : sh_S) (i : Nat) : sh_S := (if (c 1 i 2) < (c 7 0 4) then (if (v_R_isNext N L c i (c 7 0 4)) = 0 then (let c11 := s_P_ask N L c i (c 7 0 1); c11) else (if (c 7 0 3) < (c 0 i 4) then (let c1 := s_P_deny N L c i (c 7 0 1); c1) else (let c2 := sU c 0 i 4 (c 7 0 3); (if (c2 0 i 7) = 1 then (let c3 := s_R_becomeFollower N L c2 i; (let c4 := s_R_accept N L c3 i (c3 7 0 3) (c3 7 0 5); (let c5 := s_F_send N L c4 4 (nI i) (c4 7 0 1) (c4 7 0 3) (c4 7 0 4) 0 0; c5))) else (if (c2 0 i 8) = (c2 7 0 3) then (let c6 := s_R_accept N L c2 i (c2 7 0 3) (c2 7 0 5); (let c7 := s_F_send N L c6 4 (nI i) (c6 7 0 1) (c6 7 0 3) (c6 7 0 4) 0 0; c7)) else (let c8 := s_R_becomeFollower N L c2 i; (let c9 := s_R_accept N L c8 i (c8 7 0 3) (c8 7 0 5); (let c10 := s_F_send N L c9 4 (nI i) (c9 7 0 1) (c9 7 0 3) (c9 7 0 4) 0 0; c10)))))))) else (let c12 := s_P_help N L c i (c 7 0 1) (c 7 0 4); c12))
theorem kI_P_onAccept {N L : Nat} {c : sh_S} {i : Nat} (hi : i < N) (hc : kI N c) : kI N (s_P_onAccept N L c i) := by
  unfold s_P_onAccept
  try dsimp only
  refine kI_ite (fun _ => ?_) (fun _ => ?_)
  · refine kI_ite (fun _ => ?_) (fun _ => ?_)
    · exact (kI_P_ask (L := L) hi hc)
    · refine kI_ite (fun _ => ?_) (fun _ => ?_)
      · exact (kI_P_deny (L := L) hi hc)
      · refine kI_ite (fun _ => ?_) (fun _ => ?_)
        · exact (kI_F_send (L := L) hc)
        · refine kI_ite (fun _ => ?_) (fun _ => ?_)
          · exact (kI_F_send (L := L) hc)
          · exact (kI_F_send (L := L) hc)
  · exact (kI_P_help (L := L) hi hc)
set_option maxHeartbeats 4000000 in
set_option maxRecDepth 100000 in
theorem c_P_onAccept {B : sh_B} {Z : mx_Z} {N L : Nat} {cI cR cZ : ClassId} (hb : wB B Z N L cI cR cZ) {c r : sh_S} {i : Nat} (hi : i < N) (hc : kI N c) : sc B Z y_P_onAccept b_P_onAccept 3 none (rmm 5 107) [.ref (B.2.1 8 0), .ref (B.2.1 0 i), .ref (B.2.1 7 0)] (jn c r) (qe none (jn (s_P_onAccept N L c i) r)) := by
  refine ct_of (by decide) (Nat.le_of_ble_eq_true rfl) (cat_of rfl) ?_
  intro X ok en _
  have hB := hb.1
  refine mr_lv [(0, .ref (B.2.1 8 0)), (1, .ref (B.2.1 0 i)), (2, .ref (B.2.1 7 0))] ⟨rfl, rfl, rfl, trivial⟩ ?_
  refine mr_aload_n ok (i := 2) d_P_onAccept_0 rfl rfl ?_
  refine cx_geti ok hB rfl fl_P_225 (tm_7 hb) rfl d_P_onAccept_1 ?_
  refine mr_aload_n ok (i := 1) d_P_onAccept_4 rfl rfl ?_
  refine sx_getr ok hB fl_P_117 (tm_0 hb hi) rfl d_P_onAccept_5 ?_
  refine cx_geti ok hB rfl fl_P_121 (tm_1 hb hi) rfl d_P_onAccept_8 ?_
  refine mr_icmp_gt ok 30 d_P_onAccept_11 (by decide) (fun h11_0 => ?_) (fun h11_0 => ?_)
  · refine mr_aload_n ok (i := 1) d_P_onAccept_30 rfl rfl ?_
    refine mr_aload_n ok (i := 2) d_P_onAccept_31 rfl rfl ?_
    refine cx_geti ok hB rfl fl_P_225 (tm_7 hb) rfl d_P_onAccept_32 ?_
    refine sx_cVi ok hB [_] rfl cb_P_245 cv_R_isNext (tm_0 hb hi) rfl rfl (c_R_isNext hb hi) rfl (Nat.le_of_ble_eq_true rfl) (by decide) ⟨Nat.le_refl _, Nat.le_refl _⟩ d_P_onAccept_35 ?_
    refine mr_if_ne ok 53 d_P_onAccept_38 (by decide) (fun h38_1 => ?_) (fun h38_1 => ?_)
    · refine mr_aload_n ok (i := 2) d_P_onAccept_53 rfl rfl ?_
      refine cx_geti ok hB rfl fl_P_198 (tm_7 hb) rfl d_P_onAccept_54 ?_
      refine mr_aload_n ok (i := 1) d_P_onAccept_57 rfl rfl ?_
      refine cx_geti ok hB rfl fl_P_133 (tm_0 hb hi) rfl d_P_onAccept_58 ?_
      refine mr_icmp_lt ok 136 d_P_onAccept_61 (by decide) (fun h61_2 => ?_) (fun h61_2 => ?_)
      · refine mr_aload_n ok (i := 0) d_P_onAccept_136 rfl rfl ?_
        refine mr_aload_n ok (i := 1) d_P_onAccept_137 rfl rfl ?_
        refine mr_aload_n ok (i := 2) d_P_onAccept_138 rfl rfl ?_
        refine cx_geti ok hB rfl fl_P_228 (tm_7 hb) rfl d_P_onAccept_139 ?_
        refine sx_cVv ok hB [_, _] rfl cb_P_241 cv_P_deny (tm_8 hb) rfl rfl (c_P_deny hb hi (by exact hc)) rfl (Nat.le_of_ble_eq_true rfl) (by decide) ⟨Nat.le_refl _, Nat.le_refl _⟩ d_P_onAccept_142 ?_
        have hc : kI N (s_P_deny N L c i (c 7 0 1)) := kI_P_deny (L := L) hi hc
        refine sx_vret ok en (Nat.le_refl _) (Nat.le_refl _) d_P_onAccept_145 ?_
        exact ⟨rfl, (by first | rfl | simp only [s_P_onAccept, if_pos h11_0, if_neg h38_1, if_pos h61_2])⟩
      · refine mr_aload_n ok (i := 1) d_P_onAccept_64 rfl rfl ?_
        refine mr_aload_n ok (i := 2) d_P_onAccept_65 rfl rfl ?_
        refine cx_geti ok hB rfl fl_P_198 (tm_7 hb) rfl d_P_onAccept_66 ?_
        refine cx_put ok hB rfl fw_P_133 (tm_0 hb hi) rfl rfl rfl d_P_onAccept_69 ?_
        refine mr_aload_n ok (i := 1) d_P_onAccept_72 rfl rfl ?_
        refine cx_geti ok hB rfl fl_P_66 (tm_0 hb hi) rfl d_P_onAccept_73 ?_
        refine mr_iconst ok 1 d_P_onAccept_76 (by decide) ?_
        refine mr_icmp_eq ok 91 d_P_onAccept_77 (by decide) (fun h77_3 => ?_) (fun h77_3 => ?_)
        · refine mr_aload_n ok (i := 1) d_P_onAccept_91 rfl rfl ?_
          refine sx_cVv ok hB [] rfl cb_P_235 cv_R_becomeFollower (tm_0 hb hi) rfl rfl (c_R_becomeFollower hb hi) rfl (Nat.le_of_ble_eq_true rfl) (by decide) ⟨Nat.le_refl _, Nat.le_refl _⟩ d_P_onAccept_92 ?_
          refine mr_aload_n ok (i := 1) d_P_onAccept_95 rfl rfl ?_
          refine mr_aload_n ok (i := 2) d_P_onAccept_96 rfl rfl ?_
          refine cx_geti ok hB rfl fl_P_198 (tm_7 hb) rfl d_P_onAccept_97 ?_
          refine mr_aload_n ok (i := 2) d_P_onAccept_100 rfl rfl ?_
          refine cx_geti ok hB rfl fl_P_257 (tm_7 hb) rfl d_P_onAccept_101 ?_
          refine sx_cVv ok hB [_, _] rfl cb_P_278 cv_R_accept (tm_0 hb hi) rfl rfl (c_R_accept hb hi) rfl (Nat.le_of_ble_eq_true rfl) (by decide) ⟨Nat.le_refl _, Nat.le_refl _⟩ d_P_onAccept_104 ?_
          refine mr_aload_n ok (i := 0) d_P_onAccept_107 rfl rfl ?_
          refine sx_getr ok hB fl_P_37 (tm_8 hb) rfl d_P_onAccept_108 ?_
          refine mr_iconst ok 4 d_P_onAccept_111 (by decide) ?_
          refine mr_aload_n ok (i := 1) d_P_onAccept_112 rfl rfl ?_
          refine sx_getr ok hB fl_P_82 (tm_0 hb hi) rfl d_P_onAccept_113 ?_
          refine mr_aload_n ok (i := 2) d_P_onAccept_116 rfl rfl ?_
          refine cx_geti ok hB rfl fl_P_228 (tm_7 hb) rfl d_P_onAccept_117 ?_
          refine mr_aload_n ok (i := 2) d_P_onAccept_120 rfl rfl ?_
          refine cx_geti ok hB rfl fl_P_198 (tm_7 hb) rfl d_P_onAccept_121 ?_
          refine mr_aload_n ok (i := 2) d_P_onAccept_124 rfl rfl ?_
          refine cx_geti ok hB rfl fl_P_225 (tm_7 hb) rfl d_P_onAccept_125 ?_
          refine mr_iconst ok 0 d_P_onAccept_128 (by decide) ?_
          refine mr_iconst ok 0 d_P_onAccept_129 (by decide) ?_
          refine sx_cVv ok hB [_, _, _, _, _, _, _] rfl cb_P_281 cv_F_send (tm_5 hb) rfl rfl (c_F_send hb (by exact hc.1)) rfl (Nat.le_of_ble_eq_true rfl) (by decide) ⟨Nat.le_refl _, Nat.le_refl _⟩ d_P_onAccept_130 ?_
          have hc : kI N (s_F_send N L (s_R_accept N L (s_R_becomeFollower N L (sU c 0 i 4 (c 7 0 3)) i) i ((s_R_becomeFollower N L (sU c 0 i 4 (c 7 0 3)) i) 7 0 3) ((s_R_becomeFollower N L (sU c 0 i 4 (c 7 0 3)) i) 7 0 5)) 4 (nI i) ((s_R_accept N L (s_R_becomeFollower N L (sU c 0 i 4 (c 7 0 3)) i) i ((s_R_becomeFollower N L (sU c 0 i 4 (c 7 0 3)) i) 7 0 3) ((s_R_becomeFollower N L (sU c 0 i 4 (c 7 0 3)) i) 7 0 5)) 7 0 1) ((s_R_accept N L (s_R_becomeFollower N L (sU c 0 i 4 (c 7 0 3)) i) i ((s_R_becomeFollower N L (sU c 0 i 4 (c 7 0 3)) i) 7 0 3) ((s_R_becomeFollower N L (sU c 0 i 4 (c 7 0 3)) i) 7 0 5)) 7 0 3) ((s_R_accept N L (s_R_becomeFollower N L (sU c 0 i 4 (c 7 0 3)) i) i ((s_R_becomeFollower N L (sU c 0 i 4 (c 7 0 3)) i) 7 0 3) ((s_R_becomeFollower N L (sU c 0 i 4 (c 7 0 3)) i) 7 0 5)) 7 0 4) 0 0) := kI_F_send (L := L) hc
          refine mr_goto ok 145 d_P_onAccept_133 (by decide) ?_
          refine sx_vret ok en (Nat.le_refl _) (Nat.le_refl _) d_P_onAccept_145 ?_
          exact ⟨rfl, (by first | rfl | simp only [s_P_onAccept, if_pos h11_0, if_neg h38_1, if_neg h61_2, if_pos h77_3])⟩
        · refine mr_aload_n ok (i := 1) d_P_onAccept_80 rfl rfl ?_
          refine cx_geti ok hB rfl fl_P_244 (tm_0 hb hi) rfl d_P_onAccept_81 ?_
          refine mr_aload_n ok (i := 2) d_P_onAccept_84 rfl rfl ?_
          refine cx_geti ok hB rfl fl_P_198 (tm_7 hb) rfl d_P_onAccept_85 ?_
          refine mr_icmp_eq ok 95 d_P_onAccept_88 (by decide) (fun h88_4 => ?_) (fun h88_4 => ?_)
          · refine mr_aload_n ok (i := 1) d_P_onAccept_95 rfl rfl ?_
            refine mr_aload_n ok (i := 2) d_P_onAccept_96 rfl rfl ?_
            refine cx_geti ok hB rfl fl_P_198 (tm_7 hb) rfl d_P_onAccept_97 ?_
            refine mr_aload_n ok (i := 2) d_P_onAccept_100 rfl rfl ?_
            refine cx_geti ok hB rfl fl_P_257 (tm_7 hb) rfl d_P_onAccept_101 ?_
            refine sx_cVv ok hB [_, _] rfl cb_P_278 cv_R_accept (tm_0 hb hi) rfl rfl (c_R_accept hb hi) rfl (Nat.le_of_ble_eq_true rfl) (by decide) ⟨Nat.le_refl _, Nat.le_refl _⟩ d_P_onAccept_104 ?_
            refine mr_aload_n ok (i := 0) d_P_onAccept_107 rfl rfl ?_
            refine sx_getr ok hB fl_P_37 (tm_8 hb) rfl d_P_onAccept_108 ?_
            refine mr_iconst ok 4 d_P_onAccept_111 (by decide) ?_
            refine mr_aload_n ok (i := 1) d_P_onAccept_112 rfl rfl ?_
            refine sx_getr ok hB fl_P_82 (tm_0 hb hi) rfl d_P_onAccept_113 ?_
            refine mr_aload_n ok (i := 2) d_P_onAccept_116 rfl rfl ?_
            refine cx_geti ok hB rfl fl_P_228 (tm_7 hb) rfl d_P_onAccept_117 ?_
            refine mr_aload_n ok (i := 2) d_P_onAccept_120 rfl rfl ?_
            refine cx_geti ok hB rfl fl_P_198 (tm_7 hb) rfl d_P_onAccept_121 ?_
            refine mr_aload_n ok (i := 2) d_P_onAccept_124 rfl rfl ?_
            refine cx_geti ok hB rfl fl_P_225 (tm_7 hb) rfl d_P_onAccept_125 ?_
            refine mr_iconst ok 0 d_P_onAccept_128 (by decide) ?_
            refine mr_iconst ok 0 d_P_onAccept_129 (by decide) ?_
            refine sx_cVv ok hB [_, _, _, _, _, _, _] rfl cb_P_281 cv_F_send (tm_5 hb) rfl rfl (c_F_send hb (by exact hc.1)) rfl (Nat.le_of_ble_eq_true rfl) (by decide) ⟨Nat.le_refl _, Nat.le_refl _⟩ d_P_onAccept_130 ?_
            have hc : kI N (s_F_send N L (s_R_accept N L (sU c 0 i 4 (c 7 0 3)) i ((sU c 0 i 4 (c 7 0 3)) 7 0 3) ((sU c 0 i 4 (c 7 0 3)) 7 0 5)) 4 (nI i) ((s_R_accept N L (sU c 0 i 4 (c 7 0 3)) i ((sU c 0 i 4 (c 7 0 3)) 7 0 3) ((sU c 0 i 4 (c 7 0 3)) 7 0 5)) 7 0 1) ((s_R_accept N L (sU c 0 i 4 (c 7 0 3)) i ((sU c 0 i 4 (c 7 0 3)) 7 0 3) ((sU c 0 i 4 (c 7 0 3)) 7 0 5)) 7 0 3) ((s_R_accept N L (sU c 0 i 4 (c 7 0 3)) i ((sU c 0 i 4 (c 7 0 3)) 7 0 3) ((sU c 0 i 4 (c 7 0 3)) 7 0 5)) 7 0 4) 0 0) := kI_F_send (L := L) hc
            refine mr_goto ok 145 d_P_onAccept_133 (by decide) ?_
            refine sx_vret ok en (Nat.le_refl _) (Nat.le_refl _) d_P_onAccept_145 ?_
            exact ⟨rfl, (by first | rfl | simp only [s_P_onAccept, if_pos h11_0, if_neg h38_1, if_neg h61_2, if_neg h77_3, if_pos h88_4])⟩
          · refine mr_aload_n ok (i := 1) d_P_onAccept_91 rfl rfl ?_
            refine sx_cVv ok hB [] rfl cb_P_235 cv_R_becomeFollower (tm_0 hb hi) rfl rfl (c_R_becomeFollower hb hi) rfl (Nat.le_of_ble_eq_true rfl) (by decide) ⟨Nat.le_refl _, Nat.le_refl _⟩ d_P_onAccept_92 ?_
            refine mr_aload_n ok (i := 1) d_P_onAccept_95 rfl rfl ?_
            refine mr_aload_n ok (i := 2) d_P_onAccept_96 rfl rfl ?_
            refine cx_geti ok hB rfl fl_P_198 (tm_7 hb) rfl d_P_onAccept_97 ?_
            refine mr_aload_n ok (i := 2) d_P_onAccept_100 rfl rfl ?_
            refine cx_geti ok hB rfl fl_P_257 (tm_7 hb) rfl d_P_onAccept_101 ?_
            refine sx_cVv ok hB [_, _] rfl cb_P_278 cv_R_accept (tm_0 hb hi) rfl rfl (c_R_accept hb hi) rfl (Nat.le_of_ble_eq_true rfl) (by decide) ⟨Nat.le_refl _, Nat.le_refl _⟩ d_P_onAccept_104 ?_
            refine mr_aload_n ok (i := 0) d_P_onAccept_107 rfl rfl ?_
            refine sx_getr ok hB fl_P_37 (tm_8 hb) rfl d_P_onAccept_108 ?_
            refine mr_iconst ok 4 d_P_onAccept_111 (by decide) ?_
            refine mr_aload_n ok (i := 1) d_P_onAccept_112 rfl rfl ?_
            refine sx_getr ok hB fl_P_82 (tm_0 hb hi) rfl d_P_onAccept_113 ?_
            refine mr_aload_n ok (i := 2) d_P_onAccept_116 rfl rfl ?_
            refine cx_geti ok hB rfl fl_P_228 (tm_7 hb) rfl d_P_onAccept_117 ?_
            refine mr_aload_n ok (i := 2) d_P_onAccept_120 rfl rfl ?_
            refine cx_geti ok hB rfl fl_P_198 (tm_7 hb) rfl d_P_onAccept_121 ?_
            refine mr_aload_n ok (i := 2) d_P_onAccept_124 rfl rfl ?_
            refine cx_geti ok hB rfl fl_P_225 (tm_7 hb) rfl d_P_onAccept_125 ?_
            refine mr_iconst ok 0 d_P_onAccept_128 (by decide) ?_
            refine mr_iconst ok 0 d_P_onAccept_129 (by decide) ?_
            refine sx_cVv ok hB [_, _, _, _, _, _, _] rfl cb_P_281 cv_F_send (tm_5 hb) rfl rfl (c_F_send hb (by exact hc.1)) rfl (Nat.le_of_ble_eq_true rfl) (by decide) ⟨Nat.le_refl _, Nat.le_refl _⟩ d_P_onAccept_130 ?_
            have hc : kI N (s_F_send N L (s_R_accept N L (s_R_becomeFollower N L (sU c 0 i 4 (c 7 0 3)) i) i ((s_R_becomeFollower N L (sU c 0 i 4 (c 7 0 3)) i) 7 0 3) ((s_R_becomeFollower N L (sU c 0 i 4 (c 7 0 3)) i) 7 0 5)) 4 (nI i) ((s_R_accept N L (s_R_becomeFollower N L (sU c 0 i 4 (c 7 0 3)) i) i ((s_R_becomeFollower N L (sU c 0 i 4 (c 7 0 3)) i) 7 0 3) ((s_R_becomeFollower N L (sU c 0 i 4 (c 7 0 3)) i) 7 0 5)) 7 0 1) ((s_R_accept N L (s_R_becomeFollower N L (sU c 0 i 4 (c 7 0 3)) i) i ((s_R_becomeFollower N L (sU c 0 i 4 (c 7 0 3)) i) 7 0 3) ((s_R_becomeFollower N L (sU c 0 i 4 (c 7 0 3)) i) 7 0 5)) 7 0 3) ((s_R_accept N L (s_R_becomeFollower N L (sU c 0 i 4 (c 7 0 3)) i) i ((s_R_becomeFollower N L (sU c 0 i 4 (c 7 0 3)) i) 7 0 3) ((s_R_becomeFollower N L (sU c 0 i 4 (c 7 0 3)) i) 7 0 5)) 7 0 4) 0 0) := kI_F_send (L := L) hc
            refine mr_goto ok 145 d_P_onAccept_133 (by decide) ?_
            refine sx_vret ok en (Nat.le_refl _) (Nat.le_refl _) d_P_onAccept_145 ?_
            exact ⟨rfl, (by first | rfl | simp only [s_P_onAccept, if_pos h11_0, if_neg h38_1, if_neg h61_2, if_neg h77_3, if_neg h88_4])⟩
    · refine mr_aload_n ok (i := 0) d_P_onAccept_41 rfl rfl ?_
      refine mr_aload_n ok (i := 1) d_P_onAccept_42 rfl rfl ?_
      refine mr_aload_n ok (i := 2) d_P_onAccept_43 rfl rfl ?_
      refine cx_geti ok hB rfl fl_P_228 (tm_7 hb) rfl d_P_onAccept_44 ?_
      refine sx_cVv ok hB [_, _] rfl cb_P_85 cv_P_ask (tm_8 hb) rfl rfl (c_P_ask hb hi (by exact hc)) rfl (Nat.le_of_ble_eq_true rfl) (by decide) ⟨Nat.le_refl _, Nat.le_refl _⟩ d_P_onAccept_47 ?_
      have hc : kI N (s_P_ask N L c i (c 7 0 1)) := kI_P_ask (L := L) hi hc
      refine mr_goto ok 145 d_P_onAccept_50 (by decide) ?_
      refine sx_vret ok en (Nat.le_refl _) (Nat.le_refl _) d_P_onAccept_145 ?_
      exact ⟨rfl, (by first | rfl | simp only [s_P_onAccept, if_pos h11_0, if_pos h38_1])⟩
  · refine mr_aload_n ok (i := 0) d_P_onAccept_14 rfl rfl ?_
    refine mr_aload_n ok (i := 1) d_P_onAccept_15 rfl rfl ?_
    refine mr_aload_n ok (i := 2) d_P_onAccept_16 rfl rfl ?_
    refine cx_geti ok hB rfl fl_P_228 (tm_7 hb) rfl d_P_onAccept_17 ?_
    refine mr_aload_n ok (i := 2) d_P_onAccept_20 rfl rfl ?_
    refine cx_geti ok hB rfl fl_P_225 (tm_7 hb) rfl d_P_onAccept_21 ?_
    refine sx_cVv ok hB [_, _, _] rfl cb_P_231 cv_P_help (tm_8 hb) rfl rfl (c_P_help hb hi (by exact hc)) rfl (Nat.le_of_ble_eq_true rfl) (by decide) ⟨Nat.le_refl _, Nat.le_refl _⟩ d_P_onAccept_24 ?_
    have hc : kI N (s_P_help N L c i (c 7 0 1) (c 7 0 4)) := kI_P_help (L := L) hi hc
    refine mr_goto ok 145 d_P_onAccept_27 (by decide) ?_
    refine sx_vret ok en (Nat.le_refl _) (Nat.le_refl _) d_P_onAccept_145 ?_
    exact ⟨rfl, (by first | rfl | simp only [s_P_onAccept, if_neg h11_0])⟩
def s_P_onAccepted (N L : Nat) (c : sh_S) (i : Nat) : sh_S := (if (c 0 i 7) = 2 then (if (c 0 i 8) = (c 7 0 3) then (if (c 0 i 10) = 0 then c else (if (v_R_isNext N L c i (c 7 0 4)) = 0 then c else (if (v_R_hasAnswer N L c i (c 7 0 1)) = 0 then (let c1 := s_R_addAnswer N L c i (c 7 0 1); (if (v_P_isMajority N L c1 (c1 0 i 9)) = 0 then c1 else (let c2 := s_P_sendToAll N L c1 5 (nI i) 0 (c1 7 0 4) (c1 0 i 10); (let c3 := s_R_learn N L c2 i (c1 0 i 10); (let c4 := s_P_propose N L c3 i; c4))))) else c))) else c) else c)
theorem kI_P_onAccepted {N L : Nat} {c : sh_S} {i : Nat} (hi : i < N) (hc : kI N c) : kI N (s_P_onAccepted N L c i) := by
  unfold s_P_onAccepted
  try dsimp only
  refine kI_ite (fun _ => ?_) (fun _ => ?_)
  · refine kI_ite (fun _ => ?_) (fun _ => ?_)
    · refine kI_ite (fun _ => ?_) (fun _ => ?_)
      · exact hc
      · refine kI_ite (fun _ => ?_) (fun _ => ?_)
        · exact hc
        · refine kI_ite (fun _ => ?_) (fun _ => ?_)
          · refine kI_ite (fun _ => ?_) (fun _ => ?_)
            · exact hc
            · exact (kI_P_propose (L := L) hi (kI_R_learn (L := L) hi (kI_P_sendToAll (L := L) hc)))
          · exact hc
    · exact hc
  · exact hc
set_option maxHeartbeats 4000000 in
set_option maxRecDepth 100000 in
theorem c_P_onAccepted {B : sh_B} {Z : mx_Z} {N L : Nat} {cI cR cZ : ClassId} (hb : wB B Z N L cI cR cZ) {c r : sh_S} {i : Nat} (hi : i < N) (hc : kI N c) : sc B Z y_P_onAccepted b_P_onAccepted 5 none (rmm 5 119) [.ref (B.2.1 8 0), .ref (B.2.1 0 i), .ref (B.2.1 7 0)] (jn c r) (qe none (jn (s_P_onAccepted N L c i) r)) := by
  refine ct_of (by decide) (Nat.le_of_ble_eq_true rfl) (cat_of rfl) ?_
  intro X ok en _
  have hB := hb.1
  refine mr_lv [(0, .ref (B.2.1 8 0)), (1, .ref (B.2.1 0 i)), (2, .ref (B.2.1 7 0))] ⟨rfl, rfl, rfl, trivial⟩ ?_
  refine mr_aload_n ok (i := 1) d_P_onAccepted_0 rfl rfl ?_
  refine cx_geti ok hB rfl fl_P_66 (tm_0 hb hi) rfl d_P_onAccepted_1 ?_
  refine mr_iconst ok 2 d_P_onAccepted_4 (by decide) ?_
  refine mr_icmp_ne ok 52 d_P_onAccepted_5 (by decide) (fun h5_0 => ?_) (fun h5_0 => ?_)
  · refine mr_iconst ok 0 d_P_onAccepted_52 (by decide) ?_
    refine mr_istore_n ok (i := 3) d_P_onAccepted_53 rfl (by decide) ?_
    refine mr_iload_n ok (i := 3) d_P_onAccepted_54 rfl rfl ?_
    refine mr_if_ne ok 59 d_P_onAccepted_55 (by decide) (fun h => absurd h (by decide)) (fun _ => ?_)
    refine sx_vret ok en (Nat.le_refl _) (Nat.le_refl _) d_P_onAccepted_58 ?_
    exact ⟨rfl, (by first | rfl | simp only [s_P_onAccepted, if_neg h5_0])⟩
  · refine mr_aload_n ok (i := 1) d_P_onAccepted_8 rfl rfl ?_
    refine cx_geti ok hB rfl fl_P_244 (tm_0 hb hi) rfl d_P_onAccepted_9 ?_
    refine mr_aload_n ok (i := 2) d_P_onAccepted_12 rfl rfl ?_
    refine cx_geti ok hB rfl fl_P_198 (tm_7 hb) rfl d_P_onAccepted_13 ?_
    refine mr_icmp_ne ok 52 d_P_onAccepted_16 (by decide) (fun h16_1 => ?_) (fun h16_1 => ?_)
    · refine mr_iconst ok 0 d_P_onAccepted_52 (by decide) ?_
      refine mr_istore_n ok (i := 3) d_P_onAccepted_53 rfl (by decide) ?_
      refine mr_iload_n ok (i := 3) d_P_onAccepted_54 rfl rfl ?_
      refine mr_if_ne ok 59 d_P_onAccepted_55 (by decide) (fun h => absurd h (by decide)) (fun _ => ?_)
      refine sx_vret ok en (Nat.le_refl _) (Nat.le_refl _) d_P_onAccepted_58 ?_
      exact ⟨rfl, (by first | rfl | simp only [s_P_onAccepted, if_pos h5_0, if_neg h16_1])⟩
    · refine mr_aload_n ok (i := 1) d_P_onAccepted_19 rfl rfl ?_
      refine cx_geti ok hB rfl fl_P_173 (tm_0 hb hi) rfl d_P_onAccepted_20 ?_
      refine mr_if_eq ok 52 d_P_onAccepted_23 (by decide) (fun h23_2 => ?_) (fun h23_2 => ?_)
      · refine mr_iconst ok 0 d_P_onAccepted_52 (by decide) ?_
        refine mr_istore_n ok (i := 3) d_P_onAccepted_53 rfl (by decide) ?_
        refine mr_iload_n ok (i := 3) d_P_onAccepted_54 rfl rfl ?_
        refine mr_if_ne ok 59 d_P_onAccepted_55 (by decide) (fun h => absurd h (by decide)) (fun _ => ?_)
        refine sx_vret ok en (Nat.le_refl _) (Nat.le_refl _) d_P_onAccepted_58 ?_
        exact ⟨rfl, (by first | rfl | simp only [s_P_onAccepted, if_pos h5_0, if_pos h16_1, if_pos h23_2])⟩
      · refine mr_aload_n ok (i := 1) d_P_onAccepted_26 rfl rfl ?_
        refine mr_aload_n ok (i := 2) d_P_onAccepted_27 rfl rfl ?_
        refine cx_geti ok hB rfl fl_P_225 (tm_7 hb) rfl d_P_onAccepted_28 ?_
        refine sx_cVi ok hB [_] rfl cb_P_245 cv_R_isNext (tm_0 hb hi) rfl rfl (c_R_isNext hb hi) rfl (Nat.le_of_ble_eq_true rfl) (by decide) ⟨Nat.le_refl _, Nat.le_refl _⟩ d_P_onAccepted_31 ?_
        refine mr_if_eq ok 52 d_P_onAccepted_34 (by decide) (fun h34_3 => ?_) (fun h34_3 => ?_)
        · refine mr_iconst ok 0 d_P_onAccepted_52 (by decide) ?_
          refine mr_istore_n ok (i := 3) d_P_onAccepted_53 rfl (by decide) ?_
          refine mr_iload_n ok (i := 3) d_P_onAccepted_54 rfl rfl ?_
          refine mr_if_ne ok 59 d_P_onAccepted_55 (by decide) (fun h => absurd h (by decide)) (fun _ => ?_)
          refine sx_vret ok en (Nat.le_refl _) (Nat.le_refl _) d_P_onAccepted_58 ?_
          exact ⟨rfl, (by first | rfl | simp only [s_P_onAccepted, if_pos h5_0, if_pos h16_1, if_neg h23_2, if_pos h34_3])⟩
        · refine mr_aload_n ok (i := 1) d_P_onAccepted_37 rfl rfl ?_
          refine mr_aload_n ok (i := 2) d_P_onAccepted_38 rfl rfl ?_
          refine cx_geti ok hB rfl fl_P_228 (tm_7 hb) rfl d_P_onAccepted_39 ?_
          refine sx_cVi ok hB [_] rfl cb_P_248 cv_R_hasAnswer (tm_0 hb hi) rfl rfl (c_R_hasAnswer hb hi) rfl (Nat.le_of_ble_eq_true rfl) (by decide) ⟨Nat.le_refl _, Nat.le_refl _⟩ d_P_onAccepted_42 ?_
          refine mr_if_ne ok 52 d_P_onAccepted_45 (by decide) (fun h45_4 => ?_) (fun h45_4 => ?_)
          · refine mr_iconst ok 0 d_P_onAccepted_52 (by decide) ?_
            refine mr_istore_n ok (i := 3) d_P_onAccepted_53 rfl (by decide) ?_
            refine mr_iload_n ok (i := 3) d_P_onAccepted_54 rfl rfl ?_
            refine mr_if_ne ok 59 d_P_onAccepted_55 (by decide) (fun h => absurd h (by decide)) (fun _ => ?_)
            refine sx_vret ok en (Nat.le_refl _) (Nat.le_refl _) d_P_onAccepted_58 ?_
            exact ⟨rfl, (by first | rfl | simp only [s_P_onAccepted, if_pos h5_0, if_pos h16_1, if_neg h23_2, if_neg h34_3, if_neg h45_4])⟩
          · refine mr_iconst ok 1 d_P_onAccepted_48 (by decide) ?_
            refine mr_goto ok 53 d_P_onAccepted_49 (by decide) ?_
            refine mr_istore_n ok (i := 3) d_P_onAccepted_53 rfl (by decide) ?_
            refine mr_iload_n ok (i := 3) d_P_onAccepted_54 rfl rfl ?_
            refine mr_if_ne ok 59 d_P_onAccepted_55 (by decide) (fun _ => ?_) (fun h => absurd h (by decide))
            refine mr_aload_n ok (i := 1) d_P_onAccepted_59 rfl rfl ?_
            refine mr_aload_n ok (i := 2) d_P_onAccepted_60 rfl rfl ?_
            refine cx_geti ok hB rfl fl_P_228 (tm_7 hb) rfl d_P_onAccepted_61 ?_
            refine sx_cVv ok hB [_] rfl cb_P_251 cv_R_addAnswer (tm_0 hb hi) rfl rfl (c_R_addAnswer hb hi) rfl (Nat.le_of_ble_eq_true rfl) (by decide) ⟨Nat.le_refl _, Nat.le_refl _⟩ d_P_onAccepted_64 ?_
            refine mr_aload_n ok (i := 0) d_P_onAccepted_67 rfl rfl ?_
            refine mr_aload_n ok (i := 1) d_P_onAccepted_68 rfl rfl ?_
            refine cx_geti ok hB rfl fl_P_263 (tm_0 hb hi) rfl d_P_onAccepted_69 ?_
            refine sx_cVi ok hB [_] rfl cb_P_266 cv_P_isMajority (tm_8 hb) rfl rfl (c_P_isMajority hb) rfl (Nat.le_of_ble_eq_true rfl) (by decide) ⟨Nat.le_refl _, Nat.le_refl _⟩ d_P_onAccepted_72 ?_
            refine mr_if_eq ok 111 d_P_onAccepted_75 (by decide) (fun h75_5 => ?_) (fun h75_5 => ?_)
            · refine sx_vret ok en (Nat.le_refl _) (Nat.le_refl _) d_P_onAccepted_111 ?_
              exact ⟨rfl, (by first | rfl | simp only [s_P_onAccepted, if_pos h5_0, if_pos h16_1, if_neg h23_2, if_neg h34_3, if_pos h45_4, if_pos h75_5])⟩
            · refine mr_aload_n ok (i := 1) d_P_onAccepted_78 rfl rfl ?_
              refine cx_geti ok hB rfl fl_P_173 (tm_0 hb hi) rfl d_P_onAccepted_79 ?_
              refine mr_istore ok d_P_onAccepted_82 (by decide) ?_
              refine mr_aload_n ok (i := 0) d_P_onAccepted_84 rfl rfl ?_
              refine mr_iconst ok 5 d_P_onAccepted_85 (by decide) ?_
              refine mr_aload_n ok (i := 1) d_P_onAccepted_86 rfl rfl ?_
              refine sx_getr ok hB fl_P_82 (tm_0 hb hi) rfl d_P_onAccepted_87 ?_
              refine mr_iconst ok 0 d_P_onAccepted_90 (by decide) ?_
              refine mr_aload_n ok (i := 2) d_P_onAccepted_91 rfl rfl ?_
              refine cx_geti ok hB rfl fl_P_225 (tm_7 hb) rfl d_P_onAccepted_92 ?_
              refine mr_iload ok d_P_onAccepted_95 rfl ?_
              refine sx_cVv ok hB [_, _, _, _, _] rfl cb_P_285 cv_P_sendToAll (tm_8 hb) rfl rfl (c_P_sendToAll hb (by exact hc)) rfl (Nat.le_of_ble_eq_true rfl) (by decide) ⟨Nat.le_refl _, Nat.le_refl _⟩ d_P_onAccepted_97 ?_
              have hc : kI N (s_P_sendToAll N L (s_R_addAnswer N L c i (c 7 0 1)) 5 (nI i) 0 ((s_R_addAnswer N L c i (c 7 0 1)) 7 0 4) ((s_R_addAnswer N L c i (c 7 0 1)) 0 i 10)) := kI_P_sendToAll (L := L) hc
              refine mr_aload_n ok (i := 1) d_P_onAccepted_100 rfl rfl ?_
              refine mr_iload ok d_P_onAccepted_101 rfl ?_
              refine sx_cVv ok hB [_] rfl cb_P_289 cv_R_learn (tm_0 hb hi) rfl rfl (c_R_learn hb hi (by exact hc.2 _ hi)) rfl (Nat.le_of_ble_eq_true rfl) (by decide) ⟨Nat.le_refl _, Nat.le_refl _⟩ d_P_onAccepted_103 ?_
              have hc : kI N (s_R_learn N L (s_P_sendToAll N L (s_R_addAnswer N L c i (c 7 0 1)) 5 (nI i) 0 ((s_R_addAnswer N L c i (c 7 0 1)) 7 0 4) ((s_R_addAnswer N L c i (c 7 0 1)) 0 i 10)) i ((s_R_addAnswer N L c i (c 7 0 1)) 0 i 10)) := kI_R_learn (L := L) hi hc
              refine mr_aload_n ok (i := 0) d_P_onAccepted_106 rfl rfl ?_
              refine mr_aload_n ok (i := 1) d_P_onAccepted_107 rfl rfl ?_
              refine sx_cVv ok hB [_] rfl cb_P_179 cv_P_propose (tm_8 hb) rfl rfl (c_P_propose hb hi (by exact hc)) rfl (Nat.le_of_ble_eq_true rfl) (by decide) ⟨Nat.le_refl _, Nat.le_refl _⟩ d_P_onAccepted_108 ?_
              have hc : kI N (s_P_propose N L (s_R_learn N L (s_P_sendToAll N L (s_R_addAnswer N L c i (c 7 0 1)) 5 (nI i) 0 ((s_R_addAnswer N L c i (c 7 0 1)) 7 0 4) ((s_R_addAnswer N L c i (c 7 0 1)) 0 i 10)) i ((s_R_addAnswer N L c i (c 7 0 1)) 0 i 10)) i) := kI_P_propose (L := L) hi hc
              refine sx_vret ok en (Nat.le_refl _) (Nat.le_refl _) d_P_onAccepted_111 ?_
              exact ⟨rfl, (by first | rfl | simp only [s_P_onAccepted, if_pos h5_0, if_pos h16_1, if_neg h23_2, if_neg h34_3, if_pos h45_4, if_neg h75_5])⟩
def s_P_onChosen (N L : Nat) (c : sh_S) (i : Nat) : sh_S := (if (v_R_isNext N L c i (c 7 0 4)) = 0 then (if (c 7 0 4) ≤ (c 1 i 2) then c else (let c1 := s_P_ask N L c i (c 7 0 1); c1)) else (let c2 := s_R_learn N L c i (c 7 0 5); c2))
theorem kI_P_onChosen {N L : Nat} {c : sh_S} {i : Nat} (hi : i < N) (hc : kI N c) : kI N (s_P_onChosen N L c i) := by
  unfold s_P_onChosen
  try dsimp only
  refine kI_ite (fun _ => ?_) (fun _ => ?_)
  · refine kI_ite (fun _ => ?_) (fun _ => ?_)
    · exact hc
    · exact (kI_P_ask (L := L) hi hc)
  · exact (kI_R_learn (L := L) hi hc)
set_option maxHeartbeats 4000000 in
set_option maxRecDepth 100000 in
theorem c_P_onChosen {B : sh_B} {Z : mx_Z} {N L : Nat} {cI cR cZ : ClassId} (hb : wB B Z N L cI cR cZ) {c r : sh_S} {i : Nat} (hi : i < N) (hc : kI N c) : sc B Z y_P_onChosen b_P_onChosen 3 none (rmm 2 50) [.ref (B.2.1 8 0), .ref (B.2.1 0 i), .ref (B.2.1 7 0)] (jn c r) (qe none (jn (s_P_onChosen N L c i) r)) := by
  refine ct_of (by decide) (Nat.le_of_ble_eq_true rfl) (cat_of rfl) ?_
  intro X ok en _
  have hB := hb.1
  refine mr_lv [(0, .ref (B.2.1 8 0)), (1, .ref (B.2.1 0 i)), (2, .ref (B.2.1 7 0))] ⟨rfl, rfl, rfl, trivial⟩ ?_
  refine mr_aload_n ok (i := 1) d_P_onChosen_0 rfl rfl ?_
  refine mr_aload_n ok (i := 2) d_P_onChosen_1 rfl rfl ?_
  refine cx_geti ok hB rfl fl_P_225 (tm_7 hb) rfl d_P_onChosen_2 ?_
  refine sx_cVi ok hB [_] rfl cb_P_245 cv_R_isNext (tm_0 hb hi) rfl rfl (c_R_isNext hb hi) rfl (Nat.le_of_ble_eq_true rfl) (by decide) ⟨Nat.le_refl _, Nat.le_refl _⟩ d_P_onChosen_5 ?_
  refine mr_if_eq ok 22 d_P_onChosen_8 (by decide) (fun h8_0 => ?_) (fun h8_0 => ?_)
  · refine mr_aload_n ok (i := 2) d_P_onChosen_22 rfl rfl ?_
    refine cx_geti ok hB rfl fl_P_225 (tm_7 hb) rfl d_P_onChosen_23 ?_
    refine mr_aload_n ok (i := 1) d_P_onChosen_26 rfl rfl ?_
    refine sx_getr ok hB fl_P_117 (tm_0 hb hi) rfl d_P_onChosen_27 ?_
    refine cx_geti ok hB rfl fl_P_121 (tm_1 hb hi) rfl d_P_onChosen_30 ?_
    refine mr_icmp_le ok 45 d_P_onChosen_33 (by decide) (fun h33_1 => ?_) (fun h33_1 => ?_)
    · refine sx_vret ok en (Nat.le_refl _) (Nat.le_refl _) d_P_onChosen_45 ?_
      exact ⟨rfl, (by first | rfl | simp only [s_P_onChosen, if_pos h8_0, if_pos h33_1])⟩
    · refine mr_aload_n ok (i := 0) d_P_onChosen_36 rfl rfl ?_
      refine mr_aload_n ok (i := 1) d_P_onChosen_37 rfl rfl ?_
      refine mr_aload_n ok (i := 2) d_P_onChosen_38 rfl rfl ?_
      refine cx_geti ok hB rfl fl_P_228 (tm_7 hb) rfl d_P_onChosen_39 ?_
      refine sx_cVv ok hB [_, _] rfl cb_P_85 cv_P_ask (tm_8 hb) rfl rfl (c_P_ask hb hi (by exact hc)) rfl (Nat.le_of_ble_eq_true rfl) (by decide) ⟨Nat.le_refl _, Nat.le_refl _⟩ d_P_onChosen_42 ?_
      have hc : kI N (s_P_ask N L c i (c 7 0 1)) := kI_P_ask (L := L) hi hc
      refine sx_vret ok en (Nat.le_refl _) (Nat.le_refl _) d_P_onChosen_45 ?_
      exact ⟨rfl, (by first | rfl | simp only [s_P_onChosen, if_pos h8_0, if_neg h33_1])⟩
  · refine mr_aload_n ok (i := 1) d_P_onChosen_11 rfl rfl ?_
    refine mr_aload_n ok (i := 2) d_P_onChosen_12 rfl rfl ?_
    refine cx_geti ok hB rfl fl_P_257 (tm_7 hb) rfl d_P_onChosen_13 ?_
    refine sx_cVv ok hB [_] rfl cb_P_289 cv_R_learn (tm_0 hb hi) rfl rfl (c_R_learn hb hi (by exact hc.2 _ hi)) rfl (Nat.le_of_ble_eq_true rfl) (by decide) ⟨Nat.le_refl _, Nat.le_refl _⟩ d_P_onChosen_16 ?_
    have hc : kI N (s_R_learn N L c i (c 7 0 5)) := kI_R_learn (L := L) hi hc
    refine mr_goto ok 45 d_P_onChosen_19 (by decide) ?_
    refine sx_vret ok en (Nat.le_refl _) (Nat.le_refl _) d_P_onChosen_45 ?_
    exact ⟨rfl, (by first | rfl | simp only [s_P_onChosen, if_neg h8_0])⟩
def s_P_onAsk (N L : Nat) (c : sh_S) (i : Nat) : sh_S := (if (c 1 i 2) < (c 7 0 4) then c else (let c1 := s_P_help N L c i (c 7 0 1) (c 7 0 4); c1))
theorem kI_P_onAsk {N L : Nat} {c : sh_S} {i : Nat} (hi : i < N) (hc : kI N c) : kI N (s_P_onAsk N L c i) := by
  unfold s_P_onAsk
  try dsimp only
  refine kI_ite (fun _ => ?_) (fun _ => ?_)
  · exact hc
  · exact (kI_P_help (L := L) hi hc)
set_option maxHeartbeats 4000000 in
set_option maxRecDepth 100000 in
theorem c_P_onAsk {B : sh_B} {Z : mx_Z} {N L : Nat} {cI cR cZ : ClassId} (hb : wB B Z N L cI cR cZ) {c r : sh_S} {i : Nat} (hi : i < N) (hc : kI N c) : sc B Z y_P_onAsk b_P_onAsk 3 none (rmm 5 107) [.ref (B.2.1 8 0), .ref (B.2.1 0 i), .ref (B.2.1 7 0)] (jn c r) (qe none (jn (s_P_onAsk N L c i) r)) := by
  refine ct_of (by decide) (Nat.le_of_ble_eq_true rfl) (cat_of rfl) ?_
  intro X ok en _
  have hB := hb.1
  refine mr_lv [(0, .ref (B.2.1 8 0)), (1, .ref (B.2.1 0 i)), (2, .ref (B.2.1 7 0))] ⟨rfl, rfl, rfl, trivial⟩ ?_
  refine mr_aload_n ok (i := 2) d_P_onAsk_0 rfl rfl ?_
  refine cx_geti ok hB rfl fl_P_225 (tm_7 hb) rfl d_P_onAsk_1 ?_
  refine mr_aload_n ok (i := 1) d_P_onAsk_4 rfl rfl ?_
  refine sx_getr ok hB fl_P_117 (tm_0 hb hi) rfl d_P_onAsk_5 ?_
  refine cx_geti ok hB rfl fl_P_121 (tm_1 hb hi) rfl d_P_onAsk_8 ?_
  refine mr_icmp_gt ok 27 d_P_onAsk_11 (by decide) (fun h11_0 => ?_) (fun h11_0 => ?_)
  · refine sx_vret ok en (Nat.le_refl _) (Nat.le_refl _) d_P_onAsk_27 ?_
    exact ⟨rfl, (by first | rfl | simp only [s_P_onAsk, if_pos h11_0])⟩
  · refine mr_aload_n ok (i := 0) d_P_onAsk_14 rfl rfl ?_
    refine mr_aload_n ok (i := 1) d_P_onAsk_15 rfl rfl ?_
    refine mr_aload_n ok (i := 2) d_P_onAsk_16 rfl rfl ?_
    refine cx_geti ok hB rfl fl_P_228 (tm_7 hb) rfl d_P_onAsk_17 ?_
    refine mr_aload_n ok (i := 2) d_P_onAsk_20 rfl rfl ?_
    refine cx_geti ok hB rfl fl_P_225 (tm_7 hb) rfl d_P_onAsk_21 ?_
    refine sx_cVv ok hB [_, _, _] rfl cb_P_231 cv_P_help (tm_8 hb) rfl rfl (c_P_help hb hi (by exact hc)) rfl (Nat.le_of_ble_eq_true rfl) (by decide) ⟨Nat.le_refl _, Nat.le_refl _⟩ d_P_onAsk_24 ?_
    have hc : kI N (s_P_help N L c i (c 7 0 1) (c 7 0 4)) := kI_P_help (L := L) hi hc
    refine sx_vret ok en (Nat.le_refl _) (Nat.le_refl _) d_P_onAsk_27 ?_
    exact ⟨rfl, (by first | rfl | simp only [s_P_onAsk, if_neg h11_0])⟩
def s_P_onDeny (N L : Nat) (c : sh_S) (i : Nat) : sh_S := (if (c 0 i 7) = 0 then c else (if (c 7 0 3) ≤ (c 0 i 8) then c else (let c1 := s_R_becomeFollower N L c i; c1)))
theorem kI_P_onDeny {N L : Nat} {c : sh_S} {i : Nat} (hi : i < N) (hc : kI N c) : kI N (s_P_onDeny N L c i) := by
  unfold s_P_onDeny
  try dsimp only
  refine kI_ite (fun _ => ?_) (fun _ => ?_)
  · exact hc
  · refine kI_ite (fun _ => ?_) (fun _ => ?_)
    · exact hc
    · exact hc
set_option maxHeartbeats 4000000 in
set_option maxRecDepth 100000 in
theorem c_P_onDeny {B : sh_B} {Z : mx_Z} {N L : Nat} {cI cR cZ : ClassId} (hb : wB B Z N L cI cR cZ) {c r : sh_S} {i : Nat} (hi : i < N) (hc : kI N c) : sc B Z y_P_onDeny b_P_onDeny 3 none (rmm 1 20) [.ref (B.2.1 8 0), .ref (B.2.1 0 i), .ref (B.2.1 7 0)] (jn c r) (qe none (jn (s_P_onDeny N L c i) r)) := by
  refine ct_of (by decide) (Nat.le_of_ble_eq_true rfl) (cat_of rfl) ?_
  intro X ok en _
  have hB := hb.1
  refine mr_lv [(0, .ref (B.2.1 8 0)), (1, .ref (B.2.1 0 i)), (2, .ref (B.2.1 7 0))] ⟨rfl, rfl, rfl, trivial⟩ ?_
  refine mr_aload_n ok (i := 1) d_P_onDeny_0 rfl rfl ?_
  refine cx_geti ok hB rfl fl_P_66 (tm_0 hb hi) rfl d_P_onDeny_1 ?_
  refine mr_if_eq ok 22 d_P_onDeny_4 (by decide) (fun h4_0 => ?_) (fun h4_0 => ?_)
  · refine sx_vret ok en (Nat.le_refl _) (Nat.le_refl _) d_P_onDeny_22 ?_
    exact ⟨rfl, (by first | rfl | simp only [s_P_onDeny, if_pos h4_0])⟩
  · refine mr_aload_n ok (i := 1) d_P_onDeny_7 rfl rfl ?_
    refine cx_geti ok hB rfl fl_P_244 (tm_0 hb hi) rfl d_P_onDeny_8 ?_
    refine mr_aload_n ok (i := 2) d_P_onDeny_11 rfl rfl ?_
    refine cx_geti ok hB rfl fl_P_198 (tm_7 hb) rfl d_P_onDeny_12 ?_
    refine mr_icmp_ge ok 22 d_P_onDeny_15 (by decide) (fun h15_1 => ?_) (fun h15_1 => ?_)
    · refine sx_vret ok en (Nat.le_refl _) (Nat.le_refl _) d_P_onDeny_22 ?_
      exact ⟨rfl, (by first | rfl | simp only [s_P_onDeny, if_neg h4_0, if_pos h15_1])⟩
    · refine mr_aload_n ok (i := 1) d_P_onDeny_18 rfl rfl ?_
      refine sx_cVv ok hB [] rfl cb_P_235 cv_R_becomeFollower (tm_0 hb hi) rfl rfl (c_R_becomeFollower hb hi) rfl (Nat.le_of_ble_eq_true rfl) (by decide) ⟨Nat.le_refl _, Nat.le_refl _⟩ d_P_onDeny_19 ?_
      refine sx_vret ok en (Nat.le_refl _) (Nat.le_refl _) d_P_onDeny_22 ?_
      exact ⟨rfl, (by first | rfl | simp only [s_P_onDeny, if_neg h4_0, if_neg h15_1])⟩
def s_P_onState (N L : Nat) (c : sh_S) (i : Nat) : sh_S := (if (c 7 0 4) ≤ (c 1 i 2) then c else (let c1 := s_G_jump N L c i (c 7 0 4) (c 7 0 5); (let c2 := s_R_dropAccepted N L c1 i; (let c3 := s_R_becomeFollower N L c2 i; c3))))
theorem kI_P_onState {N L : Nat} {c : sh_S} {i : Nat} (hi : i < N) (hc : kI N c) : kI N (s_P_onState N L c i) := by
  unfold s_P_onState
  try dsimp only
  refine kI_ite (fun _ => ?_) (fun _ => ?_)
  · exact hc
  · exact hc
set_option maxHeartbeats 4000000 in
set_option maxRecDepth 100000 in
theorem c_P_onState {B : sh_B} {Z : mx_Z} {N L : Nat} {cI cR cZ : ClassId} (hb : wB B Z N L cI cR cZ) {c r : sh_S} {i : Nat} (hi : i < N) (hc : kI N c) : sc B Z y_P_onState b_P_onState 3 none (rmm 1 22) [.ref (B.2.1 8 0), .ref (B.2.1 0 i), .ref (B.2.1 7 0)] (jn c r) (qe none (jn (s_P_onState N L c i) r)) := by
  refine ct_of (by decide) (Nat.le_of_ble_eq_true rfl) (cat_of rfl) ?_
  intro X ok en _
  have hB := hb.1
  refine mr_lv [(0, .ref (B.2.1 8 0)), (1, .ref (B.2.1 0 i)), (2, .ref (B.2.1 7 0))] ⟨rfl, rfl, rfl, trivial⟩ ?_
  refine mr_aload_n ok (i := 2) d_P_onState_0 rfl rfl ?_
  refine cx_geti ok hB rfl fl_P_225 (tm_7 hb) rfl d_P_onState_1 ?_
  refine mr_aload_n ok (i := 1) d_P_onState_4 rfl rfl ?_
  refine sx_getr ok hB fl_P_117 (tm_0 hb hi) rfl d_P_onState_5 ?_
  refine cx_geti ok hB rfl fl_P_121 (tm_1 hb hi) rfl d_P_onState_8 ?_
  refine mr_icmp_le ok 37 d_P_onState_11 (by decide) (fun h11_0 => ?_) (fun h11_0 => ?_)
  · refine sx_vret ok en (Nat.le_refl _) (Nat.le_refl _) d_P_onState_37 ?_
    exact ⟨rfl, (by first | rfl | simp only [s_P_onState, if_pos h11_0])⟩
  · refine mr_aload_n ok (i := 1) d_P_onState_14 rfl rfl ?_
    refine sx_getr ok hB fl_P_117 (tm_0 hb hi) rfl d_P_onState_15 ?_
    refine mr_aload_n ok (i := 2) d_P_onState_18 rfl rfl ?_
    refine cx_geti ok hB rfl fl_P_225 (tm_7 hb) rfl d_P_onState_19 ?_
    refine mr_aload_n ok (i := 2) d_P_onState_22 rfl rfl ?_
    refine cx_geti ok hB rfl fl_P_257 (tm_7 hb) rfl d_P_onState_23 ?_
    refine sx_cVv ok hB [_, _] rfl cb_P_292 cv_G_jump (tm_1 hb hi) rfl rfl (c_G_jump hb hi) rfl (Nat.le_of_ble_eq_true rfl) (by decide) ⟨Nat.le_refl _, Nat.le_refl _⟩ d_P_onState_26 ?_
    refine mr_aload_n ok (i := 1) d_P_onState_29 rfl rfl ?_
    refine sx_cVv ok hB [] rfl cb_P_295 cv_R_dropAccepted (tm_0 hb hi) rfl rfl (c_R_dropAccepted hb hi) rfl (Nat.le_of_ble_eq_true rfl) (by decide) ⟨Nat.le_refl _, Nat.le_refl _⟩ d_P_onState_30 ?_
    refine mr_aload_n ok (i := 1) d_P_onState_33 rfl rfl ?_
    refine sx_cVv ok hB [] rfl cb_P_235 cv_R_becomeFollower (tm_0 hb hi) rfl rfl (c_R_becomeFollower hb hi) rfl (Nat.le_of_ble_eq_true rfl) (by decide) ⟨Nat.le_refl _, Nat.le_refl _⟩ d_P_onState_34 ?_
    refine sx_vret ok en (Nat.le_refl _) (Nat.le_refl _) d_P_onState_37 ?_
    exact ⟨rfl, (by first | rfl | simp only [s_P_onState, if_neg h11_0])⟩
def s_P_arrive (N L : Nat) (c : sh_S) (i : Nat) : sh_S := (let c1 := sU c 0 i 11 (if (c 0 i 11) < (c 7 0 3) then (c 7 0 3) else (c 0 i 11)); (if (c1 7 0 0) = 1 then (let c2 := s_P_onPrepare N L c1 i; c2) else (if (c1 7 0 0) = 2 then (let c3 := s_P_onPromise N L c1 i; c3) else (if (c1 7 0 0) = 3 then (let c4 := s_P_onAccept N L c1 i; c4) else (if (c1 7 0 0) = 4 then (let c5 := s_P_onAccepted N L c1 i; c5) else (if (c1 7 0 0) = 5 then (let c6 := s_P_onChosen N L c1 i; c6) else (if (c1 7 0 0) = 6 then (let c7 := s_P_onAsk N L c1 i; c7) else (if (c1 7 0 0) = 7 then (let c8 := s_P_onDeny N L c1 i; c8) else (let c9 := s_P_onState N L c1 i; c9)))))))))
theorem kI_P_arrive {N L : Nat} {c : sh_S} {i : Nat} (hi : i < N) (hc : kI N c) : kI N (s_P_arrive N L c i) := by
  unfold s_P_arrive
  try dsimp only
  refine kI_ite (fun _ => ?_) (fun _ => ?_)
  · exact (kI_P_onPrepare (L := L) hi hc)
  · refine kI_ite (fun _ => ?_) (fun _ => ?_)
    · exact (kI_P_onPromise (L := L) hi hc)
    · refine kI_ite (fun _ => ?_) (fun _ => ?_)
      · exact (kI_P_onAccept (L := L) hi hc)
      · refine kI_ite (fun _ => ?_) (fun _ => ?_)
        · exact (kI_P_onAccepted (L := L) hi hc)
        · refine kI_ite (fun _ => ?_) (fun _ => ?_)
          · exact (kI_P_onChosen (L := L) hi hc)
          · refine kI_ite (fun _ => ?_) (fun _ => ?_)
            · exact (kI_P_onAsk (L := L) hi hc)
            · refine kI_ite (fun _ => ?_) (fun _ => ?_)
              · exact (kI_P_onDeny (L := L) hi hc)
              · exact (kI_P_onState (L := L) hi hc)
set_option maxHeartbeats 4000000 in
set_option maxRecDepth 100000 in
theorem c_P_arrive {B : sh_B} {Z : mx_Z} {N L : Nat} {cI cR cZ : ClassId} (hb : wB B Z N L cI cR cZ) {c r : sh_S} {i : Nat} (hi : i < N) (hc : kI N c) : sc B Z y_P_arrive b_P_arrive 3 none (rmm 6 143) [.ref (B.2.1 8 0), .ref (B.2.1 0 i), .ref (B.2.1 7 0)] (jn c r) (qe none (jn (s_P_arrive N L c i) r)) := by
  refine ct_of (by decide) (Nat.le_of_ble_eq_true rfl) (cat_of rfl) ?_
  intro X ok en _
  have hB := hb.1
  refine mr_lv [(0, .ref (B.2.1 8 0)), (1, .ref (B.2.1 0 i)), (2, .ref (B.2.1 7 0))] ⟨rfl, rfl, rfl, trivial⟩ ?_
  refine mr_aload_n ok (i := 1) d_P_arrive_0 rfl rfl ?_
  refine mr_aload_n ok (i := 1) d_P_arrive_1 rfl rfl ?_
  refine cx_geti ok hB rfl fl_P_189 (tm_0 hb hi) rfl d_P_arrive_2 ?_
  refine mr_aload_n ok (i := 2) d_P_arrive_5 rfl rfl ?_
  refine cx_geti ok hB rfl fl_P_198 (tm_7 hb) rfl d_P_arrive_6 ?_
  refine mr_max ok (mw 64 rfl rfl) (mw 65 rfl rfl) (mw 44 rfl rfl) (mw 66 rfl rfl) (by decide) (Nat.le_of_ble_eq_true rfl) (Nat.le_refl _) (Nat.le_refl _) d_P_arrive_9 ?_
  refine cx_put ok hB rfl fw_P_189 (tm_0 hb hi) rfl rfl rfl d_P_arrive_12 ?_
  refine mr_aload_n ok (i := 2) d_P_arrive_15 rfl rfl ?_
  refine cx_geti ok hB rfl fl_P_108 (tm_7 hb) rfl d_P_arrive_16 ?_
  by_cases h19_0_1 : ((sU c 0 i 11 (if (c 0 i 11) < (c 7 0 3) then (c 7 0 3) else (c 0 i 11))) 7 0 0) = 1
  · refine mr_tableIn (off := 41) ok 60 d_P_arrive_19 (by rw [h19_0_1]; decide) (by rw [h19_0_1]; decide) (by rw [h19_0_1]; decide) (by decide) ?_
    refine mr_aload_n ok (i := 0) d_P_arrive_60 rfl rfl ?_
    refine mr_aload_n ok (i := 1) d_P_arrive_61 rfl rfl ?_
    refine mr_aload_n ok (i := 2) d_P_arrive_62 rfl rfl ?_
    refine sx_cVv ok hB [_, _] rfl cb_P_201 cv_P_onPrepare (tm_8 hb) rfl rfl (c_P_onPrepare hb hi (by exact hc)) rfl (Nat.le_of_ble_eq_true rfl) (by decide) ⟨Nat.le_refl _, Nat.le_refl _⟩ d_P_arrive_63 ?_
    have hc : kI N (s_P_onPrepare N L (sU c 0 i 11 (if (c 0 i 11) < (c 7 0 3) then (c 7 0 3) else (c 0 i 11))) i) := kI_P_onPrepare (L := L) hi hc
    refine mr_goto ok 129 d_P_arrive_66 (by decide) ?_
    refine sx_vret ok en (Nat.le_refl _) (Nat.le_refl _) d_P_arrive_129 ?_
    exact ⟨rfl, (by first | rfl | simp only [s_P_arrive, if_pos h19_0_1])⟩
  by_cases h19_0_2 : ((sU c 0 i 11 (if (c 0 i 11) < (c 7 0 3) then (c 7 0 3) else (c 0 i 11))) 7 0 0) = 2
  · refine mr_tableIn (off := 50) ok 69 d_P_arrive_19 (by rw [h19_0_2]; decide) (by rw [h19_0_2]; decide) (by rw [h19_0_2]; decide) (by decide) ?_
    refine mr_aload_n ok (i := 0) d_P_arrive_69 rfl rfl ?_
    refine mr_aload_n ok (i := 1) d_P_arrive_70 rfl rfl ?_
    refine mr_aload_n ok (i := 2) d_P_arrive_71 rfl rfl ?_
    refine sx_cVv ok hB [_, _] rfl cb_P_204 cv_P_onPromise (tm_8 hb) rfl rfl (c_P_onPromise hb hi (by exact hc)) rfl (Nat.le_of_ble_eq_true rfl) (by decide) ⟨Nat.le_refl _, Nat.le_refl _⟩ d_P_arrive_72 ?_
    have hc : kI N (s_P_onPromise N L (sU c 0 i 11 (if (c 0 i 11) < (c 7 0 3) then (c 7 0 3) else (c 0 i 11))) i) := kI_P_onPromise (L := L) hi hc
    refine mr_goto ok 129 d_P_arrive_75 (by decide) ?_
    refine sx_vret ok en (Nat.le_refl _) (Nat.le_refl _) d_P_arrive_129 ?_
    exact ⟨rfl, (by first | rfl | simp only [s_P_arrive, if_neg h19_0_1, if_pos h19_0_2])⟩
  by_cases h19_0_3 : ((sU c 0 i 11 (if (c 0 i 11) < (c 7 0 3) then (c 7 0 3) else (c 0 i 11))) 7 0 0) = 3
  · refine mr_tableIn (off := 59) ok 78 d_P_arrive_19 (by rw [h19_0_3]; decide) (by rw [h19_0_3]; decide) (by rw [h19_0_3]; decide) (by decide) ?_
    refine mr_aload_n ok (i := 0) d_P_arrive_78 rfl rfl ?_
    refine mr_aload_n ok (i := 1) d_P_arrive_79 rfl rfl ?_
    refine mr_aload_n ok (i := 2) d_P_arrive_80 rfl rfl ?_
    refine sx_cVv ok hB [_, _] rfl cb_P_207 cv_P_onAccept (tm_8 hb) rfl rfl (c_P_onAccept hb hi (by exact hc)) rfl (Nat.le_of_ble_eq_true rfl) (by decide) ⟨Nat.le_refl _, Nat.le_refl _⟩ d_P_arrive_81 ?_
    have hc : kI N (s_P_onAccept N L (sU c 0 i 11 (if (c 0 i 11) < (c 7 0 3) then (c 7 0 3) else (c 0 i 11))) i) := kI_P_onAccept (L := L) hi hc
    refine mr_goto ok 129 d_P_arrive_84 (by decide) ?_
    refine sx_vret ok en (Nat.le_refl _) (Nat.le_refl _) d_P_arrive_129 ?_
    exact ⟨rfl, (by first | rfl | simp only [s_P_arrive, if_neg h19_0_1, if_neg h19_0_2, if_pos h19_0_3])⟩
  by_cases h19_0_4 : ((sU c 0 i 11 (if (c 0 i 11) < (c 7 0 3) then (c 7 0 3) else (c 0 i 11))) 7 0 0) = 4
  · refine mr_tableIn (off := 68) ok 87 d_P_arrive_19 (by rw [h19_0_4]; decide) (by rw [h19_0_4]; decide) (by rw [h19_0_4]; decide) (by decide) ?_
    refine mr_aload_n ok (i := 0) d_P_arrive_87 rfl rfl ?_
    refine mr_aload_n ok (i := 1) d_P_arrive_88 rfl rfl ?_
    refine mr_aload_n ok (i := 2) d_P_arrive_89 rfl rfl ?_
    refine sx_cVv ok hB [_, _] rfl cb_P_210 cv_P_onAccepted (tm_8 hb) rfl rfl (c_P_onAccepted hb hi (by exact hc)) rfl (Nat.le_of_ble_eq_true rfl) (by decide) ⟨Nat.le_refl _, Nat.le_refl _⟩ d_P_arrive_90 ?_
    have hc : kI N (s_P_onAccepted N L (sU c 0 i 11 (if (c 0 i 11) < (c 7 0 3) then (c 7 0 3) else (c 0 i 11))) i) := kI_P_onAccepted (L := L) hi hc
    refine mr_goto ok 129 d_P_arrive_93 (by decide) ?_
    refine sx_vret ok en (Nat.le_refl _) (Nat.le_refl _) d_P_arrive_129 ?_
    exact ⟨rfl, (by first | rfl | simp only [s_P_arrive, if_neg h19_0_1, if_neg h19_0_2, if_neg h19_0_3, if_pos h19_0_4])⟩
  by_cases h19_0_5 : ((sU c 0 i 11 (if (c 0 i 11) < (c 7 0 3) then (c 7 0 3) else (c 0 i 11))) 7 0 0) = 5
  · refine mr_tableIn (off := 77) ok 96 d_P_arrive_19 (by rw [h19_0_5]; decide) (by rw [h19_0_5]; decide) (by rw [h19_0_5]; decide) (by decide) ?_
    refine mr_aload_n ok (i := 0) d_P_arrive_96 rfl rfl ?_
    refine mr_aload_n ok (i := 1) d_P_arrive_97 rfl rfl ?_
    refine mr_aload_n ok (i := 2) d_P_arrive_98 rfl rfl ?_
    refine sx_cVv ok hB [_, _] rfl cb_P_213 cv_P_onChosen (tm_8 hb) rfl rfl (c_P_onChosen hb hi (by exact hc)) rfl (Nat.le_of_ble_eq_true rfl) (by decide) ⟨Nat.le_refl _, Nat.le_refl _⟩ d_P_arrive_99 ?_
    have hc : kI N (s_P_onChosen N L (sU c 0 i 11 (if (c 0 i 11) < (c 7 0 3) then (c 7 0 3) else (c 0 i 11))) i) := kI_P_onChosen (L := L) hi hc
    refine mr_goto ok 129 d_P_arrive_102 (by decide) ?_
    refine sx_vret ok en (Nat.le_refl _) (Nat.le_refl _) d_P_arrive_129 ?_
    exact ⟨rfl, (by first | rfl | simp only [s_P_arrive, if_neg h19_0_1, if_neg h19_0_2, if_neg h19_0_3, if_neg h19_0_4, if_pos h19_0_5])⟩
  by_cases h19_0_6 : ((sU c 0 i 11 (if (c 0 i 11) < (c 7 0 3) then (c 7 0 3) else (c 0 i 11))) 7 0 0) = 6
  · refine mr_tableIn (off := 86) ok 105 d_P_arrive_19 (by rw [h19_0_6]; decide) (by rw [h19_0_6]; decide) (by rw [h19_0_6]; decide) (by decide) ?_
    refine mr_aload_n ok (i := 0) d_P_arrive_105 rfl rfl ?_
    refine mr_aload_n ok (i := 1) d_P_arrive_106 rfl rfl ?_
    refine mr_aload_n ok (i := 2) d_P_arrive_107 rfl rfl ?_
    refine sx_cVv ok hB [_, _] rfl cb_P_216 cv_P_onAsk (tm_8 hb) rfl rfl (c_P_onAsk hb hi (by exact hc)) rfl (Nat.le_of_ble_eq_true rfl) (by decide) ⟨Nat.le_refl _, Nat.le_refl _⟩ d_P_arrive_108 ?_
    have hc : kI N (s_P_onAsk N L (sU c 0 i 11 (if (c 0 i 11) < (c 7 0 3) then (c 7 0 3) else (c 0 i 11))) i) := kI_P_onAsk (L := L) hi hc
    refine mr_goto ok 129 d_P_arrive_111 (by decide) ?_
    refine sx_vret ok en (Nat.le_refl _) (Nat.le_refl _) d_P_arrive_129 ?_
    exact ⟨rfl, (by first | rfl | simp only [s_P_arrive, if_neg h19_0_1, if_neg h19_0_2, if_neg h19_0_3, if_neg h19_0_4, if_neg h19_0_5, if_pos h19_0_6])⟩
  by_cases h19_0_7 : ((sU c 0 i 11 (if (c 0 i 11) < (c 7 0 3) then (c 7 0 3) else (c 0 i 11))) 7 0 0) = 7
  · refine mr_tableIn (off := 95) ok 114 d_P_arrive_19 (by rw [h19_0_7]; decide) (by rw [h19_0_7]; decide) (by rw [h19_0_7]; decide) (by decide) ?_
    refine mr_aload_n ok (i := 0) d_P_arrive_114 rfl rfl ?_
    refine mr_aload_n ok (i := 1) d_P_arrive_115 rfl rfl ?_
    refine mr_aload_n ok (i := 2) d_P_arrive_116 rfl rfl ?_
    refine sx_cVv ok hB [_, _] rfl cb_P_219 cv_P_onDeny (tm_8 hb) rfl rfl (c_P_onDeny hb hi (by exact hc)) rfl (Nat.le_of_ble_eq_true rfl) (by decide) ⟨Nat.le_refl _, Nat.le_refl _⟩ d_P_arrive_117 ?_
    have hc : kI N (s_P_onDeny N L (sU c 0 i 11 (if (c 0 i 11) < (c 7 0 3) then (c 7 0 3) else (c 0 i 11))) i) := kI_P_onDeny (L := L) hi hc
    refine mr_goto ok 129 d_P_arrive_120 (by decide) ?_
    refine sx_vret ok en (Nat.le_refl _) (Nat.le_refl _) d_P_arrive_129 ?_
    exact ⟨rfl, (by first | rfl | simp only [s_P_arrive, if_neg h19_0_1, if_neg h19_0_2, if_neg h19_0_3, if_neg h19_0_4, if_neg h19_0_5, if_neg h19_0_6, if_pos h19_0_7])⟩
  have th19_0_1 := lv_neT h19_0_1 (a := 1) (by decide)
  have th19_0_2 := lv_neT h19_0_2 (a := 2) (by decide)
  have th19_0_3 := lv_neT h19_0_3 (a := 3) (by decide)
  have th19_0_4 := lv_neT h19_0_4 (a := 4) (by decide)
  have th19_0_5 := lv_neT h19_0_5 (a := 5) (by decide)
  have th19_0_6 := lv_neT h19_0_6 (a := 6) (by decide)
  have th19_0_7 := lv_neT h19_0_7 (a := 7) (by decide)
  refine mr_tableOut ok 123 d_P_arrive_19 (by omega) (by decide) ?_
  refine mr_aload_n ok (i := 0) d_P_arrive_123 rfl rfl ?_
  refine mr_aload_n ok (i := 1) d_P_arrive_124 rfl rfl ?_
  refine mr_aload_n ok (i := 2) d_P_arrive_125 rfl rfl ?_
  refine sx_cVv ok hB [_, _] rfl cb_P_222 cv_P_onState (tm_8 hb) rfl rfl (c_P_onState hb hi (by exact hc)) rfl (Nat.le_of_ble_eq_true rfl) (by decide) ⟨Nat.le_refl _, Nat.le_refl _⟩ d_P_arrive_126 ?_
  have hc : kI N (s_P_onState N L (sU c 0 i 11 (if (c 0 i 11) < (c 7 0 3) then (c 7 0 3) else (c 0 i 11))) i) := kI_P_onState (L := L) hi hc
  refine sx_vret ok en (Nat.le_refl _) (Nat.le_refl _) d_P_arrive_129 ?_
  exact ⟨rfl, (by first | rfl | simp only [s_P_arrive, if_neg h19_0_1, if_neg h19_0_2, if_neg h19_0_3, if_neg h19_0_4, if_neg h19_0_5, if_neg h19_0_6, if_neg h19_0_7])⟩
def v_P_request (N L : Nat) (c : sh_S) (x : Int32) (y : Int32) : Int32 := (if kF N x then (if (c 0 ((x : Int32).toNatClampNeg) 3) = 0 then 0 else (if 1 ≤ y then (let c1 := s_L_add N L c ((x : Int32).toNatClampNeg) y; (v_L_add N L c ((x : Int32).toNatClampNeg) y)) else 0)) else 0)
def s_P_request (N L : Nat) (c : sh_S) (x : Int32) (y : Int32) : sh_S := (if kF N x then (if (c 0 ((x : Int32).toNatClampNeg) 3) = 0 then c else (if 1 ≤ y then (let c1 := s_L_add N L c ((x : Int32).toNatClampNeg) y; c1) else c)) else c)
theorem kI_P_request {N L : Nat} {c : sh_S} {x : Int32} {y : Int32} (hN : N ≤ 5) (hc : kI N c) : kI N (s_P_request N L c x y) := by
  unfold s_P_request
  try dsimp only
  refine kI_ite (fun hk => ?_) (fun _ => ?_)
  · have hi := (kF_lt hk hN).1
    refine kI_ite (fun _ => ?_) (fun _ => ?_)
    · exact hc
    · refine kI_ite (fun _ => ?_) (fun _ => ?_)
      · exact (kI_L_add (L := L) hi hc)
      · exact hc
  · exact hc
set_option maxHeartbeats 4000000 in
set_option maxRecDepth 100000 in
theorem c_P_request {B : sh_B} {Z : mx_Z} {N L : Nat} {cI cR cZ : ClassId} (hb : wB B Z N L cI cR cZ) {c r : sh_S} {x : Int32} {y : Int32} (hc : kI N c) : sc B Z y_P_request b_P_request 4 (some (.boolean)) (rmm 1 21) [.ref (B.2.1 8 0), .int x, .int y] (jn c r) (qe (some (.int (v_P_request N L c x y))) (jn (s_P_request N L c x y) r)) := by
  refine ct_of (by decide) (Nat.le_of_ble_eq_true rfl) (cat_of rfl) ?_
  intro X ok en _
  have hB := hb.1
  refine mr_lv [(0, .ref (B.2.1 8 0)), (1, .int x), (2, .int y)] ⟨rfl, rfl, rfl, trivial⟩ ?_
  refine mr_aload_n ok (i := 0) d_P_request_0 rfl rfl ?_
  refine mr_iload_n ok (i := 1) d_P_request_1 rfl rfl ?_
  refine P_find_row ok hb (by decide) (by decide) (by decide) d_P_request_2 cb_P_48 (fun h2_0 hi => ?_) (fun h2_0 => ?_)
  · refine mr_astore_n ok (i := 3) d_P_request_5 rfl (by decide) ?_
    refine mr_aload_n ok (i := 3) d_P_request_6 rfl rfl ?_
    refine mr_ifnull ok d_P_request_7 ?_
    refine mr_aload_n ok (i := 3) d_P_request_10 rfl rfl ?_
    refine cx_geti ok hB rfl fl_P_52 (tm_0 hb hi) rfl d_P_request_11 ?_
    refine mr_if_eq ok 22 d_P_request_14 (by decide) (fun h14_1 => ?_) (fun h14_1 => ?_)
    · refine mr_iconst ok 0 d_P_request_22 (by decide) ?_
      refine sx_zret rfl ok en (Nat.le_refl _) (Nat.le_refl _) d_P_request_23 ?_
      exact ⟨(by first | rfl | simp only [v_P_request, if_pos h2_0, if_pos h14_1]), (by first | rfl | simp only [s_P_request, if_pos h2_0, if_pos h14_1])⟩
    · refine mr_iload_n ok (i := 2) d_P_request_17 rfl rfl ?_
      refine mr_iconst ok 1 d_P_request_18 (by decide) ?_
      refine mr_icmp_ge ok 24 d_P_request_19 (by decide) (fun h19_2 => ?_) (fun h19_2 => ?_)
      · refine mr_aload_n ok (i := 3) d_P_request_24 rfl rfl ?_
        refine sx_getr ok hB fl_P_56 (tm_0 hb hi) rfl d_P_request_25 ?_
        refine mr_iload_n ok (i := 2) d_P_request_28 rfl rfl ?_
        refine sx_cVi ok hB [_] rfl cb_P_60 cv_L_add (tm_3 hb hi) rfl rfl (c_L_add hb hi (by exact hc.2 _ hi)) rfl (Nat.le_of_ble_eq_true rfl) (by decide) ⟨Nat.le_refl _, Nat.le_refl _⟩ d_P_request_29 ?_
        have hc : kI N (s_L_add N L c ((x : Int32).toNatClampNeg) y) := kI_L_add (L := L) hi hc
        refine sx_zret (zb_L_add ..) ok en (Nat.le_refl _) (Nat.le_refl _) d_P_request_32 ?_
        exact ⟨(by first | rfl | simp only [v_P_request, if_pos h2_0, if_neg h14_1, if_pos h19_2]), (by first | rfl | simp only [s_P_request, if_pos h2_0, if_neg h14_1, if_pos h19_2])⟩
      · refine mr_iconst ok 0 d_P_request_22 (by decide) ?_
        refine sx_zret rfl ok en (Nat.le_refl _) (Nat.le_refl _) d_P_request_23 ?_
        exact ⟨(by first | rfl | simp only [v_P_request, if_pos h2_0, if_neg h14_1, if_neg h19_2]), (by first | rfl | simp only [s_P_request, if_pos h2_0, if_neg h14_1, if_neg h19_2])⟩
  · refine mr_astore_nN ok (i := 3) d_P_request_5 rfl (by decide) ?_
    refine mr_aload_nN ok (i := 3) d_P_request_6 rfl rfl ?_
    refine mr_ifnullN ok 22 d_P_request_7 (by decide) ?_
    refine mr_iconst ok 0 d_P_request_22 (by decide) ?_
    refine sx_zret rfl ok en (Nat.le_refl _) (Nat.le_refl _) d_P_request_23 ?_
    exact ⟨(by first | rfl | simp only [v_P_request, if_neg h2_0]), (by first | rfl | simp only [s_P_request, if_neg h2_0])⟩
def v_P_tick (N L : Nat) (c : sh_S) (x : Int32) : Int32 := (if kF N x then (if (c 0 ((x : Int32).toNatClampNeg) 3) = 0 then (-1) else (if (c 0 ((x : Int32).toNatClampNeg) 7) = 2 then (let c5 := s_P_tickLeader N L c ((x : Int32).toNatClampNeg); (c5 5 0 1)) else (if (c 0 ((x : Int32).toNatClampNeg) 7) = 1 then (let c4 := s_P_sendPrepare N L c ((x : Int32).toNatClampNeg); (c4 5 0 1)) else (if (c 3 ((x : Int32).toNatClampNeg) 1) ≤ 0 then (if (nI N) ≤ ((nI ((x : Int32).toNatClampNeg)) + 1) then (let c1 := s_P_ask N L c ((x : Int32).toNatClampNeg) 0; (c1 5 0 1)) else (let c2 := s_P_ask N L c ((x : Int32).toNatClampNeg) ((nI ((x : Int32).toNatClampNeg)) + 1); (c2 5 0 1))) else (let c3 := s_P_campaign N L c ((x : Int32).toNatClampNeg); (c3 5 0 1)))))) else (-1))
def s_P_tick (N L : Nat) (c : sh_S) (x : Int32) : sh_S := (if kF N x then (if (c 0 ((x : Int32).toNatClampNeg) 3) = 0 then c else (if (c 0 ((x : Int32).toNatClampNeg) 7) = 2 then (let c5 := s_P_tickLeader N L c ((x : Int32).toNatClampNeg); c5) else (if (c 0 ((x : Int32).toNatClampNeg) 7) = 1 then (let c4 := s_P_sendPrepare N L c ((x : Int32).toNatClampNeg); c4) else (if (c 3 ((x : Int32).toNatClampNeg) 1) ≤ 0 then (if (nI N) ≤ ((nI ((x : Int32).toNatClampNeg)) + 1) then (let c1 := s_P_ask N L c ((x : Int32).toNatClampNeg) 0; c1) else (let c2 := s_P_ask N L c ((x : Int32).toNatClampNeg) ((nI ((x : Int32).toNatClampNeg)) + 1); c2)) else (let c3 := s_P_campaign N L c ((x : Int32).toNatClampNeg); c3))))) else c)
theorem kI_P_tick {N L : Nat} {c : sh_S} {x : Int32} (hN : N ≤ 5) (hc : kI N c) : kI N (s_P_tick N L c x) := by
  unfold s_P_tick
  try dsimp only
  refine kI_ite (fun hk => ?_) (fun _ => ?_)
  · have hi := (kF_lt hk hN).1
    refine kI_ite (fun _ => ?_) (fun _ => ?_)
    · exact hc
    · refine kI_ite (fun _ => ?_) (fun _ => ?_)
      · exact (kI_P_tickLeader (L := L) hi hc)
      · refine kI_ite (fun _ => ?_) (fun _ => ?_)
        · exact (kI_P_sendPrepare (L := L) hi hc)
        · refine kI_ite (fun _ => ?_) (fun _ => ?_)
          · refine kI_ite (fun _ => ?_) (fun _ => ?_)
            · exact (kI_P_ask (L := L) hi hc)
            · exact (kI_P_ask (L := L) hi hc)
          · exact (kI_P_campaign (L := L) hi hc)
  · exact hc
set_option maxHeartbeats 4000000 in
set_option maxRecDepth 100000 in
theorem c_P_tick {B : sh_B} {Z : mx_Z} {N L : Nat} {cI cR cZ : ClassId} (hb : wB B Z N L cI cR cZ) {c r : sh_S} {x : Int32} (hc : kI N c) : sc B Z y_P_tick b_P_tick 3 (some (.int)) (rmm 6 140) [.ref (B.2.1 8 0), .int x] (jn c r) (qe (some (.int (v_P_tick N L c x))) (jn (s_P_tick N L c x) r)) := by
  refine ct_of (by decide) (Nat.le_of_ble_eq_true rfl) (cat_of rfl) ?_
  intro X ok en _
  have hB := hb.1
  refine mr_lv [(0, .ref (B.2.1 8 0)), (1, .int x)] ⟨rfl, rfl, trivial⟩ ?_
  refine mr_aload_n ok (i := 0) d_P_tick_0 rfl rfl ?_
  refine mr_iload_n ok (i := 1) d_P_tick_1 rfl rfl ?_
  refine P_find_row ok hb (by decide) (by decide) (by decide) d_P_tick_2 cb_P_48 (fun h2_0 hi => ?_) (fun h2_0 => ?_)
  · refine mr_astore_n ok (i := 2) d_P_tick_5 rfl (by decide) ?_
    refine mr_aload_n ok (i := 2) d_P_tick_6 rfl rfl ?_
    refine mr_ifnull ok d_P_tick_7 ?_
    refine mr_aload_n ok (i := 2) d_P_tick_10 rfl rfl ?_
    refine cx_geti ok hB rfl fl_P_52 (tm_0 hb hi) rfl d_P_tick_11 ?_
    refine mr_if_ne ok 19 d_P_tick_14 (by decide) (fun h14_1 => ?_) (fun h14_1 => ?_)
    · refine mr_aload_n ok (i := 2) d_P_tick_19 rfl rfl ?_
      refine cx_geti ok hB rfl fl_P_66 (tm_0 hb hi) rfl d_P_tick_20 ?_
      refine mr_iconst ok 2 d_P_tick_23 (by decide) ?_
      refine mr_icmp_ne ok 35 d_P_tick_24 (by decide) (fun h24_2 => ?_) (fun h24_2 => ?_)
      · refine mr_aload_n ok (i := 2) d_P_tick_35 rfl rfl ?_
        refine cx_geti ok hB rfl fl_P_66 (tm_0 hb hi) rfl d_P_tick_36 ?_
        refine mr_iconst ok 1 d_P_tick_39 (by decide) ?_
        refine mr_icmp_ne ok 51 d_P_tick_40 (by decide) (fun h40_3 => ?_) (fun h40_3 => ?_)
        · refine mr_aload_n ok (i := 2) d_P_tick_51 rfl rfl ?_
          refine sx_getr ok hB fl_P_56 (tm_0 hb hi) rfl d_P_tick_52 ?_
          refine cx_geti ok hB rfl fl_P_76 (tm_3 hb hi) rfl d_P_tick_55 ?_
          refine mr_if_le ok 69 d_P_tick_58 (by decide) (fun h58_4 => ?_) (fun h58_4 => ?_)
          · refine mr_aload_n ok (i := 0) d_P_tick_69 rfl rfl ?_
            refine mr_aload_n ok (i := 2) d_P_tick_70 rfl rfl ?_
            refine mr_aload_n ok (i := 2) d_P_tick_71 rfl rfl ?_
            refine sx_getr ok hB fl_P_82 (tm_0 hb hi) rfl d_P_tick_72 ?_
            refine mr_iconst ok 1 d_P_tick_75 (by decide) ?_
            refine mr_iadd ok d_P_tick_76 ?_
            refine mr_aload_n ok (i := 0) d_P_tick_77 rfl rfl ?_
            refine sx_getr ok hB fl_P_18 (tm_8 hb) rfl d_P_tick_78 ?_
            refine mr_icmp_ge ok 93 d_P_tick_81 (by decide) (fun h81_5 => ?_) (fun h81_5 => ?_)
            · refine mr_iconst ok 0 d_P_tick_93 (by decide) ?_
              refine sx_cVv ok hB [_, _] rfl cb_P_85 cv_P_ask (tm_8 hb) rfl rfl (c_P_ask hb hi (by exact hc)) rfl (Nat.le_of_ble_eq_true rfl) (by decide) ⟨Nat.le_refl _, Nat.le_refl _⟩ d_P_tick_94 ?_
              have hc : kI N (s_P_ask N L c ((x : Int32).toNatClampNeg) 0) := kI_P_ask (L := L) hi hc
              refine mr_aload_n ok (i := 0) d_P_tick_97 rfl rfl ?_
              refine sx_getr ok hB fl_P_37 (tm_8 hb) rfl d_P_tick_98 ?_
              refine cx_geti ok hB rfl fl_P_89 (tm_5 hb) rfl d_P_tick_101 ?_
              refine sx_iret ok en (Nat.le_refl _) (Nat.le_refl _) d_P_tick_104 ?_
              exact ⟨(by first | rfl | simp only [v_P_tick, if_pos h2_0, if_neg h14_1, if_neg h24_2, if_neg h40_3, if_pos h58_4, if_pos h81_5]), (by first | rfl | simp only [s_P_tick, if_pos h2_0, if_neg h14_1, if_neg h24_2, if_neg h40_3, if_pos h58_4, if_pos h81_5])⟩
            · refine mr_aload_n ok (i := 2) d_P_tick_84 rfl rfl ?_
              refine sx_getr ok hB fl_P_82 (tm_0 hb hi) rfl d_P_tick_85 ?_
              refine mr_iconst ok 1 d_P_tick_88 (by decide) ?_
              refine mr_iadd ok d_P_tick_89 ?_
              refine mr_goto ok 94 d_P_tick_90 (by decide) ?_
              refine sx_cVv ok hB [_, _] rfl cb_P_85 cv_P_ask (tm_8 hb) rfl rfl (c_P_ask hb hi (by exact hc)) rfl (Nat.le_of_ble_eq_true rfl) (by decide) ⟨Nat.le_refl _, Nat.le_refl _⟩ d_P_tick_94 ?_
              have hc : kI N (s_P_ask N L c ((x : Int32).toNatClampNeg) ((nI ((x : Int32).toNatClampNeg)) + 1)) := kI_P_ask (L := L) hi hc
              refine mr_aload_n ok (i := 0) d_P_tick_97 rfl rfl ?_
              refine sx_getr ok hB fl_P_37 (tm_8 hb) rfl d_P_tick_98 ?_
              refine cx_geti ok hB rfl fl_P_89 (tm_5 hb) rfl d_P_tick_101 ?_
              refine sx_iret ok en (Nat.le_refl _) (Nat.le_refl _) d_P_tick_104 ?_
              exact ⟨(by first | rfl | simp only [v_P_tick, if_pos h2_0, if_neg h14_1, if_neg h24_2, if_neg h40_3, if_pos h58_4, if_neg h81_5]), (by first | rfl | simp only [s_P_tick, if_pos h2_0, if_neg h14_1, if_neg h24_2, if_neg h40_3, if_pos h58_4, if_neg h81_5])⟩
          · refine mr_aload_n ok (i := 0) d_P_tick_61 rfl rfl ?_
            refine mr_aload_n ok (i := 2) d_P_tick_62 rfl rfl ?_
            refine sx_cVv ok hB [_] rfl cb_P_79 cv_P_campaign (tm_8 hb) rfl rfl (c_P_campaign hb hi (by exact hc)) rfl (Nat.le_of_ble_eq_true rfl) (by decide) ⟨Nat.le_refl _, Nat.le_refl _⟩ d_P_tick_63 ?_
            have hc : kI N (s_P_campaign N L c ((x : Int32).toNatClampNeg)) := kI_P_campaign (L := L) hi hc
            refine mr_goto ok 97 d_P_tick_66 (by decide) ?_
            refine mr_aload_n ok (i := 0) d_P_tick_97 rfl rfl ?_
            refine sx_getr ok hB fl_P_37 (tm_8 hb) rfl d_P_tick_98 ?_
            refine cx_geti ok hB rfl fl_P_89 (tm_5 hb) rfl d_P_tick_101 ?_
            refine sx_iret ok en (Nat.le_refl _) (Nat.le_refl _) d_P_tick_104 ?_
            exact ⟨(by first | rfl | simp only [v_P_tick, if_pos h2_0, if_neg h14_1, if_neg h24_2, if_neg h40_3, if_neg h58_4]), (by first | rfl | simp only [s_P_tick, if_pos h2_0, if_neg h14_1, if_neg h24_2, if_neg h40_3, if_neg h58_4])⟩
        · refine mr_aload_n ok (i := 0) d_P_tick_43 rfl rfl ?_
          refine mr_aload_n ok (i := 2) d_P_tick_44 rfl rfl ?_
          refine sx_cVv ok hB [_] rfl cb_P_73 cv_P_sendPrepare (tm_8 hb) rfl rfl (c_P_sendPrepare hb hi (by exact hc)) rfl (Nat.le_of_ble_eq_true rfl) (by decide) ⟨Nat.le_refl _, Nat.le_refl _⟩ d_P_tick_45 ?_
          have hc : kI N (s_P_sendPrepare N L c ((x : Int32).toNatClampNeg)) := kI_P_sendPrepare (L := L) hi hc
          refine mr_goto ok 97 d_P_tick_48 (by decide) ?_
          refine mr_aload_n ok (i := 0) d_P_tick_97 rfl rfl ?_
          refine sx_getr ok hB fl_P_37 (tm_8 hb) rfl d_P_tick_98 ?_
          refine cx_geti ok hB rfl fl_P_89 (tm_5 hb) rfl d_P_tick_101 ?_
          refine sx_iret ok en (Nat.le_refl _) (Nat.le_refl _) d_P_tick_104 ?_
          exact ⟨(by first | rfl | simp only [v_P_tick, if_pos h2_0, if_neg h14_1, if_neg h24_2, if_pos h40_3]), (by first | rfl | simp only [s_P_tick, if_pos h2_0, if_neg h14_1, if_neg h24_2, if_pos h40_3])⟩
      · refine mr_aload_n ok (i := 0) d_P_tick_27 rfl rfl ?_
        refine mr_aload_n ok (i := 2) d_P_tick_28 rfl rfl ?_
        refine sx_cVv ok hB [_] rfl cb_P_69 cv_P_tickLeader (tm_8 hb) rfl rfl (c_P_tickLeader hb hi (by exact hc)) rfl (Nat.le_of_ble_eq_true rfl) (by decide) ⟨Nat.le_refl _, Nat.le_refl _⟩ d_P_tick_29 ?_
        have hc : kI N (s_P_tickLeader N L c ((x : Int32).toNatClampNeg)) := kI_P_tickLeader (L := L) hi hc
        refine mr_goto ok 97 d_P_tick_32 (by decide) ?_
        refine mr_aload_n ok (i := 0) d_P_tick_97 rfl rfl ?_
        refine sx_getr ok hB fl_P_37 (tm_8 hb) rfl d_P_tick_98 ?_
        refine cx_geti ok hB rfl fl_P_89 (tm_5 hb) rfl d_P_tick_101 ?_
        refine sx_iret ok en (Nat.le_refl _) (Nat.le_refl _) d_P_tick_104 ?_
        exact ⟨(by first | rfl | simp only [v_P_tick, if_pos h2_0, if_neg h14_1, if_pos h24_2]), (by first | rfl | simp only [s_P_tick, if_pos h2_0, if_neg h14_1, if_pos h24_2])⟩
    · refine mr_iconst ok (-1) d_P_tick_17 (by decide) ?_
      refine sx_iret ok en (Nat.le_refl _) (Nat.le_refl _) d_P_tick_18 ?_
      exact ⟨(by first | rfl | simp only [v_P_tick, if_pos h2_0, if_pos h14_1]), (by first | rfl | simp only [s_P_tick, if_pos h2_0, if_pos h14_1])⟩
  · refine mr_astore_nN ok (i := 2) d_P_tick_5 rfl (by decide) ?_
    refine mr_aload_nN ok (i := 2) d_P_tick_6 rfl rfl ?_
    refine mr_ifnullN ok 17 d_P_tick_7 (by decide) ?_
    refine mr_iconst ok (-1) d_P_tick_17 (by decide) ?_
    refine sx_iret ok en (Nat.le_refl _) (Nat.le_refl _) d_P_tick_18 ?_
    exact ⟨(by first | rfl | simp only [v_P_tick, if_neg h2_0]), (by first | rfl | simp only [s_P_tick, if_neg h2_0])⟩
def v_P_deliver (N L : Nat) (c : sh_S) (x : Int32) : Int32 := (if (v_F_has N L c x) = 0 then (-1) else (let c1 := s_F_read N L c x; (let c2 := s_F_remove N L c1 x; (if kF N (c2 7 0 2) then (if (c2 0 (((c2 7 0 2) : Int32).toNatClampNeg) 3) = 0 then (c2 7 0 0) else (let c3 := s_P_arrive N L c2 (((c2 7 0 2) : Int32).toNatClampNeg); (c3 7 0 0))) else (c2 7 0 0)))))
def s_P_deliver (N L : Nat) (c : sh_S) (x : Int32) : sh_S := (if (v_F_has N L c x) = 0 then c else (let c1 := s_F_read N L c x; (let c2 := s_F_remove N L c1 x; (if kF N (c2 7 0 2) then (if (c2 0 (((c2 7 0 2) : Int32).toNatClampNeg) 3) = 0 then c2 else (let c3 := s_P_arrive N L c2 (((c2 7 0 2) : Int32).toNatClampNeg); c3)) else c2))))
theorem kI_P_deliver {N L : Nat} {c : sh_S} {x : Int32} (hN : N ≤ 5) (hc : kI N c) : kI N (s_P_deliver N L c x) := by
  unfold s_P_deliver
  try dsimp only
  refine kI_ite (fun _ => ?_) (fun _ => ?_)
  · exact hc
  · refine kI_ite (fun hk => ?_) (fun _ => ?_)
    · have hi := (kF_lt hk hN).1
      refine kI_ite (fun _ => ?_) (fun _ => ?_)
      · exact (kI_F_remove (L := L) (kI_F_read (L := L) hc))
      · exact (kI_P_arrive (L := L) hi (kI_F_remove (L := L) (kI_F_read (L := L) hc)))
    · exact (kI_F_remove (L := L) (kI_F_read (L := L) hc))
set_option maxHeartbeats 4000000 in
set_option maxRecDepth 100000 in
theorem c_P_deliver {B : sh_B} {Z : mx_Z} {N L : Nat} {cI cR cZ : ClassId} (hb : wB B Z N L cI cR cZ) {c r : sh_S} {x : Int32} (hc : kI N c) : sc B Z y_P_deliver b_P_deliver 3 (some (.int)) (rmm 7 165) [.ref (B.2.1 8 0), .int x] (jn c r) (qe (some (.int (v_P_deliver N L c x))) (jn (s_P_deliver N L c x) r)) := by
  refine ct_of (by decide) (Nat.le_of_ble_eq_true rfl) (cat_of rfl) ?_
  intro X ok en _
  have hB := hb.1
  refine mr_lv [(0, .ref (B.2.1 8 0)), (1, .int x)] ⟨rfl, rfl, trivial⟩ ?_
  refine mr_aload_n ok (i := 0) d_P_deliver_0 rfl rfl ?_
  refine sx_getr ok hB fl_P_37 (tm_8 hb) rfl d_P_deliver_1 ?_
  refine mr_iload_n ok (i := 1) d_P_deliver_4 rfl rfl ?_
  refine sx_cVi ok hB [_] rfl cb_P_90 cv_F_has (tm_5 hb) rfl rfl (c_F_has hb) rfl (Nat.le_of_ble_eq_true rfl) (by decide) ⟨Nat.le_refl _, Nat.le_refl _⟩ d_P_deliver_5 ?_
  refine mr_if_ne ok 13 d_P_deliver_8 (by decide) (fun h8_0 => ?_) (fun h8_0 => ?_)
  · refine mr_aload_n ok (i := 0) d_P_deliver_13 rfl rfl ?_
    refine sx_getr ok hB fl_P_37 (tm_8 hb) rfl d_P_deliver_14 ?_
    refine mr_iload_n ok (i := 1) d_P_deliver_17 rfl rfl ?_
    refine mr_aload_n ok (i := 0) d_P_deliver_18 rfl rfl ?_
    refine sx_getr ok hB fl_P_44 (tm_8 hb) rfl d_P_deliver_19 ?_
    refine sx_cVv ok hB [_, _] rfl cb_P_93 cv_F_read (tm_5 hb) rfl rfl (c_F_read hb (by exact hc.1)) rfl (Nat.le_of_ble_eq_true rfl) (by decide) ⟨Nat.le_refl _, Nat.le_refl _⟩ d_P_deliver_22 ?_
    have hc : kI N (s_F_read N L c x) := kI_F_read (L := L) hc
    refine mr_aload_n ok (i := 0) d_P_deliver_25 rfl rfl ?_
    refine sx_getr ok hB fl_P_37 (tm_8 hb) rfl d_P_deliver_26 ?_
    refine mr_iload_n ok (i := 1) d_P_deliver_29 rfl rfl ?_
    refine sx_cVv ok hB [_] rfl cb_P_97 cv_F_remove (tm_5 hb) rfl rfl (c_F_remove hb (by exact hc.1)) rfl (Nat.le_of_ble_eq_true rfl) (by decide) ⟨Nat.le_refl _, Nat.le_refl _⟩ d_P_deliver_30 ?_
    have hc : kI N (s_F_remove N L (s_F_read N L c x) x) := kI_F_remove (L := L) hc
    refine mr_aload_n ok (i := 0) d_P_deliver_33 rfl rfl ?_
    refine mr_aload_n ok (i := 0) d_P_deliver_34 rfl rfl ?_
    refine sx_getr ok hB fl_P_44 (tm_8 hb) rfl d_P_deliver_35 ?_
    refine cx_geti ok hB rfl fl_P_101 (tm_7 hb) rfl d_P_deliver_38 ?_
    refine P_find_row ok hb (by decide) (by decide) (by decide) d_P_deliver_41 cb_P_48 (fun h41_1 hi => ?_) (fun h41_1 => ?_)
    · refine mr_astore_n ok (i := 2) d_P_deliver_44 rfl (by decide) ?_
      refine mr_aload_n ok (i := 2) d_P_deliver_45 rfl rfl ?_
      refine mr_ifnull ok d_P_deliver_46 ?_
      refine mr_aload_n ok (i := 2) d_P_deliver_49 rfl rfl ?_
      refine cx_geti ok hB rfl fl_P_52 (tm_0 hb hi) rfl d_P_deliver_50 ?_
      refine mr_if_eq ok 65 d_P_deliver_53 (by decide) (fun h53_2 => ?_) (fun h53_2 => ?_)
      · refine mr_aload_n ok (i := 0) d_P_deliver_65 rfl rfl ?_
        refine sx_getr ok hB fl_P_44 (tm_8 hb) rfl d_P_deliver_66 ?_
        refine cx_geti ok hB rfl fl_P_108 (tm_7 hb) rfl d_P_deliver_69 ?_
        refine sx_iret ok en (Nat.le_refl _) (Nat.le_refl _) d_P_deliver_72 ?_
        exact ⟨(by first | rfl | simp only [v_P_deliver, if_neg h8_0, if_pos h41_1, if_pos h53_2]), (by first | rfl | simp only [s_P_deliver, if_neg h8_0, if_pos h41_1, if_pos h53_2])⟩
      · refine mr_aload_n ok (i := 0) d_P_deliver_56 rfl rfl ?_
        refine mr_aload_n ok (i := 2) d_P_deliver_57 rfl rfl ?_
        refine mr_aload_n ok (i := 0) d_P_deliver_58 rfl rfl ?_
        refine sx_getr ok hB fl_P_44 (tm_8 hb) rfl d_P_deliver_59 ?_
        refine sx_cVv ok hB [_, _] rfl cb_P_104 cv_P_arrive (tm_8 hb) rfl rfl (c_P_arrive hb hi (by exact hc)) rfl (Nat.le_of_ble_eq_true rfl) (by decide) ⟨Nat.le_refl _, Nat.le_refl _⟩ d_P_deliver_62 ?_
        have hc : kI N (s_P_arrive N L (s_F_remove N L (s_F_read N L c x) x) ((((s_F_remove N L (s_F_read N L c x) x) 7 0 2) : Int32).toNatClampNeg)) := kI_P_arrive (L := L) hi hc
        refine mr_aload_n ok (i := 0) d_P_deliver_65 rfl rfl ?_
        refine sx_getr ok hB fl_P_44 (tm_8 hb) rfl d_P_deliver_66 ?_
        refine cx_geti ok hB rfl fl_P_108 (tm_7 hb) rfl d_P_deliver_69 ?_
        refine sx_iret ok en (Nat.le_refl _) (Nat.le_refl _) d_P_deliver_72 ?_
        exact ⟨(by first | rfl | simp only [v_P_deliver, if_neg h8_0, if_pos h41_1, if_neg h53_2]), (by first | rfl | simp only [s_P_deliver, if_neg h8_0, if_pos h41_1, if_neg h53_2])⟩
    · refine mr_astore_nN ok (i := 2) d_P_deliver_44 rfl (by decide) ?_
      refine mr_aload_nN ok (i := 2) d_P_deliver_45 rfl rfl ?_
      refine mr_ifnullN ok 65 d_P_deliver_46 (by decide) ?_
      refine mr_aload_n ok (i := 0) d_P_deliver_65 rfl rfl ?_
      refine sx_getr ok hB fl_P_44 (tm_8 hb) rfl d_P_deliver_66 ?_
      refine cx_geti ok hB rfl fl_P_108 (tm_7 hb) rfl d_P_deliver_69 ?_
      refine sx_iret ok en (Nat.le_refl _) (Nat.le_refl _) d_P_deliver_72 ?_
      exact ⟨(by first | rfl | simp only [v_P_deliver, if_neg h8_0, if_neg h41_1]), (by first | rfl | simp only [s_P_deliver, if_neg h8_0, if_neg h41_1])⟩
  · refine mr_iconst ok (-1) d_P_deliver_11 (by decide) ?_
    refine sx_iret ok en (Nat.le_refl _) (Nat.le_refl _) d_P_deliver_12 ?_
    exact ⟨(by first | rfl | simp only [v_P_deliver, if_pos h8_0]), (by first | rfl | simp only [s_P_deliver, if_pos h8_0])⟩
def v_P_lose (N L : Nat) (c : sh_S) (x : Int32) : Int32 := (if (v_F_has N L c x) = 0 then 0 else (let c1 := s_F_remove N L c x; 1))
def s_P_lose (N L : Nat) (c : sh_S) (x : Int32) : sh_S := (if (v_F_has N L c x) = 0 then c else (let c1 := s_F_remove N L c x; c1))
theorem kI_P_lose {N L : Nat} {c : sh_S} {x : Int32} (hc : kI N c) : kI N (s_P_lose N L c x) := by
  unfold s_P_lose
  try dsimp only
  refine kI_ite (fun _ => ?_) (fun _ => ?_)
  · exact hc
  · exact (kI_F_remove (L := L) hc)
set_option maxHeartbeats 4000000 in
set_option maxRecDepth 100000 in
theorem c_P_lose {B : sh_B} {Z : mx_Z} {N L : Nat} {cI cR cZ : ClassId} (hb : wB B Z N L cI cR cZ) {c r : sh_S} {x : Int32} (hc : kI N c) : sc B Z y_P_lose b_P_lose 2 (some (.boolean)) (rmm 2 62) [.ref (B.2.1 8 0), .int x] (jn c r) (qe (some (.int (v_P_lose N L c x))) (jn (s_P_lose N L c x) r)) := by
  refine ct_of (by decide) (Nat.le_of_ble_eq_true rfl) (cat_of rfl) ?_
  intro X ok en _
  have hB := hb.1
  refine mr_lv [(0, .ref (B.2.1 8 0)), (1, .int x)] ⟨rfl, rfl, trivial⟩ ?_
  refine mr_aload_n ok (i := 0) d_P_lose_0 rfl rfl ?_
  refine sx_getr ok hB fl_P_37 (tm_8 hb) rfl d_P_lose_1 ?_
  refine mr_iload_n ok (i := 1) d_P_lose_4 rfl rfl ?_
  refine sx_cVi ok hB [_] rfl cb_P_90 cv_F_has (tm_5 hb) rfl rfl (c_F_has hb) rfl (Nat.le_of_ble_eq_true rfl) (by decide) ⟨Nat.le_refl _, Nat.le_refl _⟩ d_P_lose_5 ?_
  refine mr_if_ne ok 13 d_P_lose_8 (by decide) (fun h8_0 => ?_) (fun h8_0 => ?_)
  · refine mr_aload_n ok (i := 0) d_P_lose_13 rfl rfl ?_
    refine sx_getr ok hB fl_P_37 (tm_8 hb) rfl d_P_lose_14 ?_
    refine mr_iload_n ok (i := 1) d_P_lose_17 rfl rfl ?_
    refine sx_cVv ok hB [_] rfl cb_P_97 cv_F_remove (tm_5 hb) rfl rfl (c_F_remove hb (by exact hc.1)) rfl (Nat.le_of_ble_eq_true rfl) (by decide) ⟨Nat.le_refl _, Nat.le_refl _⟩ d_P_lose_18 ?_
    have hc : kI N (s_F_remove N L c x) := kI_F_remove (L := L) hc
    refine mr_iconst ok 1 d_P_lose_21 (by decide) ?_
    refine sx_zret rfl ok en (Nat.le_refl _) (Nat.le_refl _) d_P_lose_22 ?_
    exact ⟨(by first | rfl | simp only [v_P_lose, if_neg h8_0]), (by first | rfl | simp only [s_P_lose, if_neg h8_0])⟩
  · refine mr_iconst ok 0 d_P_lose_11 (by decide) ?_
    refine sx_zret rfl ok en (Nat.le_refl _) (Nat.le_refl _) d_P_lose_12 ?_
    exact ⟨(by first | rfl | simp only [v_P_lose, if_pos h8_0]), (by first | rfl | simp only [s_P_lose, if_pos h8_0])⟩
def v_P_twice (N L : Nat) (c : sh_S) (x : Int32) : Int32 := (let c1 := s_F_repeat N L c x; (v_F_repeat N L c x))
def s_P_twice (N L : Nat) (c : sh_S) (x : Int32) : sh_S := (let c1 := s_F_repeat N L c x; c1)
theorem kI_P_twice {N L : Nat} {c : sh_S} {x : Int32} (hc : kI N c) : kI N (s_P_twice N L c x) := by
  unfold s_P_twice
  try dsimp only
  exact (kI_F_repeat (L := L) hc)
set_option maxHeartbeats 4000000 in
set_option maxRecDepth 100000 in
theorem c_P_twice {B : sh_B} {Z : mx_Z} {N L : Nat} {cI cR cZ : ClassId} (hb : wB B Z N L cI cR cZ) {c r : sh_S} {x : Int32} (hc : kI N c) : sc B Z y_P_twice b_P_twice 2 (some (.boolean)) (rmm 2 61) [.ref (B.2.1 8 0), .int x] (jn c r) (qe (some (.int (v_P_twice N L c x))) (jn (s_P_twice N L c x) r)) := by
  refine ct_of (by decide) (Nat.le_of_ble_eq_true rfl) (cat_of rfl) ?_
  intro X ok en _
  have hB := hb.1
  refine mr_lv [(0, .ref (B.2.1 8 0)), (1, .int x)] ⟨rfl, rfl, trivial⟩ ?_
  refine mr_aload_n ok (i := 0) d_P_twice_0 rfl rfl ?_
  refine sx_getr ok hB fl_P_37 (tm_8 hb) rfl d_P_twice_1 ?_
  refine mr_iload_n ok (i := 1) d_P_twice_4 rfl rfl ?_
  refine sx_cVi ok hB [_] rfl cb_P_111 cv_F_repeat (tm_5 hb) rfl rfl (c_F_repeat hb (by exact hc.1)) rfl (Nat.le_of_ble_eq_true rfl) (by decide) ⟨Nat.le_refl _, Nat.le_refl _⟩ d_P_twice_5 ?_
  have hc : kI N (s_F_repeat N L c x) := kI_F_repeat (L := L) hc
  refine sx_zret (zb_F_repeat ..) ok en (Nat.le_refl _) (Nat.le_refl _) d_P_twice_8 ?_
  exact ⟨(by first | rfl | simp only [v_P_twice]), (by first | rfl | simp only [s_P_twice])⟩
def v_P_turn (N L : Nat) (c : sh_S) (x : Int32) (y : Int32) : Int32 := (if kF N x then (if (c 0 ((x : Int32).toNatClampNeg) 3) = y then 0 else (let c1 := sU c 0 ((x : Int32).toNatClampNeg) 3 y; (let c2 := s_R_forget N L c1 ((x : Int32).toNatClampNeg); 1))) else 0)
def s_P_turn (N L : Nat) (c : sh_S) (x : Int32) (y : Int32) : sh_S := (if kF N x then (if (c 0 ((x : Int32).toNatClampNeg) 3) = y then c else (let c1 := sU c 0 ((x : Int32).toNatClampNeg) 3 y; (let c2 := s_R_forget N L c1 ((x : Int32).toNatClampNeg); c2))) else c)
theorem kI_P_turn {N L : Nat} {c : sh_S} {x : Int32} {y : Int32} (hN : N ≤ 5) (hc : kI N c) : kI N (s_P_turn N L c x y) := by
  unfold s_P_turn
  try dsimp only
  refine kI_ite (fun hk => ?_) (fun _ => ?_)
  · have hi := (kF_lt hk hN).1
    refine kI_ite (fun _ => ?_) (fun _ => ?_)
    · exact hc
    · exact (kI_R_forget (L := L) hi hc)
  · exact hc
set_option maxHeartbeats 4000000 in
set_option maxRecDepth 100000 in
theorem c_P_turn {B : sh_B} {Z : mx_Z} {N L : Nat} {cI cR cZ : ClassId} (hb : wB B Z N L cI cR cZ) {c r : sh_S} {x : Int32} {y : Int32} (hc : kI N c) (hy : narrow .boolean (.int y) = .int y ∧ fits .boolean (.int y) = true) : sc B Z y_P_turn b_P_turn 4 (some (.boolean)) (rmm 2 40) [.ref (B.2.1 8 0), .int x, .int y] (jn c r) (qe (some (.int (v_P_turn N L c x y))) (jn (s_P_turn N L c x y) r)) := by
  refine ct_of (by decide) (Nat.le_of_ble_eq_true rfl) (cat_of rfl) ?_
  intro X ok en _
  have hB := hb.1
  refine mr_lv [(0, .ref (B.2.1 8 0)), (1, .int x), (2, .int y)] ⟨rfl, rfl, rfl, trivial⟩ ?_
  refine mr_aload_n ok (i := 0) d_P_turn_0 rfl rfl ?_
  refine mr_iload_n ok (i := 1) d_P_turn_1 rfl rfl ?_
  refine P_find_row ok hb (by decide) (by decide) (by decide) d_P_turn_2 cb_P_48 (fun h2_0 hi => ?_) (fun h2_0 => ?_)
  · refine mr_astore_n ok (i := 3) d_P_turn_5 rfl (by decide) ?_
    refine mr_aload_n ok (i := 3) d_P_turn_6 rfl rfl ?_
    refine mr_ifnull ok d_P_turn_7 ?_
    refine mr_aload_n ok (i := 3) d_P_turn_10 rfl rfl ?_
    refine cx_geti ok hB rfl fl_P_52 (tm_0 hb hi) rfl d_P_turn_11 ?_
    refine mr_iload_n ok (i := 2) d_P_turn_14 rfl rfl ?_
    refine mr_icmp_ne ok 20 d_P_turn_15 (by decide) (fun h15_1 => ?_) (fun h15_1 => ?_)
    · refine mr_aload_n ok (i := 3) d_P_turn_20 rfl rfl ?_
      refine mr_iload_n ok (i := 2) d_P_turn_21 rfl rfl ?_
      refine cx_put ok hB rfl fw_P_52 (tm_0 hb hi) rfl hy.1 hy.2 d_P_turn_22 ?_
      refine mr_aload_n ok (i := 3) d_P_turn_25 rfl rfl ?_
      refine sx_cVv ok hB [] rfl cb_P_114 cv_R_forget (tm_0 hb hi) rfl rfl (c_R_forget hb hi) rfl (Nat.le_of_ble_eq_true rfl) (by decide) ⟨Nat.le_refl _, Nat.le_refl _⟩ d_P_turn_26 ?_
      have hc : kI N (s_R_forget N L (sU c 0 ((x : Int32).toNatClampNeg) 3 y) ((x : Int32).toNatClampNeg)) := kI_R_forget (L := L) hi hc
      refine mr_iconst ok 1 d_P_turn_29 (by decide) ?_
      refine sx_zret rfl ok en (Nat.le_refl _) (Nat.le_refl _) d_P_turn_30 ?_
      exact ⟨(by first | rfl | simp only [v_P_turn, if_pos h2_0, if_neg h15_1]), (by first | rfl | simp only [s_P_turn, if_pos h2_0, if_neg h15_1])⟩
    · refine mr_iconst ok 0 d_P_turn_18 (by decide) ?_
      refine sx_zret rfl ok en (Nat.le_refl _) (Nat.le_refl _) d_P_turn_19 ?_
      exact ⟨(by first | rfl | simp only [v_P_turn, if_pos h2_0, if_pos h15_1]), (by first | rfl | simp only [s_P_turn, if_pos h2_0, if_pos h15_1])⟩
  · refine mr_astore_nN ok (i := 3) d_P_turn_5 rfl (by decide) ?_
    refine mr_aload_nN ok (i := 3) d_P_turn_6 rfl rfl ?_
    refine mr_ifnullN ok 18 d_P_turn_7 (by decide) ?_
    refine mr_iconst ok 0 d_P_turn_18 (by decide) ?_
    refine sx_zret rfl ok en (Nat.le_refl _) (Nat.le_refl _) d_P_turn_19 ?_
    exact ⟨(by first | rfl | simp only [v_P_turn, if_neg h2_0]), (by first | rfl | simp only [s_P_turn, if_neg h2_0])⟩
def v_P_replica (N L : Nat) (c : sh_S) (x : Int32) (y : Int32) : Int32 := (if kF N x then (if y = 0 then (if (c 0 ((x : Int32).toNatClampNeg) 3) = 0 then 0 else 1) else (if y = 1 then (c 1 ((x : Int32).toNatClampNeg) 2) else (if y = 2 then (c 1 ((x : Int32).toNatClampNeg) 3) else (if y = 3 then (v_G_ahead N L c ((x : Int32).toNatClampNeg)) else (if y = 4 then (c 0 ((x : Int32).toNatClampNeg) 4) else (if y = 5 then (if (v_R_hasAccepted N L c ((x : Int32).toNatClampNeg)) = 0 then (-1) else (c 0 ((x : Int32).toNatClampNeg) 5)) else (if y = 6 then (c 0 ((x : Int32).toNatClampNeg) 6) else (if (c 0 ((x : Int32).toNatClampNeg) 3) = 0 then (-1) else (v_R_passing N L c ((x : Int32).toNatClampNeg) y))))))))) else (-1))
set_option maxHeartbeats 4000000 in
set_option maxRecDepth 100000 in
theorem c_P_replica {B : sh_B} {Z : mx_Z} {N L : Nat} {cI cR cZ : ClassId} (hb : wB B Z N L cI cR cZ) {c r : sh_S} {x : Int32} {y : Int32} (hc : kI N c) : sc B Z y_P_replica b_P_replica 4 (some (.int)) (rmm 2 42) [.ref (B.2.1 8 0), .int x, .int y] (jn c r) (qe (some (.int (v_P_replica N L c x y))) (jn c r)) := by
  refine ct_of (by decide) (Nat.le_of_ble_eq_true rfl) (cat_of rfl) ?_
  intro X ok en _
  have hB := hb.1
  refine mr_lv [(0, .ref (B.2.1 8 0)), (1, .int x), (2, .int y)] ⟨rfl, rfl, rfl, trivial⟩ ?_
  refine mr_aload_n ok (i := 0) d_P_replica_0 rfl rfl ?_
  refine mr_iload_n ok (i := 1) d_P_replica_1 rfl rfl ?_
  refine P_find_row ok hb (by decide) (by decide) (by decide) d_P_replica_2 cb_P_48 (fun h2_0 hi => ?_) (fun h2_0 => ?_)
  · refine mr_astore_n ok (i := 3) d_P_replica_5 rfl (by decide) ?_
    refine mr_aload_n ok (i := 3) d_P_replica_6 rfl rfl ?_
    refine mr_ifnonnull ok 12 d_P_replica_7 (by decide) ?_
    refine mr_iload_n ok (i := 2) d_P_replica_12 rfl rfl ?_
    by_cases h13_1_0 : y = 0
    · refine mr_tableIn (off := 43) ok 56 d_P_replica_13 (by rw [h13_1_0]; decide) (by rw [h13_1_0]; decide) (by rw [h13_1_0]; decide) (by decide) ?_
      refine mr_aload_n ok (i := 3) d_P_replica_56 rfl rfl ?_
      refine cx_geti ok hB rfl fl_P_52 (tm_0 hb hi) rfl d_P_replica_57 ?_
      refine mr_if_eq ok 67 d_P_replica_60 (by decide) (fun h60_2 => ?_) (fun h60_2 => ?_)
      · refine mr_iconst ok 0 d_P_replica_67 (by decide) ?_
        refine sx_iret ok en (Nat.le_refl _) (Nat.le_refl _) d_P_replica_68 ?_
        exact ⟨(by first | rfl | simp only [v_P_replica, if_pos h2_0, if_pos h13_1_0, if_pos h60_2]), (by first | rfl | simp only [s_P_replica, if_pos h2_0, if_pos h13_1_0, if_pos h60_2])⟩
      · refine mr_iconst ok 1 d_P_replica_63 (by decide) ?_
        refine mr_goto ok 68 d_P_replica_64 (by decide) ?_
        refine sx_iret ok en (Nat.le_refl _) (Nat.le_refl _) d_P_replica_68 ?_
        exact ⟨(by first | rfl | simp only [v_P_replica, if_pos h2_0, if_pos h13_1_0, if_neg h60_2]), (by first | rfl | simp only [s_P_replica, if_pos h2_0, if_pos h13_1_0, if_neg h60_2])⟩
    by_cases h13_1_1 : y = 1
    · refine mr_tableIn (off := 56) ok 69 d_P_replica_13 (by rw [h13_1_1]; decide) (by rw [h13_1_1]; decide) (by rw [h13_1_1]; decide) (by decide) ?_
      refine mr_aload_n ok (i := 3) d_P_replica_69 rfl rfl ?_
      refine sx_getr ok hB fl_P_117 (tm_0 hb hi) rfl d_P_replica_70 ?_
      refine cx_geti ok hB rfl fl_P_121 (tm_1 hb hi) rfl d_P_replica_73 ?_
      refine sx_iret ok en (Nat.le_refl _) (Nat.le_refl _) d_P_replica_76 ?_
      exact ⟨(by first | rfl | simp only [v_P_replica, if_pos h2_0, if_neg h13_1_0, if_pos h13_1_1]), (by first | rfl | simp only [s_P_replica, if_pos h2_0, if_neg h13_1_0, if_pos h13_1_1])⟩
    by_cases h13_1_2 : y = 2
    · refine mr_tableIn (off := 64) ok 77 d_P_replica_13 (by rw [h13_1_2]; decide) (by rw [h13_1_2]; decide) (by rw [h13_1_2]; decide) (by decide) ?_
      refine mr_aload_n ok (i := 3) d_P_replica_77 rfl rfl ?_
      refine sx_getr ok hB fl_P_117 (tm_0 hb hi) rfl d_P_replica_78 ?_
      refine cx_geti ok hB rfl fl_P_126 (tm_1 hb hi) rfl d_P_replica_81 ?_
      refine sx_iret ok en (Nat.le_refl _) (Nat.le_refl _) d_P_replica_84 ?_
      exact ⟨(by first | rfl | simp only [v_P_replica, if_pos h2_0, if_neg h13_1_0, if_neg h13_1_1, if_pos h13_1_2]), (by first | rfl | simp only [s_P_replica, if_pos h2_0, if_neg h13_1_0, if_neg h13_1_1, if_pos h13_1_2])⟩
    by_cases h13_1_3 : y = 3
    · refine mr_tableIn (off := 72) ok 85 d_P_replica_13 (by rw [h13_1_3]; decide) (by rw [h13_1_3]; decide) (by rw [h13_1_3]; decide) (by decide) ?_
      refine mr_aload_n ok (i := 3) d_P_replica_85 rfl rfl ?_
      refine sx_getr ok hB fl_P_117 (tm_0 hb hi) rfl d_P_replica_86 ?_
      refine sx_cVi ok hB [] rfl cb_P_129 cv_G_ahead (tm_1 hb hi) rfl rfl (c_G_ahead hb hi) rfl (Nat.le_of_ble_eq_true rfl) (by decide) ⟨Nat.le_refl _, Nat.le_refl _⟩ d_P_replica_89 ?_
      refine sx_iret ok en (Nat.le_refl _) (Nat.le_refl _) d_P_replica_92 ?_
      exact ⟨(by first | rfl | simp only [v_P_replica, if_pos h2_0, if_neg h13_1_0, if_neg h13_1_1, if_neg h13_1_2, if_pos h13_1_3]), (by first | rfl | simp only [s_P_replica, if_pos h2_0, if_neg h13_1_0, if_neg h13_1_1, if_neg h13_1_2, if_pos h13_1_3])⟩
    by_cases h13_1_4 : y = 4
    · refine mr_tableIn (off := 80) ok 93 d_P_replica_13 (by rw [h13_1_4]; decide) (by rw [h13_1_4]; decide) (by rw [h13_1_4]; decide) (by decide) ?_
      refine mr_aload_n ok (i := 3) d_P_replica_93 rfl rfl ?_
      refine cx_geti ok hB rfl fl_P_133 (tm_0 hb hi) rfl d_P_replica_94 ?_
      refine sx_iret ok en (Nat.le_refl _) (Nat.le_refl _) d_P_replica_97 ?_
      exact ⟨(by first | rfl | simp only [v_P_replica, if_pos h2_0, if_neg h13_1_0, if_neg h13_1_1, if_neg h13_1_2, if_neg h13_1_3, if_pos h13_1_4]), (by first | rfl | simp only [s_P_replica, if_pos h2_0, if_neg h13_1_0, if_neg h13_1_1, if_neg h13_1_2, if_neg h13_1_3, if_pos h13_1_4])⟩
    by_cases h13_1_5 : y = 5
    · refine mr_tableIn (off := 85) ok 98 d_P_replica_13 (by rw [h13_1_5]; decide) (by rw [h13_1_5]; decide) (by rw [h13_1_5]; decide) (by decide) ?_
      refine mr_aload_n ok (i := 3) d_P_replica_98 rfl rfl ?_
      refine sx_cVi ok hB [] rfl cb_P_136 cv_R_hasAccepted (tm_0 hb hi) rfl rfl (c_R_hasAccepted hb hi) rfl (Nat.le_of_ble_eq_true rfl) (by decide) ⟨Nat.le_refl _, Nat.le_refl _⟩ d_P_replica_99 ?_
      refine mr_if_eq ok 112 d_P_replica_102 (by decide) (fun h102_7 => ?_) (fun h102_7 => ?_)
      · refine mr_iconst ok (-1) d_P_replica_112 (by decide) ?_
        refine sx_iret ok en (Nat.le_refl _) (Nat.le_refl _) d_P_replica_113 ?_
        exact ⟨(by first | rfl | simp only [v_P_replica, if_pos h2_0, if_neg h13_1_0, if_neg h13_1_1, if_neg h13_1_2, if_neg h13_1_3, if_neg h13_1_4, if_pos h13_1_5, if_pos h102_7]), (by first | rfl | simp only [s_P_replica, if_pos h2_0, if_neg h13_1_0, if_neg h13_1_1, if_neg h13_1_2, if_neg h13_1_3, if_neg h13_1_4, if_pos h13_1_5, if_pos h102_7])⟩
      · refine mr_aload_n ok (i := 3) d_P_replica_105 rfl rfl ?_
        refine cx_geti ok hB rfl fl_P_140 (tm_0 hb hi) rfl d_P_replica_106 ?_
        refine mr_goto ok 113 d_P_replica_109 (by decide) ?_
        refine sx_iret ok en (Nat.le_refl _) (Nat.le_refl _) d_P_replica_113 ?_
        exact ⟨(by first | rfl | simp only [v_P_replica, if_pos h2_0, if_neg h13_1_0, if_neg h13_1_1, if_neg h13_1_2, if_neg h13_1_3, if_neg h13_1_4, if_pos h13_1_5, if_neg h102_7]), (by first | rfl | simp only [s_P_replica, if_pos h2_0, if_neg h13_1_0, if_neg h13_1_1, if_neg h13_1_2, if_neg h13_1_3, if_neg h13_1_4, if_pos h13_1_5, if_neg h102_7])⟩
    by_cases h13_1_6 : y = 6
    · refine mr_tableIn (off := 101) ok 114 d_P_replica_13 (by rw [h13_1_6]; decide) (by rw [h13_1_6]; decide) (by rw [h13_1_6]; decide) (by decide) ?_
      refine mr_aload_n ok (i := 3) d_P_replica_114 rfl rfl ?_
      refine cx_geti ok hB rfl fl_P_143 (tm_0 hb hi) rfl d_P_replica_115 ?_
      refine sx_iret ok en (Nat.le_refl _) (Nat.le_refl _) d_P_replica_118 ?_
      exact ⟨(by first | rfl | simp only [v_P_replica, if_pos h2_0, if_neg h13_1_0, if_neg h13_1_1, if_neg h13_1_2, if_neg h13_1_3, if_neg h13_1_4, if_neg h13_1_5, if_pos h13_1_6]), (by first | rfl | simp only [s_P_replica, if_pos h2_0, if_neg h13_1_0, if_neg h13_1_1, if_neg h13_1_2, if_neg h13_1_3, if_neg h13_1_4, if_neg h13_1_5, if_pos h13_1_6])⟩
    have th13_1_0 := lv_neT h13_1_0 (a := 0) (by decide)
    have th13_1_1 := lv_neT h13_1_1 (a := 1) (by decide)
    have th13_1_2 := lv_neT h13_1_2 (a := 2) (by decide)
    have th13_1_3 := lv_neT h13_1_3 (a := 3) (by decide)
    have th13_1_4 := lv_neT h13_1_4 (a := 4) (by decide)
    have th13_1_5 := lv_neT h13_1_5 (a := 5) (by decide)
    have th13_1_6 := lv_neT h13_1_6 (a := 6) (by decide)
    refine mr_tableOut ok 119 d_P_replica_13 (by omega) (by decide) ?_
    refine mr_aload_n ok (i := 3) d_P_replica_119 rfl rfl ?_
    refine cx_geti ok hB rfl fl_P_52 (tm_0 hb hi) rfl d_P_replica_120 ?_
    refine mr_if_eq ok 134 d_P_replica_123 (by decide) (fun h123_8 => ?_) (fun h123_8 => ?_)
    · refine mr_iconst ok (-1) d_P_replica_134 (by decide) ?_
      refine sx_iret ok en (Nat.le_refl _) (Nat.le_refl _) d_P_replica_135 ?_
      exact ⟨(by first | rfl | simp only [v_P_replica, if_pos h2_0, if_neg h13_1_0, if_neg h13_1_1, if_neg h13_1_2, if_neg h13_1_3, if_neg h13_1_4, if_neg h13_1_5, if_neg h13_1_6, if_pos h123_8]), (by first | rfl | simp only [s_P_replica, if_pos h2_0, if_neg h13_1_0, if_neg h13_1_1, if_neg h13_1_2, if_neg h13_1_3, if_neg h13_1_4, if_neg h13_1_5, if_neg h13_1_6, if_pos h123_8])⟩
    · refine mr_aload_n ok (i := 3) d_P_replica_126 rfl rfl ?_
      refine mr_iload_n ok (i := 2) d_P_replica_127 rfl rfl ?_
      refine sx_cVi ok hB [_] rfl cb_P_146 cv_R_passing (tm_0 hb hi) rfl rfl (c_R_passing hb hi) rfl (Nat.le_of_ble_eq_true rfl) (by decide) ⟨Nat.le_refl _, Nat.le_refl _⟩ d_P_replica_128 ?_
      refine mr_goto ok 135 d_P_replica_131 (by decide) ?_
      refine sx_iret ok en (Nat.le_refl _) (Nat.le_refl _) d_P_replica_135 ?_
      exact ⟨(by first | rfl | simp only [v_P_replica, if_pos h2_0, if_neg h13_1_0, if_neg h13_1_1, if_neg h13_1_2, if_neg h13_1_3, if_neg h13_1_4, if_neg h13_1_5, if_neg h13_1_6, if_neg h123_8]), (by first | rfl | simp only [s_P_replica, if_pos h2_0, if_neg h13_1_0, if_neg h13_1_1, if_neg h13_1_2, if_neg h13_1_3, if_neg h13_1_4, if_neg h13_1_5, if_neg h13_1_6, if_neg h123_8])⟩
  · refine mr_astore_nN ok (i := 3) d_P_replica_5 rfl (by decide) ?_
    refine mr_aload_nN ok (i := 3) d_P_replica_6 rfl rfl ?_
    refine mr_ifnonnullN ok d_P_replica_7 ?_
    refine mr_iconst ok (-1) d_P_replica_10 (by decide) ?_
    refine sx_iret ok en (Nat.le_refl _) (Nat.le_refl _) d_P_replica_11 ?_
    exact ⟨(by first | rfl | simp only [v_P_replica, if_neg h2_0]), (by first | rfl | simp only [s_P_replica, if_neg h2_0])⟩
def v_P_slot (N L : Nat) (c : sh_S) (x : Int32) (y : Int32) : Int32 := (if kF N x then (v_G_numberOf N L c ((x : Int32).toNatClampNeg) y) else 0)
set_option maxHeartbeats 4000000 in
set_option maxRecDepth 100000 in
theorem c_P_slot {B : sh_B} {Z : mx_Z} {N L : Nat} {cI cR cZ : ClassId} (hb : wB B Z N L cI cR cZ) {c r : sh_S} {x : Int32} {y : Int32} (hc : kI N c) : sc B Z y_P_slot b_P_slot 4 (some (.int)) (rmm 4 84) [.ref (B.2.1 8 0), .int x, .int y] (jn c r) (qe (some (.int (v_P_slot N L c x y))) (jn c r)) := by
  refine ct_of (by decide) (Nat.le_of_ble_eq_true rfl) (cat_of rfl) ?_
  intro X ok en _
  have hB := hb.1
  refine mr_lv [(0, .ref (B.2.1 8 0)), (1, .int x), (2, .int y)] ⟨rfl, rfl, rfl, trivial⟩ ?_
  refine mr_aload_n ok (i := 0) d_P_slot_0 rfl rfl ?_
  refine mr_iload_n ok (i := 1) d_P_slot_1 rfl rfl ?_
  refine P_find_row ok hb (by decide) (by decide) (by decide) d_P_slot_2 cb_P_48 (fun h2_0 hi => ?_) (fun h2_0 => ?_)
  · refine mr_astore_n ok (i := 3) d_P_slot_5 rfl (by decide) ?_
    refine mr_aload_n ok (i := 3) d_P_slot_6 rfl rfl ?_
    refine mr_ifnonnull ok 14 d_P_slot_7 (by decide) ?_
    refine mr_aload_n ok (i := 3) d_P_slot_14 rfl rfl ?_
    refine sx_getr ok hB fl_P_117 (tm_0 hb hi) rfl d_P_slot_15 ?_
    refine mr_iload_n ok (i := 2) d_P_slot_18 rfl rfl ?_
    refine sx_cVi ok hB [_] rfl cb_P_150 cv_G_numberOf (tm_1 hb hi) rfl rfl (c_G_numberOf hb hi) rfl (Nat.le_of_ble_eq_true rfl) (by decide) ⟨Nat.le_refl _, Nat.le_refl _⟩ d_P_slot_19 ?_
    refine sx_iret ok en (Nat.le_refl _) (Nat.le_refl _) d_P_slot_22 ?_
    exact ⟨(by first | rfl | simp only [v_P_slot, if_pos h2_0]), (by first | rfl | simp only [s_P_slot, if_pos h2_0])⟩
  · refine mr_astore_nN ok (i := 3) d_P_slot_5 rfl (by decide) ?_
    refine mr_aload_nN ok (i := 3) d_P_slot_6 rfl rfl ?_
    refine mr_ifnonnullN ok d_P_slot_7 ?_
    refine mr_iconst ok 0 d_P_slot_10 (by decide) ?_
    refine mr_goto ok 22 d_P_slot_11 (by decide) ?_
    refine sx_iret ok en (Nat.le_refl _) (Nat.le_refl _) d_P_slot_22 ?_
    exact ⟨(by first | rfl | simp only [v_P_slot, if_neg h2_0]), (by first | rfl | simp only [s_P_slot, if_neg h2_0])⟩
def v_P_waiting (N L : Nat) (c : sh_S) (x : Int32) (y : Int32) : Int32 := (if kF N x then (if (c 0 ((x : Int32).toNatClampNeg) 3) = 0 then 0 else (v_L_at N L c ((x : Int32).toNatClampNeg) y)) else 0)
set_option maxHeartbeats 4000000 in
set_option maxRecDepth 100000 in
theorem c_P_waiting {B : sh_B} {Z : mx_Z} {N L : Nat} {cI cR cZ : ClassId} (hb : wB B Z N L cI cR cZ) {c r : sh_S} {x : Int32} {y : Int32} (hc : kI N c) : sc B Z y_P_waiting b_P_waiting 4 (some (.int)) (rmm 1 21) [.ref (B.2.1 8 0), .int x, .int y] (jn c r) (qe (some (.int (v_P_waiting N L c x y))) (jn c r)) := by
  refine ct_of (by decide) (Nat.le_of_ble_eq_true rfl) (cat_of rfl) ?_
  intro X ok en _
  have hB := hb.1
  refine mr_lv [(0, .ref (B.2.1 8 0)), (1, .int x), (2, .int y)] ⟨rfl, rfl, rfl, trivial⟩ ?_
  refine mr_aload_n ok (i := 0) d_P_waiting_0 rfl rfl ?_
  refine mr_iload_n ok (i := 1) d_P_waiting_1 rfl rfl ?_
  refine P_find_row ok hb (by decide) (by decide) (by decide) d_P_waiting_2 cb_P_48 (fun h2_0 hi => ?_) (fun h2_0 => ?_)
  · refine mr_astore_n ok (i := 3) d_P_waiting_5 rfl (by decide) ?_
    refine mr_aload_n ok (i := 3) d_P_waiting_6 rfl rfl ?_
    refine mr_ifnull ok d_P_waiting_7 ?_
    refine mr_aload_n ok (i := 3) d_P_waiting_10 rfl rfl ?_
    refine cx_geti ok hB rfl fl_P_52 (tm_0 hb hi) rfl d_P_waiting_11 ?_
    refine mr_if_ne ok 21 d_P_waiting_14 (by decide) (fun h14_1 => ?_) (fun h14_1 => ?_)
    · refine mr_aload_n ok (i := 3) d_P_waiting_21 rfl rfl ?_
      refine sx_getr ok hB fl_P_56 (tm_0 hb hi) rfl d_P_waiting_22 ?_
      refine mr_iload_n ok (i := 2) d_P_waiting_25 rfl rfl ?_
      refine sx_cVi ok hB [_] rfl cb_P_153 cv_L_at (tm_3 hb hi) rfl rfl (c_L_at hb hi (by exact hc.2 _ hi)) rfl (Nat.le_of_ble_eq_true rfl) (by decide) ⟨Nat.le_refl _, Nat.le_refl _⟩ d_P_waiting_26 ?_
      refine sx_iret ok en (Nat.le_refl _) (Nat.le_refl _) d_P_waiting_29 ?_
      exact ⟨(by first | rfl | simp only [v_P_waiting, if_pos h2_0, if_neg h14_1]), (by first | rfl | simp only [s_P_waiting, if_pos h2_0, if_neg h14_1])⟩
    · refine mr_iconst ok 0 d_P_waiting_17 (by decide) ?_
      refine mr_goto ok 29 d_P_waiting_18 (by decide) ?_
      refine sx_iret ok en (Nat.le_refl _) (Nat.le_refl _) d_P_waiting_29 ?_
      exact ⟨(by first | rfl | simp only [v_P_waiting, if_pos h2_0, if_pos h14_1]), (by first | rfl | simp only [s_P_waiting, if_pos h2_0, if_pos h14_1])⟩
  · refine mr_astore_nN ok (i := 3) d_P_waiting_5 rfl (by decide) ?_
    refine mr_aload_nN ok (i := 3) d_P_waiting_6 rfl rfl ?_
    refine mr_ifnullN ok 17 d_P_waiting_7 (by decide) ?_
    refine mr_iconst ok 0 d_P_waiting_17 (by decide) ?_
    refine mr_goto ok 29 d_P_waiting_18 (by decide) ?_
    refine sx_iret ok en (Nat.le_refl _) (Nat.le_refl _) d_P_waiting_29 ?_
    exact ⟨(by first | rfl | simp only [v_P_waiting, if_neg h2_0]), (by first | rfl | simp only [s_P_waiting, if_neg h2_0])⟩
def v_P_message (N L : Nat) (c : sh_S) (x : Int32) (y : Int32) : Int32 := (v_F_cell N L c x y)
set_option maxHeartbeats 4000000 in
set_option maxRecDepth 100000 in
theorem c_P_message {B : sh_B} {Z : mx_Z} {N L : Nat} {cI cR cZ : ClassId} (hb : wB B Z N L cI cR cZ) {c r : sh_S} {x : Int32} {y : Int32} (hc : kI N c) : sc B Z y_P_message b_P_message 3 (some (.int)) (rmm 2 43) [.ref (B.2.1 8 0), .int x, .int y] (jn c r) (qe (some (.int (v_P_message N L c x y))) (jn c r)) := by
  refine ct_of (by decide) (Nat.le_of_ble_eq_true rfl) (cat_of rfl) ?_
  intro X ok en _
  have hB := hb.1
  refine mr_lv [(0, .ref (B.2.1 8 0)), (1, .int x), (2, .int y)] ⟨rfl, rfl, rfl, trivial⟩ ?_
  refine mr_aload_n ok (i := 0) d_P_message_0 rfl rfl ?_
  refine sx_getr ok hB fl_P_37 (tm_8 hb) rfl d_P_message_1 ?_
  refine mr_iload_n ok (i := 1) d_P_message_4 rfl rfl ?_
  refine mr_iload_n ok (i := 2) d_P_message_5 rfl rfl ?_
  refine sx_cVi ok hB [_, _] rfl cb_P_156 cv_F_cell (tm_5 hb) rfl rfl (c_F_cell hb (by exact hc.1)) rfl (Nat.le_of_ble_eq_true rfl) (by decide) ⟨Nat.le_refl _, Nat.le_refl _⟩ d_P_message_6 ?_
  refine sx_iret ok en (Nat.le_refl _) (Nat.le_refl _) d_P_message_9 ?_
  exact ⟨(by first | rfl | simp only [v_P_message]), (by first | rfl | simp only [s_P_message])⟩
def v_P_look (N L : Nat) (c : sh_S) (x : Int32) : Int32 := (if x = 0 then (nI N) else (if x = 1 then (nI L) else (if x = 2 then (c 5 0 1) else (if x = 3 then (c 5 0 2) else (if x = 4 then (c 5 0 3) else (if x = 5 then (v_P_greatestIndex N L c) else (-1)))))))
set_option maxHeartbeats 4000000 in
set_option maxRecDepth 100000 in
theorem c_P_look {B : sh_B} {Z : mx_Z} {N L : Nat} {cI cR cZ : ClassId} (hb : wB B Z N L cI cR cZ) {c r : sh_S} {x : Int32} (hc : kI N c) : sc B Z y_P_look b_P_look 2 (some (.int)) (rmm 2 44) [.ref (B.2.1 8 0), .int x] (jn c r) (qe (some (.int (v_P_look N L c x))) (jn c r)) := by
  refine ct_of (by decide) (Nat.le_of_ble_eq_true rfl) (cat_of rfl) ?_
  intro X ok en _
  have hB := hb.1
  refine mr_lv [(0, .ref (B.2.1 8 0)), (1, .int x)] ⟨rfl, rfl, trivial⟩ ?_
  refine mr_iload_n ok (i := 1) d_P_look_0 rfl rfl ?_
  by_cases h1_0_0 : x = 0
  · refine mr_tableIn (off := 39) ok 40 d_P_look_1 (by rw [h1_0_0]; decide) (by rw [h1_0_0]; decide) (by rw [h1_0_0]; decide) (by decide) ?_
    refine mr_aload_n ok (i := 0) d_P_look_40 rfl rfl ?_
    refine sx_getr ok hB fl_P_18 (tm_8 hb) rfl d_P_look_41 ?_
    refine sx_iret ok en (Nat.le_refl _) (Nat.le_refl _) d_P_look_44 ?_
    exact ⟨(by first | rfl | simp only [v_P_look, if_pos h1_0_0]), (by first | rfl | simp only [s_P_look, if_pos h1_0_0])⟩
  by_cases h1_0_1 : x = 1
  · refine mr_tableIn (off := 44) ok 45 d_P_look_1 (by rw [h1_0_1]; decide) (by rw [h1_0_1]; decide) (by rw [h1_0_1]; decide) (by decide) ?_
    refine mr_aload_n ok (i := 0) d_P_look_45 rfl rfl ?_
    refine sx_getr ok hB fl_P_22 (tm_8 hb) rfl d_P_look_46 ?_
    refine sx_iret ok en (Nat.le_refl _) (Nat.le_refl _) d_P_look_49 ?_
    exact ⟨(by first | rfl | simp only [v_P_look, if_neg h1_0_0, if_pos h1_0_1]), (by first | rfl | simp only [s_P_look, if_neg h1_0_0, if_pos h1_0_1])⟩
  by_cases h1_0_2 : x = 2
  · refine mr_tableIn (off := 49) ok 50 d_P_look_1 (by rw [h1_0_2]; decide) (by rw [h1_0_2]; decide) (by rw [h1_0_2]; decide) (by decide) ?_
    refine mr_aload_n ok (i := 0) d_P_look_50 rfl rfl ?_
    refine sx_getr ok hB fl_P_37 (tm_8 hb) rfl d_P_look_51 ?_
    refine cx_geti ok hB rfl fl_P_89 (tm_5 hb) rfl d_P_look_54 ?_
    refine sx_iret ok en (Nat.le_refl _) (Nat.le_refl _) d_P_look_57 ?_
    exact ⟨(by first | rfl | simp only [v_P_look, if_neg h1_0_0, if_neg h1_0_1, if_pos h1_0_2]), (by first | rfl | simp only [s_P_look, if_neg h1_0_0, if_neg h1_0_1, if_pos h1_0_2])⟩
  by_cases h1_0_3 : x = 3
  · refine mr_tableIn (off := 57) ok 58 d_P_look_1 (by rw [h1_0_3]; decide) (by rw [h1_0_3]; decide) (by rw [h1_0_3]; decide) (by decide) ?_
    refine mr_aload_n ok (i := 0) d_P_look_58 rfl rfl ?_
    refine sx_getr ok hB fl_P_37 (tm_8 hb) rfl d_P_look_59 ?_
    refine cx_geti ok hB rfl fl_P_159 (tm_5 hb) rfl d_P_look_62 ?_
    refine sx_iret ok en (Nat.le_refl _) (Nat.le_refl _) d_P_look_65 ?_
    exact ⟨(by first | rfl | simp only [v_P_look, if_neg h1_0_0, if_neg h1_0_1, if_neg h1_0_2, if_pos h1_0_3]), (by first | rfl | simp only [s_P_look, if_neg h1_0_0, if_neg h1_0_1, if_neg h1_0_2, if_pos h1_0_3])⟩
  by_cases h1_0_4 : x = 4
  · refine mr_tableIn (off := 65) ok 66 d_P_look_1 (by rw [h1_0_4]; decide) (by rw [h1_0_4]; decide) (by rw [h1_0_4]; decide) (by decide) ?_
    refine mr_aload_n ok (i := 0) d_P_look_66 rfl rfl ?_
    refine sx_getr ok hB fl_P_37 (tm_8 hb) rfl d_P_look_67 ?_
    refine cx_geti ok hB rfl fl_P_162 (tm_5 hb) rfl d_P_look_70 ?_
    refine sx_iret ok en (Nat.le_refl _) (Nat.le_refl _) d_P_look_73 ?_
    exact ⟨(by first | rfl | simp only [v_P_look, if_neg h1_0_0, if_neg h1_0_1, if_neg h1_0_2, if_neg h1_0_3, if_pos h1_0_4]), (by first | rfl | simp only [s_P_look, if_neg h1_0_0, if_neg h1_0_1, if_neg h1_0_2, if_neg h1_0_3, if_pos h1_0_4])⟩
  by_cases h1_0_5 : x = 5
  · refine mr_tableIn (off := 73) ok 74 d_P_look_1 (by rw [h1_0_5]; decide) (by rw [h1_0_5]; decide) (by rw [h1_0_5]; decide) (by decide) ?_
    refine mr_aload_n ok (i := 0) d_P_look_74 rfl rfl ?_
    refine sx_cVi ok hB [] rfl cb_P_165 cv_P_greatestIndex (tm_8 hb) rfl rfl (c_P_greatestIndex hb) rfl (Nat.le_of_ble_eq_true rfl) (by decide) ⟨Nat.le_refl _, Nat.le_refl _⟩ d_P_look_75 ?_
    refine sx_iret ok en (Nat.le_refl _) (Nat.le_refl _) d_P_look_78 ?_
    exact ⟨(by first | rfl | simp only [v_P_look, if_neg h1_0_0, if_neg h1_0_1, if_neg h1_0_2, if_neg h1_0_3, if_neg h1_0_4, if_pos h1_0_5]), (by first | rfl | simp only [s_P_look, if_neg h1_0_0, if_neg h1_0_1, if_neg h1_0_2, if_neg h1_0_3, if_neg h1_0_4, if_pos h1_0_5])⟩
  have th1_0_0 := lv_neT h1_0_0 (a := 0) (by decide)
  have th1_0_1 := lv_neT h1_0_1 (a := 1) (by decide)
  have th1_0_2 := lv_neT h1_0_2 (a := 2) (by decide)
  have th1_0_3 := lv_neT h1_0_3 (a := 3) (by decide)
  have th1_0_4 := lv_neT h1_0_4 (a := 4) (by decide)
  have th1_0_5 := lv_neT h1_0_5 (a := 5) (by decide)
  refine mr_tableOut ok 79 d_P_look_1 (by omega) (by decide) ?_
  refine mr_iconst ok (-1) d_P_look_79 (by decide) ?_
  refine sx_iret ok en (Nat.le_refl _) (Nat.le_refl _) d_P_look_80 ?_
  exact ⟨(by first | rfl | simp only [v_P_look, if_neg h1_0_0, if_neg h1_0_1, if_neg h1_0_2, if_neg h1_0_3, if_neg h1_0_4, if_neg h1_0_5]), (by first | rfl | simp only [s_P_look, if_neg h1_0_0, if_neg h1_0_1, if_neg h1_0_2, if_neg h1_0_3, if_neg h1_0_4, if_neg h1_0_5])⟩
