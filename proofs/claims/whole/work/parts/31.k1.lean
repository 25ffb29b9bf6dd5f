theorem sx_topm {X : mx_C} {n : Nat × Nat} {pc : Nat} {lv : List (Nat × Value)} {st : List Value} {ws : va_W} {x y : Int32} (h : x = y) (kk : mx X n pc lv (.int y :: st) ws) : mx X n pc lv (.int x :: st) ws := by
  subst h
  exact kk
/-! the class's constructor -/
def cN (x : Int32) : Nat := if x < 3 then 3 else if 5 < x then 5 else x.toNatClampNeg
def cL (x : Int32) : Nat := if x < 1 then 1 else if 32 < x then 32 else x.toNatClampNeg
theorem cN_b (x : Int32) : 3 ≤ cN x ∧ cN x ≤ 5 := by
  unfold cN
  split
  · decide
  next h =>
    split
    · decide
    next h2 =>
      obtain ⟨j, hj, rfl⟩ := nI_of2 (n := 5) (M := 5) rfl (x := x) (fun z => h (Int32.lt_trans z (by decide))) (Int32.not_lt.mp h2)
      rw [nI_clamp (by omega)]
      refine ⟨?_, hj⟩
      rcases Nat.lt_or_ge j 3 with z | z
      · exact absurd (nI_lt z (by decide)) h
      · exact z
theorem cL_b (x : Int32) : 1 ≤ cL x ∧ cL x ≤ 32 := by
  unfold cL
  split
  · decide
  next h =>
    split
    · decide
    next h2 =>
      obtain ⟨j, hj, rfl⟩ := nI_of2 (n := 32) (M := 32) rfl (x := x) (fun z => h (Int32.lt_trans z (by decide))) (Int32.not_lt.mp h2)
      rw [nI_clamp (by omega)]
      refine ⟨?_, hj⟩
      rcases Nat.lt_or_ge j 1 with z | z
      · exact absurd (nI_lt z (by decide)) h
      · exact z
theorem cN_i (x : Int32) : nI (cN x) = if x < 3 then 3 else if 5 < x then 5 else x := by
  unfold cN
  split
  · rfl
  next h =>
    split
    · rfl
    next h2 =>
      obtain ⟨j, hj, rfl⟩ := nI_of2 (n := 5) (M := 5) rfl (x := x) (fun z => h (Int32.lt_trans z (by decide))) (Int32.not_lt.mp h2)
      rw [nI_clamp (by omega)]
theorem cL_i (x : Int32) : nI (cL x) = if x < 1 then 1 else if 32 < x then 32 else x := by
  unfold cL
  split
  · rfl
  next h =>
    split
    · rfl
    next h2 =>
      obtain ⟨j, hj, rfl⟩ := nI_of2 (n := 32) (M := 32) rfl (x := x) (fun z => h (Int32.lt_trans z (by decide))) (Int32.not_lt.mp h2)
      rw [nI_clamp (by omega)]
theorem mm_clamp (x a b : Int32) (hab : a < b) : (if a < (if x < b then x else b) then (if x < b then x else b) else a) = (if x < a then a else if b < x then b else x) := by
  by_cases h1 : x < b
  · rw [if_pos h1]
    by_cases h2 : a < x
    · rw [if_pos h2, if_neg (fun z => Int32.lt_irrefl (Int32.lt_trans h2 z)), if_neg (fun z => Int32.lt_irrefl (Int32.lt_trans h1 z))]
    · rw [if_neg h2]
      by_cases h3 : x < a
      · rw [if_pos h3]
      · rw [if_neg h3]
        have e : x = a := Int32.le_antisymm (Int32.not_lt.mp h2) (Int32.not_lt.mp h3)
        subst e
        rw [if_neg (fun z => Int32.lt_irrefl (Int32.lt_trans h1 z))]
  · rw [if_neg h1, if_pos hab]
    have hbx : b ≤ x := Int32.not_lt.mp h1
    have hax : a < x := Int32.lt_of_lt_of_le hab hbx
    rw [if_neg (fun z => Int32.lt_irrefl (Int32.lt_trans hax z))]
    by_cases h2 : b < x
    · rw [if_pos h2]
    · rw [if_neg h2]
      exact Int32.le_antisymm hbx (Int32.not_lt.mp h2)
theorem cN_m (x : Int32) : (if (3 : Int32) < (if x < 5 then x else 5) then (if x < 5 then x else 5) else 3) = nI (cN x) := by rw [cN_i]; exact mm_clamp x 3 5 (by decide)
theorem cL_m (x : Int32) : (if (1 : Int32) < (if x < 32 then x else 32) then (if x < 32 then x else 32) else 1) = nI (cL x) := by rw [cL_i]; exact mm_clamp x 1 32 (by decide)
/-- the five cells of a replica -/
def pb (cI : ClassId) (L : Nat) (ad : Nat → Nat → Nat) (j : Nat) : va_W := [(ad 0 j, .inr (4, [.int (nI j), .ref (ad 1 j), .ref (ad 3 j), .int 1, .int 0, .int 0, .int 0, .int 0, .int 0, .int 0, .int 0, .int 0, .int 0, .int 0])), (ad 1 j, .inr (2, [.int (nI L), .ref (ad 2 j), .int 0, .int 0, .int 0])), (ad 2 j, .inl (cI, 32, .inl (fun _ => 0))), (ad 3 j, .inr (1, [.ref (ad 4 j), .int 0])), (ad 4 j, .inl (cI, 8, .inl (fun _ => 0)))]
def pf (cI : ClassId) (L : Nat) (ad : Nat → Nat → Nat) (k : Nat) : va_W := (List.range k).flatMap (pb cI L ad)
def pm (ad : Nat → Nat → Nat) (k : Nat) : Nat → Option Nat := fun j => if j < k then some (ad 0 j) else none
def pw (cI cR : ClassId) (N L a m : Nat) (ad : Nat → Nat → Nat) (k : Nat) : va_W := (a, .inr (5, [.int (nI N), .int (nI L), .ref m, .null, .null])) :: (m, .inl (cR, N, .inr (.inr (.inr (.inr (pm ad k)))))) :: pf cI L ad k
def pa (ad : Nat → Nat → Nat) (k q0 q1 q2 q3 q4 : Nat) : Nat → Nat → Nat := fun c j => if j = k then (match c with | 0 => q0 | 1 => q1 | 2 => q2 | 3 => q3 | _ => q4) else ad c j
theorem pf_pa (cI : ClassId) (L : Nat) (ad : Nat → Nat → Nat) (k q0 q1 q2 q3 q4 : Nat) : ∀ n, n ≤ k → pf cI L (pa ad k q0 q1 q2 q3 q4) n = pf cI L ad n := by
  intro n
  induction n with
  | zero => intro _; rfl
  | succ n ih =>
    intro h
    have e : pb cI L (pa ad k q0 q1 q2 q3 q4) n = pb cI L ad n := by
      have hn : ¬ n = k := by omega
      simp only [pb, pa, if_neg hn]
    unfold pf at ih ⊢
    rw [List.range_succ, List.flatMap_append, List.flatMap_append, ih (by omega)]
    simp only [List.flatMap_cons, List.flatMap_nil, e]
theorem pf_succ (cI : ClassId) (L : Nat) (ad : Nat → Nat → Nat) (n : Nat) : pf cI L ad (n + 1) = pf cI L ad n ++ pb cI L ad n := by
  unfold pf
  rw [List.range_succ, List.flatMap_append]
  simp
theorem pm_pa (ad : Nat → Nat → Nat) (k q0 q1 q2 q3 q4 : Nat) : va_up (pm ad k) k (some q0) = pm (pa ad k q0 q1 q2 q3 q4) (k + 1) := by
  funext j
  unfold va_up pm pa
  by_cases h : j = k
  · subst h
    simp
  · rw [if_neg h]
    by_cases h2 : j < k
    · rw [if_pos h2, if_pos (by omega), if_neg h]
    · rw [if_neg h2, if_neg (by omega)]
theorem pw_step (cI cR : ClassId) (N L a m : Nat) (ad : Nat → Nat → Nat) (k q0 q1 q2 q3 q4 : Nat) : (a, .inr (5, [.int (nI N), .int (nI L), .ref m, .null, .null])) :: (m, .inl (cR, N, .inr (.inr (.inr (.inr (va_up (pm ad k) k (some q0))))))) :: (pf cI L ad k ++ [(q0, .inr (4, [.int (nI k), .ref q1, .ref q3, .int 1, .int 0, .int 0, .int 0, .int 0, .int 0, .int 0, .int 0, .int 0, .int 0, .int 0])), (q1, .inr (2, [.int (nI L), .ref q2, .int 0, .int 0, .int 0])), (q2, .inl (cI, 32, .inl (fun _ => 0))), (q3, .inr (1, [.ref q4, .int 0])), (q4, .inl (cI, 8, .inl (fun _ => 0)))]) = pw cI cR N L a m (pa ad k q0 q1 q2 q3 q4) (k + 1) := by
  unfold pw
  rw [pm_pa ad k q0 q1 q2 q3 q4, pf_succ, pf_pa cI L ad k q0 q1 q2 q3 q4 k (Nat.le_refl k)]
  have e : pb cI L (pa ad k q0 q1 q2 q3 q4) k = [(q0, .inr (4, [.int (nI k), .ref q1, .ref q3, .int 1, .int 0, .int 0, .int 0, .int 0, .int 0, .int 0, .int 0, .int 0, .int 0, .int 0])), (q1, .inr (2, [.int (nI L), .ref q2, .int 0, .int 0, .int 0])), (q2, .inl (cI, 32, .inl (fun _ => 0))), (q3, .inr (1, [.ref q4, .int 0])), (q4, .inl (cI, 8, .inl (fun _ => 0)))] := by
    simp [pb, pa]
  rw [e]
abbrev wNest : Cond := .methodLinkNest R_P 43 y_M_init R_P
set_option maxHeartbeats 4000000 in
set_option maxRecDepth 100000 in
theorem l_P_init {Z : mx_Z} {cI cR : ClassId} (hz : Z.2.2[0]? = some (cI, .int)) (hz1 : Z.2.2[1]? = some (cR, .object R_R)) {N L a m : Nat} (hN : 3 ≤ N ∧ N ≤ 5) {x y : Int32} {X : mx_C} (ok : mx_ok X Z R_P b_P_init 4 (rmc 3 29 1721 70))
    (kx : ∀ (ad : Nat → Nat → Nat), mx X (1 + 5 * N, N + 61 * N) 76 [(0, .ref a), (1, .int x), (2, .int y), (3, .int (nI N))] [] (pw cI cR N L a m ad N)) :
    ∀ (n k : Nat) (ad : Nat → Nat → Nat), k ≤ N → N + 1 ≤ k + n → mx X (1 + 5 * k, N + 61 * k) 44 [(0, .ref a), (1, .int x), (2, .int y), (3, .int (nI k))] [] (pw cI cR N L a m ad k) := by
  intro n
  induction n with
  | zero =>
    intro k ad h1 h2
    omega
  | succ n ih =>
    intro k ad h1 h2
    refine mr_iload_n ok (i := 3) d_P_init_44 rfl rfl ?_
    refine mr_aload_n ok (i := 0) d_P_init_45 rfl rfl ?_
    refine mr_get ok fl_P_18 0 rfl rfl d_P_init_46 ?_
    refine mr_icmp_ge ok 76 d_P_init_49 (by decide) (fun h => ?_) (fun h => ?_)
    · have e : k = N := by
        rcases Nat.lt_or_ge k N with z | z
        · exact absurd h (nI_ge z (by omega))
        · omega
      subst e
      exact kx ad
    · have hk : k < N := Nat.lt_of_not_le fun z => h (nI_le z (by omega))
      refine mr_aload_n ok (i := 0) d_P_init_52 rfl rfl ?_
      refine mr_get ok fl_P_27 0 rfl rfl d_P_init_53 ?_
      refine mr_iload_n ok (i := 3) d_P_init_56 rfl rfl ?_
      refine mr_new (ci := 4) ok rfl in_R tf_R ty_R (mw 67 rfl rfl) (mw 69 rfl rfl) (mw 45 rfl rfl) [.int 0, .null, .null, .int 0, .int 0, .int 0, .int 0, .int 0, .int 0, .int 0, .int 0, .int 0, .int 0, .int 0] (fun j hj => by match j, hj with | 0, _ => rfl | 1, _ => rfl | 2, _ => rfl | 3, _ => rfl | 4, _ => rfl | 5, _ => rfl | 6, _ => rfl | 7, _ => rfl | 8, _ => rfl | 9, _ => rfl | 10, _ => rfl | 11, _ => rfl | 12, _ => rfl | 13, _ => rfl) (by show 1 + 5 * k + 1 ≤ 29; omega) (by show N + 61 * k + 14 ≤ 1721; omega) d_P_init_57 (fun q0 => ?_)
      refine mr_dup ok d_P_init_60 rfl ?_
      refine mr_iload_n ok (i := 3) d_P_init_61 rfl rfl ?_
      refine mr_aload_n ok (i := 0) d_P_init_62 rfl rfl ?_
      refine mr_get ok fl_P_22 0 rfl rfl d_P_init_63 ?_
      refine mr_callI (As := [.int (nI k), .int (nI L)]) ok cb_P_31 ci_R_init (c_R_init hz wl_end) rfl (Nat.le_of_ble_eq_true rfl) (by decide) (by show 1 + 5 * k + 1 + 4 ≤ 29; omega) (by show N + 61 * k + 14 + 47 ≤ 1721; omega) d_P_init_66 rfl ?_
      rintro v _ ⟨rfl, q1, q2, q3, q4, rfl⟩
      rw [wl_send]
      refine mr_aast ok 1 1 (pw cI cR N L a m ad k).length 4 rfl hz1 (wl_app wl_end) rfl (vp_in_nI hk (by omega)) d_P_init_69 ?_
      refine mr_iinc ok (nI (k + 1)) d_P_init_70 rfl (nI_succ k).symm (by decide) ?_
      refine mr_goto ok 44 d_P_init_73 (by decide) ?_
      refine mr_lv [(0, .ref a), (1, .int x), (2, .int y), (3, .int (nI (k + 1)))] ⟨rfl, rfl, rfl, rfl, trivial⟩ ?_
      refine mr_ws (ws' := pw cI cR N L a m (pa ad k q0 q1 q2 q3 q4) (k + 1)) ?_ ?_
      · rw [nI_clamp (show k < 2 ^ 31 by omega), ← pw_step]
        show (a, _) :: (m, _) :: (pf cI L ad k ++ _ ++ _) = _
        rw [List.append_assoc]
        rfl
      · have e1 : 1 + 5 * k + 1 + 4 = 1 + 5 * (k + 1) := by omega
        have e2 : N + 61 * k + 14 + 47 = N + 61 * (k + 1) := by omega
        show mx X (1 + 5 * k + 1 + 4, N + 61 * k + 14 + 47) _ _ _ _
        rw [e1, e2]
        exact ih (k + 1) _ hk (by omega)
def pz (cI cR : ClassId) (N L a m q5 q6 q7 : Nat) (ad : Nat → Nat → Nat) : va_W := (a, .inr (5, [.int (nI N), .int (nI L), .ref m, .ref q5, .ref q7])) :: (m, .inl (cR, N, .inr (.inr (.inr (.inr (pm ad N)))))) :: (pf cI L ad N ++ [(q5, .inr (0, [.ref q6, .int 0, .int 0, .int 0])), (q6, .inl (cI, 1400, .inl (fun _ => 0))), (q7, .inr (3, [.int 0, .int 0, .int 0, .int 0, .int 0, .int 0, .int 0]))])
set_option maxHeartbeats 4000000 in
set_option maxRecDepth 100000 in
theorem c_P_init {Z : mx_Z} {cI cR : ClassId} (hz : Z.2.2[0]? = some (cI, .int)) (hz1 : Z.2.2[1]? = some (cR, .object R_R)) {a : Nat} {x y : Int32} : mx_ctN wNest Z y_P_init b_P_init 4 none (rmc 3 29 1721 70) [.ref a, .int x, .int y] [(a, .inr (5, [.int 0, .int 0, .null, .null, .null]))] (fun v ws' => v = none ∧ ∃ (m q5 q6 q7 : Nat) (ad : Nat → Nat → Nat), ws' = pz cI cR (cN x) (cL y) a m q5 q6 q7 ad) := by
  refine ct_ofN (by decide) (Nat.le_of_ble_eq_true rfl) (cat_of rfl) ?_
  intro X ok en hnm hnw
  have hN := cN_b x
  refine mr_lv [(0, .ref a), (1, .int x), (2, .int y)] ⟨rfl, rfl, rfl, trivial⟩ ?_
  refine mr_aload_n ok (i := 0) d_P_init_0 rfl rfl ?_
  refine mr_objInit ok (mw 58 rfl rfl) (mw 59 rfl rfl) (mw 60 rfl rfl) (by decide) (Nat.le_of_ble_eq_true rfl) d_P_init_1 ?_
  refine mr_aload_n ok (i := 0) d_P_init_4 rfl rfl ?_
  refine mr_iconst ok 3 d_P_init_5 (by decide) ?_
  refine mr_iconst ok 5 d_P_init_6 (by decide) ?_
  refine mr_iload_n ok (i := 1) d_P_init_7 rfl rfl ?_
  refine mr_min ok (mw 61 rfl rfl) (mw 62 rfl rfl) (mw 44 rfl rfl) (mw 63 rfl rfl) (by decide) (Nat.le_of_ble_eq_true rfl) (by decide) (by decide) d_P_init_8 ?_
  refine mr_max ok (mw 64 rfl rfl) (mw 65 rfl rfl) (mw 44 rfl rfl) (mw 66 rfl rfl) (by decide) (Nat.le_of_ble_eq_true rfl) (by decide) (by decide) d_P_init_11 ?_
  refine sx_topm (cN_m x) ?_
  refine mr_putF ok hnm fF_P_18 0 rfl (by decide) rfl rfl d_P_init_14 ?_
  refine mr_ws (ws' := [(a, .inr (5, [.int (nI (cN x)), .int 0, .null, .null, .null]))]) rfl ?_
  refine mr_aload_n ok (i := 0) d_P_init_17 rfl rfl ?_
  refine mr_iconst ok 1 d_P_init_18 (by decide) ?_
  refine mr_bipush ok 32 d_P_init_19 (by decide) ?_
  refine mr_iload_n ok (i := 2) d_P_init_21 rfl rfl ?_
  refine mr_min ok (mw 61 rfl rfl) (mw 62 rfl rfl) (mw 44 rfl rfl) (mw 63 rfl rfl) (by decide) (Nat.le_of_ble_eq_true rfl) (by decide) (by decide) d_P_init_22 ?_
  refine mr_max ok (mw 64 rfl rfl) (mw 65 rfl rfl) (mw 44 rfl rfl) (mw 66 rfl rfl) (by decide) (Nat.le_of_ble_eq_true rfl) (by decide) (by decide) d_P_init_25 ?_
  refine sx_topm (cL_m y) ?_
  refine mr_putF ok hnm fF_P_22 0 rfl (Nat.le_of_ble_eq_true rfl) rfl rfl d_P_init_28 ?_
  refine mr_ws (ws' := [(a, .inr (5, [.int (nI (cN x)), .int (nI (cL y)), .null, .null, .null]))]) rfl ?_
  refine mr_aload_n ok (i := 0) d_P_init_31 rfl rfl ?_
  refine mr_aload_n ok (i := 0) d_P_init_32 rfl rfl ?_
  refine mr_get ok fl_P_18 0 rfl rfl d_P_init_33 ?_
  refine mr_anewaN ok hnw (cN x) 1 hz1 (mw 67 rfl rfl) (nI_pos (by omega)) (nI_clamp (by omega)) (by omega) (by decide) (by show 0 + cN x ≤ 1721; omega) d_P_init_36 (fun m => ?_)
  refine mr_putF ok hnm fF_P_27 0 rfl (Nat.le_of_ble_eq_true rfl) rfl rfl d_P_init_39 ?_
  refine mr_iconst ok 0 d_P_init_42 (by decide) ?_
  refine mr_istore_n ok (i := 3) d_P_init_43 rfl (by decide) ?_
  refine mr_lv [(0, .ref a), (1, .int x), (2, .int y), (3, .int (nI 0))] ⟨rfl, rfl, rfl, rfl, trivial⟩ ?_
  refine mr_ws (ws' := pw cI cR (cN x) (cL y) a m (fun _ _ => 0) 0) ?_ ?_
  · unfold pw pf
    have e : pm (fun _ _ => 0) 0 = fun _ => none := by
      funext j
      unfold pm
      rw [if_neg (Nat.not_lt_zero j)]
    rw [e]
    rfl
  have hn0 : mx X (1 + 5 * 0, cN x + 61 * 0) 44 [(0, .ref a), (1, .int x), (2, .int y), (3, .int (nI 0))] [] (pw cI cR (cN x) (cL y) a m (fun _ _ => 0) 0) := by
    refine l_P_init hz hz1 hN ok (fun ad => ?_) 6 0 _ (Nat.zero_le _) (by omega)
    refine mr_aload_n ok (i := 0) d_P_init_76 rfl rfl ?_
    refine mr_new (ci := 0) ok rfl in_F tf_F ty_F (mw 172 rfl rfl) (mw 173 rfl rfl) (mw 48 rfl rfl) [.null, .int 0, .int 0, .int 0] (fun j hj => by match j, hj with | 0, _ => rfl | 1, _ => rfl | 2, _ => rfl | 3, _ => rfl) (by show 1 + 5 * cN x + 1 ≤ 29; omega) (by show cN x + 61 * cN x + 4 ≤ 1721; omega) d_P_init_77 (fun q5 => ?_)
    refine mr_dup ok d_P_init_80 rfl ?_
    refine mr_callI (As := []) ok cb_P_36 ci_F_init (c_F_init hz wl_end) rfl (Nat.le_of_ble_eq_true rfl) (by decide) (by show 1 + 5 * cN x + 1 + 1 ≤ 29; omega) (by show cN x + 61 * cN x + 4 + 1400 ≤ 1721; omega) d_P_init_81 rfl ?_
    rintro v _ ⟨rfl, q6, rfl⟩
    rw [wl_send]
    refine mr_putF ok hnm fF_P_37 0 rfl (Nat.le_of_ble_eq_true rfl) rfl rfl d_P_init_84 ?_
    refine mr_aload_n ok (i := 0) d_P_init_87 rfl rfl ?_
    refine mr_new (ci := 3) ok rfl in_M tf_M ty_M (mw 194 rfl rfl) (mw 195 rfl rfl) (mw 49 rfl rfl) [.int 0, .int 0, .int 0, .int 0, .int 0, .int 0, .int 0] (fun j hj => by match j, hj with | 0, _ => rfl | 1, _ => rfl | 2, _ => rfl | 3, _ => rfl | 4, _ => rfl | 5, _ => rfl | 6, _ => rfl) (by show 1 + 5 * cN x + 1 + 1 + 1 ≤ 29; omega) (by show cN x + 61 * cN x + 4 + 1400 + 7 ≤ 1721; omega) d_P_init_88 (fun q7 => ?_)
    refine mr_dup ok d_P_init_91 rfl ?_
    refine mr_callIN (As := []) ok hnw ⟨mw 49 rfl rfl, mw 198 rfl rfl, by decide +kernel⟩ ⟨rfl, mw 197 rfl rfl⟩ c_M_init rfl (Nat.le_of_ble_eq_true rfl) (by decide) (by show 1 + 5 * cN x + 1 + 1 + 1 + 0 ≤ 29; omega) (by show cN x + 61 * cN x + 4 + 1400 + 7 + 0 ≤ 1721; omega) d_P_init_92 rfl ?_
    rintro v _ ⟨rfl, rfl⟩
    refine mr_putF ok hnm fF_P_44 0 rfl (Nat.le_of_ble_eq_true rfl) rfl rfl d_P_init_95 ?_
    refine mr_vret ok en (by show 1 + 5 * cN x + 1 + 1 + 1 + 0 ≤ 29; omega) (by show cN x + 61 * cN x + 4 + 1400 + 7 + 0 ≤ 1721; omega) d_P_init_98 ⟨rfl, m, q5, q6, q7, ad, ?_⟩
    unfold pz
    show (a, _) :: (m, _) :: (((pf cI (cL y) ad (cN x) ++ _) ++ _) ++ _) = _
    rw [List.append_assoc, List.append_assoc]
    rfl
  have e1 : (0 + 1, 0 + cN x) = (1 + 5 * 0, cN x + 61 * 0) := by simp
  show mx X (0 + 1, 0 + cN x) _ _ _ _
  rw [e1]
  exact hn0
