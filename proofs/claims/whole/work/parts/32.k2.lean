theorem mr_newaZ {X : mx_C} {Z : mx_Z} {own : String} {cc : ByteArray} {nL : Nat} {rm : Room} {n : Nat × Nat} {pc : Nat} {lv : List (Nat × Value)} {st : List Value} {ws : va_W} (ok : mx_ok X Z own cc nL rm) {x : Int32} (N : Nat) (t0 : Nat) {cA : ClassId} (ht : Z.2.2[t0]? = some (cA, .boolean)) (harr : Cond.arrayClass .boolean ∈ mx_tbl) (hx : ¬ x < 0) (hN : x.toNatClampNeg = N) (hb : N * componentBytes .boolean ≤ 536870912) (h1 : n.1 + 1 ≤ rm.cells) (h2 : n.2 + N ≤ rm.slots) {at_ : ArrayType} (hat : newarray.typeOf at_ = .boolean) (hd : decode cc pc = .ok (.newarray at_, 2))
    (kk : ∀ q : Nat, mx X (n.1 + 1, n.2 + N) (pc + 2) lv (.ref q :: st) (ws ++ [(q, .inl (cA, N, .inl (fun _ => 0)))])) : mx X n pc lv (.int x :: st) ws := by
  obtain ⟨⟨p, l, e, R, s, m, args, below, meth, c⟩, D, tys, lo, Q⟩ := X
  intro ls H locs hl hP hD hS
  have hR := ok.2.2.2.2.2.2.2.1
  have hZ := ok.2.2.2.2.2.2.2.2
  subst hZ
  refine va_newa (ty := .boolean) (N' := N) (a0 := (N, .inl (fun _ => 0))) ok.1 ok.2.1 (by rw [hat]; exact ok.2.2.2.2.1 _ harr) hat ok.2.2.2.2.2.1 hP hD hS (fun q h => Nat.le_trans ok.2.2.2.2.2.2.1 h) (fun cA => rfl) hx hN hb (by rw [hR]; exact h1) (by rw [hR]; exact h2) hd (fun q cB H1 hK1 hP1 hD1 hS1 => ?_)
  have e1 := (ok.2.2.2.2.2.1.2 t0 _ ht).2
  have e2 := (hK1.2 tys.length (cB, .boolean) (by simp)).2
  have e3 : cA = cB := Option.some.inj (Eq.trans (Eq.symm e1) e2)
  subst e3
  exact kk q ls H1 locs hl hP1 hD1 hS1
def pu (k : Nat) : Nat → Int32 := fun j => if j < k then 1 else 0
theorem pu_succ (k : Nat) : upd (pu k) k 1 = pu (k + 1) := by
  funext j
  unfold upd pu
  by_cases h : j = k
  · rw [if_pos h, if_pos (by omega)]
  · rw [if_neg h]
    by_cases h2 : j < k
    · rw [if_pos h2, if_pos (by omega)]
    · rw [if_neg h2, if_neg (by omega)]
theorem pu_0 : pu 0 = fun _ => 0 := by
  funext j
  unfold pu
  rw [if_neg (Nat.not_lt_zero j)]
def pt (cI cZ : ClassId) (N L a q23 q24 q25 q26 q27 q28 q29 q30 q31 q32 q33 q34 q35 q36 q37 q38 q39 q40 : Nat) (k : Nat) : va_W := [(a, .inr (6, [.int 0, .int (nI N), .int (nI L), .ref q23, .ref q24, .ref q25, .ref q26, .ref q27, .ref q28, .ref q29, .ref q30, .ref q31, .ref q32, .ref q33, .ref q34, .ref q35, .ref q36, .ref q37, .ref q38, .ref q39, .ref q40, .int 0, .int 0, .int 0]))] ++ [(q23, .inl (cZ, 5, .inl (pu k)))] ++ [(q24, .inl (cI, 5, .inl (fun _ => 0))), (q25, .inl (cI, 5, .inl (fun _ => 0))), (q26, .inl (cI, 5, .inl (fun _ => 0))), (q27, .inl (cI, 5, .inl (fun _ => 0))), (q28, .inl (cI, 5, .inl (fun _ => 0))), (q29, .inl (cI, 5, .inl (fun _ => 0))), (q30, .inl (cI, 200, .inl (fun _ => 0))), (q31, .inl (cI, 5, .inl (fun _ => 0))), (q32, .inl (cI, 5, .inl (fun _ => 0))), (q33, .inl (cI, 5, .inl (fun _ => 0))), (q34, .inl (cI, 5, .inl (fun _ => 0))), (q35, .inl (cI, 5, .inl (fun _ => 0))), (q36, .inl (cI, 5, .inl (fun _ => 0))), (q37, .inl (cI, 5, .inl (fun _ => 0))), (q38, .inl (cI, 40, .inl (fun _ => 0))), (q39, .inl (cI, 5, .inl (fun _ => 0))), (q40, .inl (cI, 1407, .inl (fun _ => 0)))]
set_option maxHeartbeats 4000000 in
set_option maxRecDepth 100000 in
theorem l_T_init {Z : mx_Z} {cI cZ : ClassId} (hz2 : Z.2.2[2]? = some (cZ, .boolean)) {N L a q23 q24 q25 q26 q27 q28 q29 q30 q31 q32 q33 q34 q35 q36 q37 q38 q39 q40 : Nat} (hN : 3 ≤ N ∧ N ≤ 5) {x y : Int32} {w0 : va_W} {X : mx_C} (ok : mx_ok X Z R_T b_T_init 4 (rmc 1 18 1722 20))
    (kx : mx X (18, 1722) 206 [(0, .ref a), (1, .int x), (2, .int y), (3, .int (nI N))] [] (w0 ++ pt cI cZ N L a q23 q24 q25 q26 q27 q28 q29 q30 q31 q32 q33 q34 q35 q36 q37 q38 q39 q40 N)) :
    ∀ (n k : Nat), k ≤ N → N + 1 ≤ k + n → mx X (18, 1722) 185 [(0, .ref a), (1, .int x), (2, .int y), (3, .int (nI k))] [] (w0 ++ pt cI cZ N L a q23 q24 q25 q26 q27 q28 q29 q30 q31 q32 q33 q34 q35 q36 q37 q38 q39 q40 k) := by
  intro n
  induction n with
  | zero =>
    intro k h1 h2
    omega
  | succ n ih =>
    intro k h1 h2
    have hw : ∀ k : Nat, w0 ++ pt cI cZ N L a q23 q24 q25 q26 q27 q28 q29 q30 q31 q32 q33 q34 q35 q36 q37 q38 q39 q40 k = w0 ++ [(a, .inr (6, [.int 0, .int (nI N), .int (nI L), .ref q23, .ref q24, .ref q25, .ref q26, .ref q27, .ref q28, .ref q29, .ref q30, .ref q31, .ref q32, .ref q33, .ref q34, .ref q35, .ref q36, .ref q37, .ref q38, .ref q39, .ref q40, .int 0, .int 0, .int 0]))] ++ [(q23, .inl (cZ, 5, .inl (pu k)))] ++ [(q24, .inl (cI, 5, .inl (fun _ => 0))), (q25, .inl (cI, 5, .inl (fun _ => 0))), (q26, .inl (cI, 5, .inl (fun _ => 0))), (q27, .inl (cI, 5, .inl (fun _ => 0))), (q28, .inl (cI, 5, .inl (fun _ => 0))), (q29, .inl (cI, 5, .inl (fun _ => 0))), (q30, .inl (cI, 200, .inl (fun _ => 0))), (q31, .inl (cI, 5, .inl (fun _ => 0))), (q32, .inl (cI, 5, .inl (fun _ => 0))), (q33, .inl (cI, 5, .inl (fun _ => 0))), (q34, .inl (cI, 5, .inl (fun _ => 0))), (q35, .inl (cI, 5, .inl (fun _ => 0))), (q36, .inl (cI, 5, .inl (fun _ => 0))), (q37, .inl (cI, 5, .inl (fun _ => 0))), (q38, .inl (cI, 40, .inl (fun _ => 0))), (q39, .inl (cI, 5, .inl (fun _ => 0))), (q40, .inl (cI, 1407, .inl (fun _ => 0)))] := by
      intro k
      unfold pt
      rw [← List.append_assoc, ← List.append_assoc]
    refine mr_ws (hw k) ?_
    refine mr_iload_n ok (i := 3) d_T_init_185 rfl rfl ?_
    refine mr_aload_n ok (i := 0) d_T_init_186 rfl rfl ?_
    refine mr_get ok fl_T_65 w0.length (wl_app (wl_app wl_end)) rfl d_T_init_187 ?_
    refine mr_icmp_ge ok 206 d_T_init_190 (by decide) (fun h => ?_) (fun h => ?_)
    · have e : k = N := by
        rcases Nat.lt_or_ge k N with z | z
        · exact absurd h (nI_ge z (by omega))
        · omega
      subst e
      exact mr_ws (hw k).symm kx
    · have hk : k < N := Nat.lt_of_not_le fun z => h (nI_le z (by omega))
      refine mr_aload_n ok (i := 0) d_T_init_193 rfl rfl ?_
      refine mr_get ok fl_T_7 w0.length (wl_app (wl_app wl_end)) rfl d_T_init_194 ?_
      refine mr_iload_n ok (i := 3) d_T_init_197 rfl rfl ?_
      refine mr_iconst ok 1 d_T_init_198 (by decide) ?_
      refine mr_zast ok (w0 ++ [(a, .inr (6, [.int 0, .int (nI N), .int (nI L), .ref q23, .ref q24, .ref q25, .ref q26, .ref q27, .ref q28, .ref q29, .ref q30, .ref q31, .ref q32, .ref q33, .ref q34, .ref q35, .ref q36, .ref q37, .ref q38, .ref q39, .ref q40, .int 0, .int 0, .int 0]))] : va_W).length 2 (wl_app wl_end) hz2 (show vp_in (nI k) 5 from vp_in_nI (by omega) (by decide)) d_T_init_199 ?_
      refine mr_iinc ok (nI (k + 1)) d_T_init_200 rfl (nI_succ k).symm (by decide) ?_
      refine mr_goto ok 185 d_T_init_203 (by decide) ?_
      refine mr_lv [(0, .ref a), (1, .int x), (2, .int y), (3, .int (nI (k + 1)))] ⟨rfl, rfl, rfl, rfl, trivial⟩ ?_
      refine mr_ws ?_ (ih (k + 1) hk (by omega))
      rw [wl_sapp wl_end, wl_send, nI_clamp (show k < 2 ^ 31 by omega), hw (k + 1), ← pu_succ]
      rfl
set_option maxHeartbeats 4000000 in
set_option maxRecDepth 100000 in
theorem c_T_init {Z : mx_Z} {cI cZ : ClassId} (hz : Z.2.2[0]? = some (cI, .int)) (hz2 : Z.2.2[2]? = some (cZ, .boolean)) {a : Nat} {x y : Int32} {w0 : va_W} : mx_ct Z y_T_init b_T_init 4 none (rmc 1 18 1722 20) [.ref a, .int x, .int y] (w0 ++ [(a, .inr (6, [.int 0, .int 0, .int 0, .null, .null, .null, .null, .null, .null, .null, .null, .null, .null, .null, .null, .null, .null, .null, .null, .null, .null, .int 0, .int 0, .int 0]))]) (fun v ws' => v = none ∧ ∃ q23 q24 q25 q26 q27 q28 q29 q30 q31 q32 q33 q34 q35 q36 q37 q38 q39 q40 : Nat, ws' = w0 ++ pt cI cZ (cN x) (cL y) a q23 q24 q25 q26 q27 q28 q29 q30 q31 q32 q33 q34 q35 q36 q37 q38 q39 q40 (cN x)) := by
  refine ct_of (by decide) (Nat.le_of_ble_eq_true rfl) (cat_of rfl) ?_
  intro X ok en hnm
  have hN := cN_b x
  refine mr_lv [(0, .ref a), (1, .int x), (2, .int y)] ⟨rfl, rfl, rfl, trivial⟩ ?_
  refine mr_aload_n ok (i := 0) d_T_init_0 rfl rfl ?_
  refine mr_objInit ok (mw 522 rfl rfl) (mw 59 rfl rfl) (mw 60 rfl rfl) (by decide) (Nat.le_of_ble_eq_true rfl) d_T_init_1 ?_
  refine mr_aload_n ok (i := 0) d_T_init_4 rfl rfl ?_
  refine mr_iconst ok 5 d_T_init_5 (by decide) ?_
  refine mr_newaZ ok 5 2 hz2 (mw 596 rfl rfl) (by decide) (by decide) (by decide) (by decide) (by decide) rfl d_T_init_6 (fun q23 => ?_)
  refine mr_putF ok hnm fF_T_7 w0.length (wl_app wl_end) (by decide) rfl rfl d_T_init_8 ?_
  refine mr_ws (ws' := w0 ++ [(a, .inr (6, [.int 0, .int 0, .int 0, .ref q23, .null, .null, .null, .null, .null, .null, .null, .null, .null, .null, .null, .null, .null, .null, .null, .null, .null, .int 0, .int 0, .int 0]))] ++ [(q23, .inl (cZ, 5, .inl (fun _ => 0)))] ++ []) (by rw [wl_sapp wl_end, wl_send, List.append_nil]; rfl) ?_
  refine mr_aload_n ok (i := 0) d_T_init_11 rfl rfl ?_
  refine mr_iconst ok 5 d_T_init_12 (by decide) ?_
  refine mr_newa ok 5 0 hz (mw 99 rfl rfl) (by decide) (by decide) (by decide) (by decide) (by decide) rfl d_T_init_13 (fun q24 => ?_)
  refine mr_ws (ws' := w0 ++ [(a, .inr (6, [.int 0, .int 0, .int 0, .ref q23, .null, .null, .null, .null, .null, .null, .null, .null, .null, .null, .null, .null, .null, .null, .null, .null, .null, .int 0, .int 0, .int 0]))] ++ [(q23, .inl (cZ, 5, .inl (fun _ => 0)))] ++ [(q24, .inl (cI, 5, .inl (fun _ => 0)))]) (by rw [List.append_assoc]; rfl) ?_
  refine mr_putF ok hnm fF_T_13 w0.length (wl_app (wl_app wl_end)) (Nat.le_of_ble_eq_true rfl) rfl rfl d_T_init_15 ?_
  refine mr_ws (ws' := w0 ++ [(a, .inr (6, [.int 0, .int 0, .int 0, .ref q23, .ref q24, .null, .null, .null, .null, .null, .null, .null, .null, .null, .null, .null, .null, .null, .null, .null, .null, .int 0, .int 0, .int 0]))] ++ [(q23, .inl (cZ, 5, .inl (fun _ => 0)))] ++ [(q24, .inl (cI, 5, .inl (fun _ => 0)))]) (by rw [wl_sapp (wl_app wl_end), wl_sapp wl_end, wl_send]; rfl) ?_
  refine mr_aload_n ok (i := 0) d_T_init_18 rfl rfl ?_
  refine mr_iconst ok 5 d_T_init_19 (by decide) ?_
  refine mr_newa ok 5 0 hz (mw 99 rfl rfl) (by decide) (by decide) (by decide) (by decide) (by decide) rfl d_T_init_20 (fun q25 => ?_)
  refine mr_ws (ws' := w0 ++ [(a, .inr (6, [.int 0, .int 0, .int 0, .ref q23, .ref q24, .null, .null, .null, .null, .null, .null, .null, .null, .null, .null, .null, .null, .null, .null, .null, .null, .int 0, .int 0, .int 0]))] ++ [(q23, .inl (cZ, 5, .inl (fun _ => 0)))] ++ [(q24, .inl (cI, 5, .inl (fun _ => 0))), (q25, .inl (cI, 5, .inl (fun _ => 0)))]) (by rw [List.append_assoc]; rfl) ?_
  refine mr_putF ok hnm fF_T_17 w0.length (wl_app (wl_app wl_end)) (Nat.le_of_ble_eq_true rfl) rfl rfl d_T_init_22 ?_
  refine mr_ws (ws' := w0 ++ [(a, .inr (6, [.int 0, .int 0, .int 0, .ref q23, .ref q24, .ref q25, .null, .null, .null, .null, .null, .null, .null, .null, .null, .null, .null, .null, .null, .null, .null, .int 0, .int 0, .int 0]))] ++ [(q23, .inl (cZ, 5, .inl (fun _ => 0)))] ++ [(q24, .inl (cI, 5, .inl (fun _ => 0))), (q25, .inl (cI, 5, .inl (fun _ => 0)))]) (by rw [wl_sapp (wl_app wl_end), wl_sapp wl_end, wl_send]; rfl) ?_
  refine mr_aload_n ok (i := 0) d_T_init_25 rfl rfl ?_
  refine mr_iconst ok 5 d_T_init_26 (by decide) ?_
  refine mr_newa ok 5 0 hz (mw 99 rfl rfl) (by decide) (by decide) (by decide) (by decide) (by decide) rfl d_T_init_27 (fun q26 => ?_)
  refine mr_ws (ws' := w0 ++ [(a, .inr (6, [.int 0, .int 0, .int 0, .ref q23, .ref q24, .ref q25, .null, .null, .null, .null, .null, .null, .null, .null, .null, .null, .null, .null, .null, .null, .null, .int 0, .int 0, .int 0]))] ++ [(q23, .inl (cZ, 5, .inl (fun _ => 0)))] ++ [(q24, .inl (cI, 5, .inl (fun _ => 0))), (q25, .inl (cI, 5, .inl (fun _ => 0))), (q26, .inl (cI, 5, .inl (fun _ => 0)))]) (by rw [List.append_assoc]; rfl) ?_
  refine mr_putF ok hnm fF_T_20 w0.length (wl_app (wl_app wl_end)) (Nat.le_of_ble_eq_true rfl) rfl rfl d_T_init_29 ?_
  refine mr_ws (ws' := w0 ++ [(a, .inr (6, [.int 0, .int 0, .int 0, .ref q23, .ref q24, .ref q25, .ref q26, .null, .null, .null, .null, .null, .null, .null, .null, .null, .null, .null, .null, .null, .null, .int 0, .int 0, .int 0]))] ++ [(q23, .inl (cZ, 5, .inl (fun _ => 0)))] ++ [(q24, .inl (cI, 5, .inl (fun _ => 0))), (q25, .inl (cI, 5, .inl (fun _ => 0))), (q26, .inl (cI, 5, .inl (fun _ => 0)))]) (by rw [wl_sapp (wl_app wl_end), wl_sapp wl_end, wl_send]; rfl) ?_
  refine mr_aload_n ok (i := 0) d_T_init_32 rfl rfl ?_
  refine mr_iconst ok 5 d_T_init_33 (by decide) ?_
  refine mr_newa ok 5 0 hz (mw 99 rfl rfl) (by decide) (by decide) (by decide) (by decide) (by decide) rfl d_T_init_34 (fun q27 => ?_)
  refine mr_ws (ws' := w0 ++ [(a, .inr (6, [.int 0, .int 0, .int 0, .ref q23, .ref q24, .ref q25, .ref q26, .null, .null, .null, .null, .null, .null, .null, .null, .null, .null, .null, .null, .null, .null, .int 0, .int 0, .int 0]))] ++ [(q23, .inl (cZ, 5, .inl (fun _ => 0)))] ++ [(q24, .inl (cI, 5, .inl (fun _ => 0))), (q25, .inl (cI, 5, .inl (fun _ => 0))), (q26, .inl (cI, 5, .inl (fun _ => 0))), (q27, .inl (cI, 5, .inl (fun _ => 0)))]) (by rw [List.append_assoc]; rfl) ?_
  refine mr_putF ok hnm fF_T_23 w0.length (wl_app (wl_app wl_end)) (Nat.le_of_ble_eq_true rfl) rfl rfl d_T_init_36 ?_
  refine mr_ws (ws' := w0 ++ [(a, .inr (6, [.int 0, .int 0, .int 0, .ref q23, .ref q24, .ref q25, .ref q26, .ref q27, .null, .null, .null, .null, .null, .null, .null, .null, .null, .null, .null, .null, .null, .int 0, .int 0, .int 0]))] ++ [(q23, .inl (cZ, 5, .inl (fun _ => 0)))] ++ [(q24, .inl (cI, 5, .inl (fun _ => 0))), (q25, .inl (cI, 5, .inl (fun _ => 0))), (q26, .inl (cI, 5, .inl (fun _ => 0))), (q27, .inl (cI, 5, .inl (fun _ => 0)))]) (by rw [wl_sapp (wl_app wl_end), wl_sapp wl_end, wl_send]; rfl) ?_
  refine mr_aload_n ok (i := 0) d_T_init_39 rfl rfl ?_
  refine mr_iconst ok 5 d_T_init_40 (by decide) ?_
  refine mr_newa ok 5 0 hz (mw 99 rfl rfl) (by decide) (by decide) (by decide) (by decide) (by decide) rfl d_T_init_41 (fun q28 => ?_)
  refine mr_ws (ws' := w0 ++ [(a, .inr (6, [.int 0, .int 0, .int 0, .ref q23, .ref q24, .ref q25, .ref q26, .ref q27, .null, .null, .null, .null, .null, .null, .null, .null, .null, .null, .null, .null, .null, .int 0, .int 0, .int 0]))] ++ [(q23, .inl (cZ, 5, .inl (fun _ => 0)))] ++ [(q24, .inl (cI, 5, .inl (fun _ => 0))), (q25, .inl (cI, 5, .inl (fun _ => 0))), (q26, .inl (cI, 5, .inl (fun _ => 0))), (q27, .inl (cI, 5, .inl (fun _ => 0))), (q28, .inl (cI, 5, .inl (fun _ => 0)))]) (by rw [List.append_assoc]; rfl) ?_
  refine mr_putF ok hnm fF_T_26 w0.length (wl_app (wl_app wl_end)) (Nat.le_of_ble_eq_true rfl) rfl rfl d_T_init_43 ?_
  refine mr_ws (ws' := w0 ++ [(a, .inr (6, [.int 0, .int 0, .int 0, .ref q23, .ref q24, .ref q25, .ref q26, .ref q27, .ref q28, .null, .null, .null, .null, .null, .null, .null, .null, .null, .null, .null, .null, .int 0, .int 0, .int 0]))] ++ [(q23, .inl (cZ, 5, .inl (fun _ => 0)))] ++ [(q24, .inl (cI, 5, .inl (fun _ => 0))), (q25, .inl (cI, 5, .inl (fun _ => 0))), (q26, .inl (cI, 5, .inl (fun _ => 0))), (q27, .inl (cI, 5, .inl (fun _ => 0))), (q28, .inl (cI, 5, .inl (fun _ => 0)))]) (by rw [wl_sapp (wl_app wl_end), wl_sapp wl_end, wl_send]; rfl) ?_
  refine mr_aload_n ok (i := 0) d_T_init_46 rfl rfl ?_
  refine mr_iconst ok 5 d_T_init_47 (by decide) ?_
  refine mr_newa ok 5 0 hz (mw 99 rfl rfl) (by decide) (by decide) (by decide) (by decide) (by decide) rfl d_T_init_48 (fun q29 => ?_)
  refine mr_ws (ws' := w0 ++ [(a, .inr (6, [.int 0, .int 0, .int 0, .ref q23, .ref q24, .ref q25, .ref q26, .ref q27, .ref q28, .null, .null, .null, .null, .null, .null, .null, .null, .null, .null, .null, .null, .int 0, .int 0, .int 0]))] ++ [(q23, .inl (cZ, 5, .inl (fun _ => 0)))] ++ [(q24, .inl (cI, 5, .inl (fun _ => 0))), (q25, .inl (cI, 5, .inl (fun _ => 0))), (q26, .inl (cI, 5, .inl (fun _ => 0))), (q27, .inl (cI, 5, .inl (fun _ => 0))), (q28, .inl (cI, 5, .inl (fun _ => 0))), (q29, .inl (cI, 5, .inl (fun _ => 0)))]) (by rw [List.append_assoc]; rfl) ?_
  refine mr_putF ok hnm fF_T_29 w0.length (wl_app (wl_app wl_end)) (Nat.le_of_ble_eq_true rfl) rfl rfl d_T_init_50 ?_
  refine mr_ws (ws' := w0 ++ [(a, .inr (6, [.int 0, .int 0, .int 0, .ref q23, .ref q24, .ref q25, .ref q26, .ref q27, .ref q28, .ref q29, .null, .null, .null, .null, .null, .null, .null, .null, .null, .null, .null, .int 0, .int 0, .int 0]))] ++ [(q23, .inl (cZ, 5, .inl (fun _ => 0)))] ++ [(q24, .inl (cI, 5, .inl (fun _ => 0))), (q25, .inl (cI, 5, .inl (fun _ => 0))), (q26, .inl (cI, 5, .inl (fun _ => 0))), (q27, .inl (cI, 5, .inl (fun _ => 0))), (q28, .inl (cI, 5, .inl (fun _ => 0))), (q29, .inl (cI, 5, .inl (fun _ => 0)))]) (by rw [wl_sapp (wl_app wl_end), wl_sapp wl_end, wl_send]; rfl) ?_
  refine mr_aload_n ok (i := 0) d_T_init_53 rfl rfl ?_
  refine mr_sipush ok 200 d_T_init_54 (by decide) ?_
  refine mr_newa ok 200 0 hz (mw 99 rfl rfl) (by decide) (by decide) (by decide) (by decide) (by decide) rfl d_T_init_57 (fun q30 => ?_)
  refine mr_ws (ws' := w0 ++ [(a, .inr (6, [.int 0, .int 0, .int 0, .ref q23, .ref q24, .ref q25, .ref q26, .ref q27, .ref q28, .ref q29, .null, .null, .null, .null, .null, .null, .null, .null, .null, .null, .null, .int 0, .int 0, .int 0]))] ++ [(q23, .inl (cZ, 5, .inl (fun _ => 0)))] ++ [(q24, .inl (cI, 5, .inl (fun _ => 0))), (q25, .inl (cI, 5, .inl (fun _ => 0))), (q26, .inl (cI, 5, .inl (fun _ => 0))), (q27, .inl (cI, 5, .inl (fun _ => 0))), (q28, .inl (cI, 5, .inl (fun _ => 0))), (q29, .inl (cI, 5, .inl (fun _ => 0))), (q30, .inl (cI, 200, .inl (fun _ => 0)))]) (by rw [List.append_assoc]; rfl) ?_
  refine mr_putF ok hnm fF_T_32 w0.length (wl_app (wl_app wl_end)) (Nat.le_of_ble_eq_true rfl) rfl rfl d_T_init_59 ?_
  refine mr_ws (ws' := w0 ++ [(a, .inr (6, [.int 0, .int 0, .int 0, .ref q23, .ref q24, .ref q25, .ref q26, .ref q27, .ref q28, .ref q29, .ref q30, .null, .null, .null, .null, .null, .null, .null, .null, .null, .null, .int 0, .int 0, .int 0]))] ++ [(q23, .inl (cZ, 5, .inl (fun _ => 0)))] ++ [(q24, .inl (cI, 5, .inl (fun _ => 0))), (q25, .inl (cI, 5, .inl (fun _ => 0))), (q26, .inl (cI, 5, .inl (fun _ => 0))), (q27, .inl (cI, 5, .inl (fun _ => 0))), (q28, .inl (cI, 5, .inl (fun _ => 0))), (q29, .inl (cI, 5, .inl (fun _ => 0))), (q30, .inl (cI, 200, .inl (fun _ => 0)))]) (by rw [wl_sapp (wl_app wl_end), wl_sapp wl_end, wl_send]; rfl) ?_
  refine mr_aload_n ok (i := 0) d_T_init_62 rfl rfl ?_
  refine mr_iconst ok 5 d_T_init_63 (by decide) ?_
  refine mr_newa ok 5 0 hz (mw 99 rfl rfl) (by decide) (by decide) (by decide) (by decide) (by decide) rfl d_T_init_64 (fun q31 => ?_)
  refine mr_ws (ws' := w0 ++ [(a, .inr (6, [.int 0, .int 0, .int 0, .ref q23, .ref q24, .ref q25, .ref q26, .ref q27, .ref q28, .ref q29, .ref q30, .null, .null, .null, .null, .null, .null, .null, .null, .null, .null, .int 0, .int 0, .int 0]))] ++ [(q23, .inl (cZ, 5, .inl (fun _ => 0)))] ++ [(q24, .inl (cI, 5, .inl (fun _ => 0))), (q25, .inl (cI, 5, .inl (fun _ => 0))), (q26, .inl (cI, 5, .inl (fun _ => 0))), (q27, .inl (cI, 5, .inl (fun _ => 0))), (q28, .inl (cI, 5, .inl (fun _ => 0))), (q29, .inl (cI, 5, .inl (fun _ => 0))), (q30, .inl (cI, 200, .inl (fun _ => 0))), (q31, .inl (cI, 5, .inl (fun _ => 0)))]) (by rw [List.append_assoc]; rfl) ?_
  refine mr_putF ok hnm fF_T_35 w0.length (wl_app (wl_app wl_end)) (Nat.le_of_ble_eq_true rfl) rfl rfl d_T_init_66 ?_
  refine mr_ws (ws' := w0 ++ [(a, .inr (6, [.int 0, .int 0, .int 0, .ref q23, .ref q24, .ref q25, .ref q26, .ref q27, .ref q28, .ref q29, .ref q30, .ref q31, .null, .null, .null, .null, .null, .null, .null, .null, .null, .int 0, .int 0, .int 0]))] ++ [(q23, .inl (cZ, 5, .inl (fun _ => 0)))] ++ [(q24, .inl (cI, 5, .inl (fun _ => 0))), (q25, .inl (cI, 5, .inl (fun _ => 0))), (q26, .inl (cI, 5, .inl (fun _ => 0))), (q27, .inl (cI, 5, .inl (fun _ => 0))), (q28, .inl (cI, 5, .inl (fun _ => 0))), (q29, .inl (cI, 5, .inl (fun _ => 0))), (q30, .inl (cI, 200, .inl (fun _ => 0))), (q31, .inl (cI, 5, .inl (fun _ => 0)))]) (by rw [wl_sapp (wl_app wl_end), wl_sapp wl_end, wl_send]; rfl) ?_
  refine mr_aload_n ok (i := 0) d_T_init_69 rfl rfl ?_
  refine mr_iconst ok 5 d_T_init_70 (by decide) ?_
  refine mr_newa ok 5 0 hz (mw 99 rfl rfl) (by decide) (by decide) (by decide) (by decide) (by decide) rfl d_T_init_71 (fun q32 => ?_)
  refine mr_ws (ws' := w0 ++ [(a, .inr (6, [.int 0, .int 0, .int 0, .ref q23, .ref q24, .ref q25, .ref q26, .ref q27, .ref q28, .ref q29, .ref q30, .ref q31, .null, .null, .null, .null, .null, .null, .null, .null, .null, .int 0, .int 0, .int 0]))] ++ [(q23, .inl (cZ, 5, .inl (fun _ => 0)))] ++ [(q24, .inl (cI, 5, .inl (fun _ => 0))), (q25, .inl (cI, 5, .inl (fun _ => 0))), (q26, .inl (cI, 5, .inl (fun _ => 0))), (q27, .inl (cI, 5, .inl (fun _ => 0))), (q28, .inl (cI, 5, .inl (fun _ => 0))), (q29, .inl (cI, 5, .inl (fun _ => 0))), (q30, .inl (cI, 200, .inl (fun _ => 0))), (q31, .inl (cI, 5, .inl (fun _ => 0))), (q32, .inl (cI, 5, .inl (fun _ => 0)))]) (by rw [List.append_assoc]; rfl) ?_
  refine mr_putF ok hnm fF_T_38 w0.length (wl_app (wl_app wl_end)) (Nat.le_of_ble_eq_true rfl) rfl rfl d_T_init_73 ?_
  refine mr_ws (ws' := w0 ++ [(a, .inr (6, [.int 0, .int 0, .int 0, .ref q23, .ref q24, .ref q25, .ref q26, .ref q27, .ref q28, .ref q29, .ref q30, .ref q31, .ref q32, .null, .null, .null, .null, .null, .null, .null, .null, .int 0, .int 0, .int 0]))] ++ [(q23, .inl (cZ, 5, .inl (fun _ => 0)))] ++ [(q24, .inl (cI, 5, .inl (fun _ => 0))), (q25, .inl (cI, 5, .inl (fun _ => 0))), (q26, .inl (cI, 5, .inl (fun _ => 0))), (q27, .inl (cI, 5, .inl (fun _ => 0))), (q28, .inl (cI, 5, .inl (fun _ => 0))), (q29, .inl (cI, 5, .inl (fun _ => 0))), (q30, .inl (cI, 200, .inl (fun _ => 0))), (q31, .inl (cI, 5, .inl (fun _ => 0))), (q32, .inl (cI, 5, .inl (fun _ => 0)))]) (by rw [wl_sapp (wl_app wl_end), wl_sapp wl_end, wl_send]; rfl) ?_
  refine mr_aload_n ok (i := 0) d_T_init_76 rfl rfl ?_
  refine mr_iconst ok 5 d_T_init_77 (by decide) ?_
  refine mr_newa ok 5 0 hz (mw 99 rfl rfl) (by decide) (by decide) (by decide) (by decide) (by decide) rfl d_T_init_78 (fun q33 => ?_)
  refine mr_ws (ws' := w0 ++ [(a, .inr (6, [.int 0, .int 0, .int 0, .ref q23, .ref q24, .ref q25, .ref q26, .ref q27, .ref q28, .ref q29, .ref q30, .ref q31, .ref q32, .null, .null, .null, .null, .null, .null, .null, .null, .int 0, .int 0, .int 0]))] ++ [(q23, .inl (cZ, 5, .inl (fun _ => 0)))] ++ [(q24, .inl (cI, 5, .inl (fun _ => 0))), (q25, .inl (cI, 5, .inl (fun _ => 0))), (q26, .inl (cI, 5, .inl (fun _ => 0))), (q27, .inl (cI, 5, .inl (fun _ => 0))), (q28, .inl (cI, 5, .inl (fun _ => 0))), (q29, .inl (cI, 5, .inl (fun _ => 0))), (q30, .inl (cI, 200, .inl (fun _ => 0))), (q31, .inl (cI, 5, .inl (fun _ => 0))), (q32, .inl (cI, 5, .inl (fun _ => 0))), (q33, .inl (cI, 5, .inl (fun _ => 0)))]) (by rw [List.append_assoc]; rfl) ?_
  refine mr_putF ok hnm fF_T_41 w0.length (wl_app (wl_app wl_end)) (Nat.le_of_ble_eq_true rfl) rfl rfl d_T_init_80 ?_
  refine mr_ws (ws' := w0 ++ [(a, .inr (6, [.int 0, .int 0, .int 0, .ref q23, .ref q24, .ref q25, .ref q26, .ref q27, .ref q28, .ref q29, .ref q30, .ref q31, .ref q32, .ref q33, .null, .null, .null, .null, .null, .null, .null, .int 0, .int 0, .int 0]))] ++ [(q23, .inl (cZ, 5, .inl (fun _ => 0)))] ++ [(q24, .inl (cI, 5, .inl (fun _ => 0))), (q25, .inl (cI, 5, .inl (fun _ => 0))), (q26, .inl (cI, 5, .inl (fun _ => 0))), (q27, .inl (cI, 5, .inl (fun _ => 0))), (q28, .inl (cI, 5, .inl (fun _ => 0))), (q29, .inl (cI, 5, .inl (fun _ => 0))), (q30, .inl (cI, 200, .inl (fun _ => 0))), (q31, .inl (cI, 5, .inl (fun _ => 0))), (q32, .inl (cI, 5, .inl (fun _ => 0))), (q33, .inl (cI, 5, .inl (fun _ => 0)))]) (by rw [wl_sapp (wl_app wl_end), wl_sapp wl_end, wl_send]; rfl) ?_
  refine mr_aload_n ok (i := 0) d_T_init_83 rfl rfl ?_
  refine mr_iconst ok 5 d_T_init_84 (by decide) ?_
  refine mr_newa ok 5 0 hz (mw 99 rfl rfl) (by decide) (by decide) (by decide) (by decide) (by decide) rfl d_T_init_85 (fun q34 => ?_)
  refine mr_ws (ws' := w0 ++ [(a, .inr (6, [.int 0, .int 0, .int 0, .ref q23, .ref q24, .ref q25, .ref q26, .ref q27, .ref q28, .ref q29, .ref q30, .ref q31, .ref q32, .ref q33, .null, .null, .null, .null, .null, .null, .null, .int 0, .int 0, .int 0]))] ++ [(q23, .inl (cZ, 5, .inl (fun _ => 0)))] ++ [(q24, .inl (cI, 5, .inl (fun _ => 0))), (q25, .inl (cI, 5, .inl (fun _ => 0))), (q26, .inl (cI, 5, .inl (fun _ => 0))), (q27, .inl (cI, 5, .inl (fun _ => 0))), (q28, .inl (cI, 5, .inl (fun _ => 0))), (q29, .inl (cI, 5, .inl (fun _ => 0))), (q30, .inl (cI, 200, .inl (fun _ => 0))), (q31, .inl (cI, 5, .inl (fun _ => 0))), (q32, .inl (cI, 5, .inl (fun _ => 0))), (q33, .inl (cI, 5, .inl (fun _ => 0))), (q34, .inl (cI, 5, .inl (fun _ => 0)))]) (by rw [List.append_assoc]; rfl) ?_
  refine mr_putF ok hnm fF_T_44 w0.length (wl_app (wl_app wl_end)) (Nat.le_of_ble_eq_true rfl) rfl rfl d_T_init_87 ?_
  refine mr_ws (ws' := w0 ++ [(a, .inr (6, [.int 0, .int 0, .int 0, .ref q23, .ref q24, .ref q25, .ref q26, .ref q27, .ref q28, .ref q29, .ref q30, .ref q31, .ref q32, .ref q33, .ref q34, .null, .null, .null, .null, .null, .null, .int 0, .int 0, .int 0]))] ++ [(q23, .inl (cZ, 5, .inl (fun _ => 0)))] ++ [(q24, .inl (cI, 5, .inl (fun _ => 0))), (q25, .inl (cI, 5, .inl (fun _ => 0))), (q26, .inl (cI, 5, .inl (fun _ => 0))), (q27, .inl (cI, 5, .inl (fun _ => 0))), (q28, .inl (cI, 5, .inl (fun _ => 0))), (q29, .inl (cI, 5, .inl (fun _ => 0))), (q30, .inl (cI, 200, .inl (fun _ => 0))), (q31, .inl (cI, 5, .inl (fun _ => 0))), (q32, .inl (cI, 5, .inl (fun _ => 0))), (q33, .inl (cI, 5, .inl (fun _ => 0))), (q34, .inl (cI, 5, .inl (fun _ => 0)))]) (by rw [wl_sapp (wl_app wl_end), wl_sapp wl_end, wl_send]; rfl) ?_
  refine mr_aload_n ok (i := 0) d_T_init_90 rfl rfl ?_
  refine mr_iconst ok 5 d_T_init_91 (by decide) ?_
  refine mr_newa ok 5 0 hz (mw 99 rfl rfl) (by decide) (by decide) (by decide) (by decide) (by decide) rfl d_T_init_92 (fun q35 => ?_)
  refine mr_ws (ws' := w0 ++ [(a, .inr (6, [.int 0, .int 0, .int 0, .ref q23, .ref q24, .ref q25, .ref q26, .ref q27, .ref q28, .ref q29, .ref q30, .ref q31, .ref q32, .ref q33, .ref q34, .null, .null, .null, .null, .null, .null, .int 0, .int 0, .int 0]))] ++ [(q23, .inl (cZ, 5, .inl (fun _ => 0)))] ++ [(q24, .inl (cI, 5, .inl (fun _ => 0))), (q25, .inl (cI, 5, .inl (fun _ => 0))), (q26, .inl (cI, 5, .inl (fun _ => 0))), (q27, .inl (cI, 5, .inl (fun _ => 0))), (q28, .inl (cI, 5, .inl (fun _ => 0))), (q29, .inl (cI, 5, .inl (fun _ => 0))), (q30, .inl (cI, 200, .inl (fun _ => 0))), (q31, .inl (cI, 5, .inl (fun _ => 0))), (q32, .inl (cI, 5, .inl (fun _ => 0))), (q33, .inl (cI, 5, .inl (fun _ => 0))), (q34, .inl (cI, 5, .inl (fun _ => 0))), (q35, .inl (cI, 5, .inl (fun _ => 0)))]) (by rw [List.append_assoc]; rfl) ?_
  refine mr_putF ok hnm fF_T_47 w0.length (wl_app (wl_app wl_end)) (Nat.le_of_ble_eq_true rfl) rfl rfl d_T_init_94 ?_
  refine mr_ws (ws' := w0 ++ [(a, .inr (6, [.int 0, .int 0, .int 0, .ref q23, .ref q24, .ref q25, .ref q26, .ref q27, .ref q28, .ref q29, .ref q30, .ref q31, .ref q32, .ref q33, .ref q34, .ref q35, .null, .null, .null, .null, .null, .int 0, .int 0, .int 0]))] ++ [(q23, .inl (cZ, 5, .inl (fun _ => 0)))] ++ [(q24, .inl (cI, 5, .inl (fun _ => 0))), (q25, .inl (cI, 5, .inl (fun _ => 0))), (q26, .inl (cI, 5, .inl (fun _ => 0))), (q27, .inl (cI, 5, .inl (fun _ => 0))), (q28, .inl (cI, 5, .inl (fun _ => 0))), (q29, .inl (cI, 5, .inl (fun _ => 0))), (q30, .inl (cI, 200, .inl (fun _ => 0))), (q31, .inl (cI, 5, .inl (fun _ => 0))), (q32, .inl (cI, 5, .inl (fun _ => 0))), (q33, .inl (cI, 5, .inl (fun _ => 0))), (q34, .inl (cI, 5, .inl (fun _ => 0))), (q35, .inl (cI, 5, .inl (fun _ => 0)))]) (by rw [wl_sapp (wl_app wl_end), wl_sapp wl_end, wl_send]; rfl) ?_
  refine mr_aload_n ok (i := 0) d_T_init_97 rfl rfl ?_
  refine mr_iconst ok 5 d_T_init_98 (by decide) ?_
  refine mr_newa ok 5 0 hz (mw 99 rfl rfl) (by decide) (by decide) (by decide) (by decide) (by decide) rfl d_T_init_99 (fun q36 => ?_)
  refine mr_ws (ws' := w0 ++ [(a, .inr (6, [.int 0, .int 0, .int 0, .ref q23, .ref q24, .ref q25, .ref q26, .ref q27, .ref q28, .ref q29, .ref q30, .ref q31, .ref q32, .ref q33, .ref q34, .ref q35, .null, .null, .null, .null, .null, .int 0, .int 0, .int 0]))] ++ [(q23, .inl (cZ, 5, .inl (fun _ => 0)))] ++ [(q24, .inl (cI, 5, .inl (fun _ => 0))), (q25, .inl (cI, 5, .inl (fun _ => 0))), (q26, .inl (cI, 5, .inl (fun _ => 0))), (q27, .inl (cI, 5, .inl (fun _ => 0))), (q28, .inl (cI, 5, .inl (fun _ => 0))), (q29, .inl (cI, 5, .inl (fun _ => 0))), (q30, .inl (cI, 200, .inl (fun _ => 0))), (q31, .inl (cI, 5, .inl (fun _ => 0))), (q32, .inl (cI, 5, .inl (fun _ => 0))), (q33, .inl (cI, 5, .inl (fun _ => 0))), (q34, .inl (cI, 5, .inl (fun _ => 0))), (q35, .inl (cI, 5, .inl (fun _ => 0))), (q36, .inl (cI, 5, .inl (fun _ => 0)))]) (by rw [List.append_assoc]; rfl) ?_
  refine mr_putF ok hnm fF_T_50 w0.length (wl_app (wl_app wl_end)) (Nat.le_of_ble_eq_true rfl) rfl rfl d_T_init_101 ?_
  refine mr_ws (ws' := w0 ++ [(a, .inr (6, [.int 0, .int 0, .int 0, .ref q23, .ref q24, .ref q25, .ref q26, .ref q27, .ref q28, .ref q29, .ref q30, .ref q31, .ref q32, .ref q33, .ref q34, .ref q35, .ref q36, .null, .null, .null, .null, .int 0, .int 0, .int 0]))] ++ [(q23, .inl (cZ, 5, .inl (fun _ => 0)))] ++ [(q24, .inl (cI, 5, .inl (fun _ => 0))), (q25, .inl (cI, 5, .inl (fun _ => 0))), (q26, .inl (cI, 5, .inl (fun _ => 0))), (q27, .inl (cI, 5, .inl (fun _ => 0))), (q28, .inl (cI, 5, .inl (fun _ => 0))), (q29, .inl (cI, 5, .inl (fun _ => 0))), (q30, .inl (cI, 200, .inl (fun _ => 0))), (q31, .inl (cI, 5, .inl (fun _ => 0))), (q32, .inl (cI, 5, .inl (fun _ => 0))), (q33, .inl (cI, 5, .inl (fun _ => 0))), (q34, .inl (cI, 5, .inl (fun _ => 0))), (q35, .inl (cI, 5, .inl (fun _ => 0))), (q36, .inl (cI, 5, .inl (fun _ => 0)))]) (by rw [wl_sapp (wl_app wl_end), wl_sapp wl_end, wl_send]; rfl) ?_
  refine mr_aload_n ok (i := 0) d_T_init_104 rfl rfl ?_
  refine mr_iconst ok 5 d_T_init_105 (by decide) ?_
  refine mr_newa ok 5 0 hz (mw 99 rfl rfl) (by decide) (by decide) (by decide) (by decide) (by decide) rfl d_T_init_106 (fun q37 => ?_)
  refine mr_ws (ws' := w0 ++ [(a, .inr (6, [.int 0, .int 0, .int 0, .ref q23, .ref q24, .ref q25, .ref q26, .ref q27, .ref q28, .ref q29, .ref q30, .ref q31, .ref q32, .ref q33, .ref q34, .ref q35, .ref q36, .null, .null, .null, .null, .int 0, .int 0, .int 0]))] ++ [(q23, .inl (cZ, 5, .inl (fun _ => 0)))] ++ [(q24, .inl (cI, 5, .inl (fun _ => 0))), (q25, .inl (cI, 5, .inl (fun _ => 0))), (q26, .inl (cI, 5, .inl (fun _ => 0))), (q27, .inl (cI, 5, .inl (fun _ => 0))), (q28, .inl (cI, 5, .inl (fun _ => 0))), (q29, .inl (cI, 5, .inl (fun _ => 0))), (q30, .inl (cI, 200, .inl (fun _ => 0))), (q31, .inl (cI, 5, .inl (fun _ => 0))), (q32, .inl (cI, 5, .inl (fun _ => 0))), (q33, .inl (cI, 5, .inl (fun _ => 0))), (q34, .inl (cI, 5, .inl (fun _ => 0))), (q35, .inl (cI, 5, .inl (fun _ => 0))), (q36, .inl (cI, 5, .inl (fun _ => 0))), (q37, .inl (cI, 5, .inl (fun _ => 0)))]) (by rw [List.append_assoc]; rfl) ?_
  refine mr_putF ok hnm fF_T_53 w0.length (wl_app (wl_app wl_end)) (Nat.le_of_ble_eq_true rfl) rfl rfl d_T_init_108 ?_
  refine mr_ws (ws' := w0 ++ [(a, .inr (6, [.int 0, .int 0, .int 0, .ref q23, .ref q24, .ref q25, .ref q26, .ref q27, .ref q28, .ref q29, .ref q30, .ref q31, .ref q32, .ref q33, .ref q34, .ref q35, .ref q36, .ref q37, .null, .null, .null, .int 0, .int 0, .int 0]))] ++ [(q23, .inl (cZ, 5, .inl (fun _ => 0)))] ++ [(q24, .inl (cI, 5, .inl (fun _ => 0))), (q25, .inl (cI, 5, .inl (fun _ => 0))), (q26, .inl (cI, 5, .inl (fun _ => 0))), (q27, .inl (cI, 5, .inl (fun _ => 0))), (q28, .inl (cI, 5, .inl (fun _ => 0))), (q29, .inl (cI, 5, .inl (fun _ => 0))), (q30, .inl (cI, 200, .inl (fun _ => 0))), (q31, .inl (cI, 5, .inl (fun _ => 0))), (q32, .inl (cI, 5, .inl (fun _ => 0))), (q33, .inl (cI, 5, .inl (fun _ => 0))), (q34, .inl (cI, 5, .inl (fun _ => 0))), (q35, .inl (cI, 5, .inl (fun _ => 0))), (q36, .inl (cI, 5, .inl (fun _ => 0))), (q37, .inl (cI, 5, .inl (fun _ => 0)))]) (by rw [wl_sapp (wl_app wl_end), wl_sapp wl_end, wl_send]; rfl) ?_
  refine mr_aload_n ok (i := 0) d_T_init_111 rfl rfl ?_
  refine mr_bipush ok 40 d_T_init_112 (by decide) ?_
  refine mr_newa ok 40 0 hz (mw 99 rfl rfl) (by decide) (by decide) (by decide) (by decide) (by decide) rfl d_T_init_114 (fun q38 => ?_)
  refine mr_ws (ws' := w0 ++ [(a, .inr (6, [.int 0, .int 0, .int 0, .ref q23, .ref q24, .ref q25, .ref q26, .ref q27, .ref q28, .ref q29, .ref q30, .ref q31, .ref q32, .ref q33, .ref q34, .ref q35, .ref q36, .ref q37, .null, .null, .null, .int 0, .int 0, .int 0]))] ++ [(q23, .inl (cZ, 5, .inl (fun _ => 0)))] ++ [(q24, .inl (cI, 5, .inl (fun _ => 0))), (q25, .inl (cI, 5, .inl (fun _ => 0))), (q26, .inl (cI, 5, .inl (fun _ => 0))), (q27, .inl (cI, 5, .inl (fun _ => 0))), (q28, .inl (cI, 5, .inl (fun _ => 0))), (q29, .inl (cI, 5, .inl (fun _ => 0))), (q30, .inl (cI, 200, .inl (fun _ => 0))), (q31, .inl (cI, 5, .inl (fun _ => 0))), (q32, .inl (cI, 5, .inl (fun _ => 0))), (q33, .inl (cI, 5, .inl (fun _ => 0))), (q34, .inl (cI, 5, .inl (fun _ => 0))), (q35, .inl (cI, 5, .inl (fun _ => 0))), (q36, .inl (cI, 5, .inl (fun _ => 0))), (q37, .inl (cI, 5, .inl (fun _ => 0))), (q38, .inl (cI, 40, .inl (fun _ => 0)))]) (by rw [List.append_assoc]; rfl) ?_
  refine mr_putF ok hnm fF_T_56 w0.length (wl_app (wl_app wl_end)) (Nat.le_of_ble_eq_true rfl) rfl rfl d_T_init_116 ?_
  refine mr_ws (ws' := w0 ++ [(a, .inr (6, [.int 0, .int 0, .int 0, .ref q23, .ref q24, .ref q25, .ref q26, .ref q27, .ref q28, .ref q29, .ref q30, .ref q31, .ref q32, .ref q33, .ref q34, .ref q35, .ref q36, .ref q37, .ref q38, .null, .null, .int 0, .int 0, .int 0]))] ++ [(q23, .inl (cZ, 5, .inl (fun _ => 0)))] ++ [(q24, .inl (cI, 5, .inl (fun _ => 0))), (q25, .inl (cI, 5, .inl (fun _ => 0))), (q26, .inl (cI, 5, .inl (fun _ => 0))), (q27, .inl (cI, 5, .inl (fun _ => 0))), (q28, .inl (cI, 5, .inl (fun _ => 0))), (q29, .inl (cI, 5, .inl (fun _ => 0))), (q30, .inl (cI, 200, .inl (fun _ => 0))), (q31, .inl (cI, 5, .inl (fun _ => 0))), (q32, .inl (cI, 5, .inl (fun _ => 0))), (q33, .inl (cI, 5, .inl (fun _ => 0))), (q34, .inl (cI, 5, .inl (fun _ => 0))), (q35, .inl (cI, 5, .inl (fun _ => 0))), (q36, .inl (cI, 5, .inl (fun _ => 0))), (q37, .inl (cI, 5, .inl (fun _ => 0))), (q38, .inl (cI, 40, .inl (fun _ => 0)))]) (by rw [wl_sapp (wl_app wl_end), wl_sapp wl_end, wl_send]; rfl) ?_
  refine mr_aload_n ok (i := 0) d_T_init_119 rfl rfl ?_
  refine mr_iconst ok 5 d_T_init_120 (by decide) ?_
  refine mr_newa ok 5 0 hz (mw 99 rfl rfl) (by decide) (by decide) (by decide) (by decide) (by decide) rfl d_T_init_121 (fun q39 => ?_)
  refine mr_ws (ws' := w0 ++ [(a, .inr (6, [.int 0, .int 0, .int 0, .ref q23, .ref q24, .ref q25, .ref q26, .ref q27, .ref q28, .ref q29, .ref q30, .ref q31, .ref q32, .ref q33, .ref q34, .ref q35, .ref q36, .ref q37, .ref q38, .null, .null, .int 0, .int 0, .int 0]))] ++ [(q23, .inl (cZ, 5, .inl (fun _ => 0)))] ++ [(q24, .inl (cI, 5, .inl (fun _ => 0))), (q25, .inl (cI, 5, .inl (fun _ => 0))), (q26, .inl (cI, 5, .inl (fun _ => 0))), (q27, .inl (cI, 5, .inl (fun _ => 0))), (q28, .inl (cI, 5, .inl (fun _ => 0))), (q29, .inl (cI, 5, .inl (fun _ => 0))), (q30, .inl (cI, 200, .inl (fun _ => 0))), (q31, .inl (cI, 5, .inl (fun _ => 0))), (q32, .inl (cI, 5, .inl (fun _ => 0))), (q33, .inl (cI, 5, .inl (fun _ => 0))), (q34, .inl (cI, 5, .inl (fun _ => 0))), (q35, .inl (cI, 5, .inl (fun _ => 0))), (q36, .inl (cI, 5, .inl (fun _ => 0))), (q37, .inl (cI, 5, .inl (fun _ => 0))), (q38, .inl (cI, 40, .inl (fun _ => 0))), (q39, .inl (cI, 5, .inl (fun _ => 0)))]) (by rw [List.append_assoc]; rfl) ?_
  refine mr_putF ok hnm fF_T_59 w0.length (wl_app (wl_app wl_end)) (Nat.le_of_ble_eq_true rfl) rfl rfl d_T_init_123 ?_
  refine mr_ws (ws' := w0 ++ [(a, .inr (6, [.int 0, .int 0, .int 0, .ref q23, .ref q24, .ref q25, .ref q26, .ref q27, .ref q28, .ref q29, .ref q30, .ref q31, .ref q32, .ref q33, .ref q34, .ref q35, .ref q36, .ref q37, .ref q38, .ref q39, .null, .int 0, .int 0, .int 0]))] ++ [(q23, .inl (cZ, 5, .inl (fun _ => 0)))] ++ [(q24, .inl (cI, 5, .inl (fun _ => 0))), (q25, .inl (cI, 5, .inl (fun _ => 0))), (q26, .inl (cI, 5, .inl (fun _ => 0))), (q27, .inl (cI, 5, .inl (fun _ => 0))), (q28, .inl (cI, 5, .inl (fun _ => 0))), (q29, .inl (cI, 5, .inl (fun _ => 0))), (q30, .inl (cI, 200, .inl (fun _ => 0))), (q31, .inl (cI, 5, .inl (fun _ => 0))), (q32, .inl (cI, 5, .inl (fun _ => 0))), (q33, .inl (cI, 5, .inl (fun _ => 0))), (q34, .inl (cI, 5, .inl (fun _ => 0))), (q35, .inl (cI, 5, .inl (fun _ => 0))), (q36, .inl (cI, 5, .inl (fun _ => 0))), (q37, .inl (cI, 5, .inl (fun _ => 0))), (q38, .inl (cI, 40, .inl (fun _ => 0))), (q39, .inl (cI, 5, .inl (fun _ => 0)))]) (by rw [wl_sapp (wl_app wl_end), wl_sapp wl_end, wl_send]; rfl) ?_
  refine mr_aload_n ok (i := 0) d_T_init_126 rfl rfl ?_
  refine mr_sipush ok 1407 d_T_init_127 (by decide) ?_
  refine mr_newa ok 1407 0 hz (mw 99 rfl rfl) (by decide) (by decide) (by decide) (by decide) (by decide) rfl d_T_init_130 (fun q40 => ?_)
  refine mr_ws (ws' := w0 ++ [(a, .inr (6, [.int 0, .int 0, .int 0, .ref q23, .ref q24, .ref q25, .ref q26, .ref q27, .ref q28, .ref q29, .ref q30, .ref q31, .ref q32, .ref q33, .ref q34, .ref q35, .ref q36, .ref q37, .ref q38, .ref q39, .null, .int 0, .int 0, .int 0]))] ++ [(q23, .inl (cZ, 5, .inl (fun _ => 0)))] ++ [(q24, .inl (cI, 5, .inl (fun _ => 0))), (q25, .inl (cI, 5, .inl (fun _ => 0))), (q26, .inl (cI, 5, .inl (fun _ => 0))), (q27, .inl (cI, 5, .inl (fun _ => 0))), (q28, .inl (cI, 5, .inl (fun _ => 0))), (q29, .inl (cI, 5, .inl (fun _ => 0))), (q30, .inl (cI, 200, .inl (fun _ => 0))), (q31, .inl (cI, 5, .inl (fun _ => 0))), (q32, .inl (cI, 5, .inl (fun _ => 0))), (q33, .inl (cI, 5, .inl (fun _ => 0))), (q34, .inl (cI, 5, .inl (fun _ => 0))), (q35, .inl (cI, 5, .inl (fun _ => 0))), (q36, .inl (cI, 5, .inl (fun _ => 0))), (q37, .inl (cI, 5, .inl (fun _ => 0))), (q38, .inl (cI, 40, .inl (fun _ => 0))), (q39, .inl (cI, 5, .inl (fun _ => 0))), (q40, .inl (cI, 1407, .inl (fun _ => 0)))]) (by rw [List.append_assoc]; rfl) ?_
  refine mr_putF ok hnm fF_T_62 w0.length (wl_app (wl_app wl_end)) (Nat.le_of_ble_eq_true rfl) rfl rfl d_T_init_132 ?_
  refine mr_ws (ws' := w0 ++ [(a, .inr (6, [.int 0, .int 0, .int 0, .ref q23, .ref q24, .ref q25, .ref q26, .ref q27, .ref q28, .ref q29, .ref q30, .ref q31, .ref q32, .ref q33, .ref q34, .ref q35, .ref q36, .ref q37, .ref q38, .ref q39, .ref q40, .int 0, .int 0, .int 0]))] ++ [(q23, .inl (cZ, 5, .inl (fun _ => 0)))] ++ [(q24, .inl (cI, 5, .inl (fun _ => 0))), (q25, .inl (cI, 5, .inl (fun _ => 0))), (q26, .inl (cI, 5, .inl (fun _ => 0))), (q27, .inl (cI, 5, .inl (fun _ => 0))), (q28, .inl (cI, 5, .inl (fun _ => 0))), (q29, .inl (cI, 5, .inl (fun _ => 0))), (q30, .inl (cI, 200, .inl (fun _ => 0))), (q31, .inl (cI, 5, .inl (fun _ => 0))), (q32, .inl (cI, 5, .inl (fun _ => 0))), (q33, .inl (cI, 5, .inl (fun _ => 0))), (q34, .inl (cI, 5, .inl (fun _ => 0))), (q35, .inl (cI, 5, .inl (fun _ => 0))), (q36, .inl (cI, 5, .inl (fun _ => 0))), (q37, .inl (cI, 5, .inl (fun _ => 0))), (q38, .inl (cI, 40, .inl (fun _ => 0))), (q39, .inl (cI, 5, .inl (fun _ => 0))), (q40, .inl (cI, 1407, .inl (fun _ => 0)))]) (by rw [wl_sapp (wl_app wl_end), wl_sapp wl_end, wl_send]; rfl) ?_
  have k180 : mx X (18, 1722) 180 [(0, .ref a), (1, .int x), (2, .int y)] [.int (nI (cL y)), .ref a] (w0 ++ [(a, .inr (6, [.int 0, .int (nI (cN x)), .int 0, .ref q23, .ref q24, .ref q25, .ref q26, .ref q27, .ref q28, .ref q29, .ref q30, .ref q31, .ref q32, .ref q33, .ref q34, .ref q35, .ref q36, .ref q37, .ref q38, .ref q39, .ref q40, .int 0, .int 0, .int 0]))] ++ [(q23, .inl (cZ, 5, .inl (fun _ => 0)))] ++ [(q24, .inl (cI, 5, .inl (fun _ => 0))), (q25, .inl (cI, 5, .inl (fun _ => 0))), (q26, .inl (cI, 5, .inl (fun _ => 0))), (q27, .inl (cI, 5, .inl (fun _ => 0))), (q28, .inl (cI, 5, .inl (fun _ => 0))), (q29, .inl (cI, 5, .inl (fun _ => 0))), (q30, .inl (cI, 200, .inl (fun _ => 0))), (q31, .inl (cI, 5, .inl (fun _ => 0))), (q32, .inl (cI, 5, .inl (fun _ => 0))), (q33, .inl (cI, 5, .inl (fun _ => 0))), (q34, .inl (cI, 5, .inl (fun _ => 0))), (q35, .inl (cI, 5, .inl (fun _ => 0))), (q36, .inl (cI, 5, .inl (fun _ => 0))), (q37, .inl (cI, 5, .inl (fun _ => 0))), (q38, .inl (cI, 40, .inl (fun _ => 0))), (q39, .inl (cI, 5, .inl (fun _ => 0))), (q40, .inl (cI, 1407, .inl (fun _ => 0)))]) := by
    refine mr_putF ok hnm fF_T_69 w0.length (wl_app (wl_app wl_end)) (Nat.le_of_ble_eq_true rfl) rfl rfl d_T_init_180 ?_
    refine mr_ws (ws' := w0 ++ [(a, .inr (6, [.int 0, .int (nI (cN x)), .int (nI (cL y)), .ref q23, .ref q24, .ref q25, .ref q26, .ref q27, .ref q28, .ref q29, .ref q30, .ref q31, .ref q32, .ref q33, .ref q34, .ref q35, .ref q36, .ref q37, .ref q38, .ref q39, .ref q40, .int 0, .int 0, .int 0]))] ++ [(q23, .inl (cZ, 5, .inl (fun _ => 0)))] ++ [(q24, .inl (cI, 5, .inl (fun _ => 0))), (q25, .inl (cI, 5, .inl (fun _ => 0))), (q26, .inl (cI, 5, .inl (fun _ => 0))), (q27, .inl (cI, 5, .inl (fun _ => 0))), (q28, .inl (cI, 5, .inl (fun _ => 0))), (q29, .inl (cI, 5, .inl (fun _ => 0))), (q30, .inl (cI, 200, .inl (fun _ => 0))), (q31, .inl (cI, 5, .inl (fun _ => 0))), (q32, .inl (cI, 5, .inl (fun _ => 0))), (q33, .inl (cI, 5, .inl (fun _ => 0))), (q34, .inl (cI, 5, .inl (fun _ => 0))), (q35, .inl (cI, 5, .inl (fun _ => 0))), (q36, .inl (cI, 5, .inl (fun _ => 0))), (q37, .inl (cI, 5, .inl (fun _ => 0))), (q38, .inl (cI, 40, .inl (fun _ => 0))), (q39, .inl (cI, 5, .inl (fun _ => 0))), (q40, .inl (cI, 1407, .inl (fun _ => 0)))]) (by rw [wl_sapp (wl_app wl_end), wl_sapp wl_end, wl_send]; rfl) ?_
    refine mr_iconst ok 0 d_T_init_183 (by decide) ?_
    refine mr_istore_n ok (i := 3) d_T_init_184 rfl (by decide) ?_
    refine mr_lv [(0, .ref a), (1, .int x), (2, .int y), (3, .int (nI 0))] ⟨rfl, rfl, rfl, rfl, trivial⟩ ?_
    refine mr_ws (ws' := w0 ++ pt cI cZ (cN x) (cL y) a q23 q24 q25 q26 q27 q28 q29 q30 q31 q32 q33 q34 q35 q36 q37 q38 q39 q40 0) (by unfold pt; rw [pu_0, ← List.append_assoc, ← List.append_assoc]) ?_
    refine l_T_init hz2 hN ok ?_ 6 0 (Nat.zero_le _) (by omega)
    exact mr_vret ok en (by decide) (by decide) d_T_init_206 ⟨rfl, q23, q24, q25, q26, q27, q28, q29, q30, q31, q32, q33, q34, q35, q36, q37, q38, q39, q40, rfl⟩
  have k155 : mx X (18, 1722) 155 [(0, .ref a), (1, .int x), (2, .int y)] [.int (nI (cN x)), .ref a] (w0 ++ [(a, .inr (6, [.int 0, .int 0, .int 0, .ref q23, .ref q24, .ref q25, .ref q26, .ref q27, .ref q28, .ref q29, .ref q30, .ref q31, .ref q32, .ref q33, .ref q34, .ref q35, .ref q36, .ref q37, .ref q38, .ref q39, .ref q40, .int 0, .int 0, .int 0]))] ++ [(q23, .inl (cZ, 5, .inl (fun _ => 0)))] ++ [(q24, .inl (cI, 5, .inl (fun _ => 0))), (q25, .inl (cI, 5, .inl (fun _ => 0))), (q26, .inl (cI, 5, .inl (fun _ => 0))), (q27, .inl (cI, 5, .inl (fun _ => 0))), (q28, .inl (cI, 5, .inl (fun _ => 0))), (q29, .inl (cI, 5, .inl (fun _ => 0))), (q30, .inl (cI, 200, .inl (fun _ => 0))), (q31, .inl (cI, 5, .inl (fun _ => 0))), (q32, .inl (cI, 5, .inl (fun _ => 0))), (q33, .inl (cI, 5, .inl (fun _ => 0))), (q34, .inl (cI, 5, .inl (fun _ => 0))), (q35, .inl (cI, 5, .inl (fun _ => 0))), (q36, .inl (cI, 5, .inl (fun _ => 0))), (q37, .inl (cI, 5, .inl (fun _ => 0))), (q38, .inl (cI, 40, .inl (fun _ => 0))), (q39, .inl (cI, 5, .inl (fun _ => 0))), (q40, .inl (cI, 1407, .inl (fun _ => 0)))]) := by
    refine mr_putF ok hnm fF_T_65 w0.length (wl_app (wl_app wl_end)) (Nat.le_of_ble_eq_true rfl) rfl rfl d_T_init_155 ?_
    refine mr_ws (ws' := w0 ++ [(a, .inr (6, [.int 0, .int (nI (cN x)), .int 0, .ref q23, .ref q24, .ref q25, .ref q26, .ref q27, .ref q28, .ref q29, .ref q30, .ref q31, .ref q32, .ref q33, .ref q34, .ref q35, .ref q36, .ref q37, .ref q38, .ref q39, .ref q40, .int 0, .int 0, .int 0]))] ++ [(q23, .inl (cZ, 5, .inl (fun _ => 0)))] ++ [(q24, .inl (cI, 5, .inl (fun _ => 0))), (q25, .inl (cI, 5, .inl (fun _ => 0))), (q26, .inl (cI, 5, .inl (fun _ => 0))), (q27, .inl (cI, 5, .inl (fun _ => 0))), (q28, .inl (cI, 5, .inl (fun _ => 0))), (q29, .inl (cI, 5, .inl (fun _ => 0))), (q30, .inl (cI, 200, .inl (fun _ => 0))), (q31, .inl (cI, 5, .inl (fun _ => 0))), (q32, .inl (cI, 5, .inl (fun _ => 0))), (q33, .inl (cI, 5, .inl (fun _ => 0))), (q34, .inl (cI, 5, .inl (fun _ => 0))), (q35, .inl (cI, 5, .inl (fun _ => 0))), (q36, .inl (cI, 5, .inl (fun _ => 0))), (q37, .inl (cI, 5, .inl (fun _ => 0))), (q38, .inl (cI, 40, .inl (fun _ => 0))), (q39, .inl (cI, 5, .inl (fun _ => 0))), (q40, .inl (cI, 1407, .inl (fun _ => 0)))]) (by rw [wl_sapp (wl_app wl_end), wl_sapp wl_end, wl_send]; rfl) ?_
    refine mr_aload_n ok (i := 0) d_T_init_158 rfl rfl ?_
    refine mr_iload_n ok (i := 2) d_T_init_159 rfl rfl ?_
    refine mr_iconst ok 1 d_T_init_160 (by decide) ?_
    refine mr_icmp_ge ok 168 d_T_init_161 (by decide) (fun h1 => ?_) (fun h1 => ?_)
    · refine mr_iload_n ok (i := 2) d_T_init_168 rfl rfl ?_
      refine mr_bipush ok 32 d_T_init_169 (by decide) ?_
      refine mr_icmp_le ok 179 d_T_init_171 (by decide) (fun h2 => ?_) (fun h2 => ?_)
      · refine mr_iload_n ok (i := 2) d_T_init_179 rfl rfl ?_
        refine sx_topm ?_ k180
        rw [cL_i, if_neg (Int32.not_lt.mpr h1), if_neg (Int32.not_lt.mpr h2)]
      · refine mr_bipush ok 32 d_T_init_174 (by decide) ?_
        refine mr_goto ok 180 d_T_init_176 (by decide) ?_
        refine sx_topm ?_ k180
        rw [cL_i, if_neg (Int32.not_lt.mpr h1), if_pos (Int32.not_le.mp h2)]
    · refine mr_iconst ok 1 d_T_init_164 (by decide) ?_
      refine mr_goto ok 180 d_T_init_165 (by decide) ?_
      refine sx_topm ?_ k180
      rw [cL_i, if_pos (Int32.not_le.mp h1)]
  refine mr_aload_n ok (i := 0) d_T_init_135 rfl rfl ?_
  refine mr_iload_n ok (i := 1) d_T_init_136 rfl rfl ?_
  refine mr_iconst ok 3 d_T_init_137 (by decide) ?_
  refine mr_icmp_ge ok 145 d_T_init_138 (by decide) (fun h1 => ?_) (fun h1 => ?_)
  · refine mr_iload_n ok (i := 1) d_T_init_145 rfl rfl ?_
    refine mr_iconst ok 5 d_T_init_146 (by decide) ?_
    refine mr_icmp_le ok 154 d_T_init_147 (by decide) (fun h2 => ?_) (fun h2 => ?_)
    · refine mr_iload_n ok (i := 1) d_T_init_154 rfl rfl ?_
      refine sx_topm ?_ k155
      rw [cN_i, if_neg (Int32.not_lt.mpr h1), if_neg (Int32.not_lt.mpr h2)]
    · refine mr_iconst ok 5 d_T_init_150 (by decide) ?_
      refine mr_goto ok 155 d_T_init_151 (by decide) ?_
      refine sx_topm ?_ k155
      rw [cN_i, if_neg (Int32.not_lt.mpr h1), if_pos (Int32.not_le.mp h2)]
  · refine mr_iconst ok 3 d_T_init_141 (by decide) ?_
    refine mr_goto ok 155 d_T_init_142 (by decide) ?_
    refine sx_topm ?_ k155
    rw [cN_i, if_pos (Int32.not_le.mp h1)]
