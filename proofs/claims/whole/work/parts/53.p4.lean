/-- replica -/
theorem T_rep_s {N L : Nat} {r : sh_S} {i : Nat} {y : Int32} : s_T_replica N L r i y = sU r 20 0 0 0 := by
  unfold s_T_replica
  dsimp only
  simp only [ite_self]
theorem q_replica {N L t : Nat} {c r : sh_S} (hN : N ≤ 5) (hL : L ≤ 32) (ht : t ≤ 600) (x y : Int32) (h : Rl N L t c r) : v_P_replica N L c x y = u_T_replica N L r x y ∧ Rl N L (t + 1) c (z_T_replica N L r x y) := by
  unfold v_P_replica u_T_replica z_T_replica
  by_cases hk : kF N x
  · rw [if_pos hk, if_pos hk, if_pos hk, T_rep_s]
    refine ⟨?_, Rl_0 h⟩
    have hi := (kF_lt hk hN).1
    generalize x.toNatClampNeg = i at hi ⊢
    obtain ⟨⟨⟨a1, a2, a3, a4, a5, a6, a7, a8, a9⟩, -⟩, ⟨-, ⟨-, v5, v6, v7, -⟩, v10, -⟩, hB, q, g1, g2, g3, -⟩ := h.1 i hi
    rw [ahead_eq (N := N) hL ht hB]
    obtain ⟨a, b, e, k1, k2, k3, k4, k5, k6, k7, -⟩ := hB
    unfold v_T_replica v_R_hasAccepted v_R_passing
    dsimp only
    have s23 : sU r 20 0 0 0 23 0 i = r 23 0 i := rfl
    have s24 : sU r 20 0 0 0 24 0 i = r 24 0 i := rfl
    have s25 : sU r 20 0 0 0 25 0 i = r 25 0 i := rfl
    have s26 : sU r 20 0 0 0 26 0 i = r 26 0 i := rfl
    have s27 : sU r 20 0 0 0 27 0 i = r 27 0 i := rfl
    have s28 : sU r 20 0 0 0 28 0 i = r 28 0 i := rfl
    have s29 : sU r 20 0 0 0 29 0 i = r 29 0 i := rfl
    have s31 : sU r 20 0 0 0 31 0 i = r 31 0 i := rfl
    have s32 : sU r 20 0 0 0 32 0 i = r 32 0 i := rfl
    have s33 : sU r 20 0 0 0 33 0 i = r 33 0 i := rfl
    have s34 : sU r 20 0 0 0 34 0 i = r 34 0 i := rfl
    have s37 : sU r 20 0 0 0 37 0 i = r 37 0 i := rfl
    have s39 : sU r 20 0 0 0 39 0 i = r 39 0 i := rfl
    simp only [s23, s24, s25, s26, s27, s28, s29, s31, s32, s33, s34, s37, s39, a1, a2, a3, a4, a5, a6, a7, a8, a9, k5, k6, k7, g2, g3]
    by_cases y0 : y = 0
    · subst y0; simp
    by_cases y1 : y = 1
    · subst y1; simp
    by_cases y2 : y = 2
    · subst y2; simp
    by_cases y3 : y = 3
    · subst y3; simp
    by_cases y4 : y = 4
    · subst y4; simp
    by_cases y5 : y = 5
    · subst y5
      rcases v10 with ⟨w1, w2⟩ | ⟨w1, w2⟩
      · simp [w1, w2]
      · have n1 : ¬ r 28 0 i = 0 := fun z => by rw [z] at w2; exact absurd w2 (by decide)
        have n2 : ¬ r 29 0 i ≤ 0 := Int32.not_le.mpr w1
        simp [n1, n2]
    by_cases y6 : y = 6
    · subst y6; simp
    by_cases y7 : y = 7
    · subst y7; simp
    by_cases y8 : y = 8
    · subst y8; simp
    by_cases y9 : y = 9
    · subst y9
      by_cases w1 : r 31 0 i = 2
      · by_cases w2 : r 34 0 i = 0
        · have := v7 w1 w2
          simp [w1, w2, this]
        · simp [w1, w2]
      · simp [w1]
    by_cases y10 : y = 10
    · subst y10; simp
    by_cases y11 : y = 11
    · subst y11; simp
    by_cases y12 : y = 12
    · subst y12; simp
    have hout : y < 0 ∨ 12 < y := by
      have t0 := lv_neT y0 (a := 0) (by decide)
      have t1 := lv_neT y1 (a := 1) (by decide)
      have t2 := lv_neT y2 (a := 2) (by decide)
      have t3 := lv_neT y3 (a := 3) (by decide)
      have t4 := lv_neT y4 (a := 4) (by decide)
      have t5 := lv_neT y5 (a := 5) (by decide)
      have t6 := lv_neT y6 (a := 6) (by decide)
      have t7 := lv_neT y7 (a := 7) (by decide)
      have t8 := lv_neT y8 (a := 8) (by decide)
      have t9 := lv_neT y9 (a := 9) (by decide)
      have t10 := lv_neT y10 (a := 10) (by decide)
      have t11 := lv_neT y11 (a := 11) (by decide)
      have t12 := lv_neT y12 (a := 12) (by decide)
      rw [Int32.lt_iff_toInt_lt, Int32.lt_iff_toInt_lt]
      have e0 : (0 : Int32).toInt = 0 := by decide
      have e12 : (12 : Int32).toInt = 12 := by decide
      omega
    rw [if_neg y0, if_neg y1, if_neg y2, if_neg y3, if_neg y4, if_neg y5, if_neg y6, if_neg y7, if_neg y8, if_neg y9, if_neg y10, if_neg y11, if_neg y12]
    have hc : (if r 23 0 i = 0 then (-1 : Int32) else -1) = -1 := by split <;> rfl
    rw [hc]
    rcases hout with z | z
    · rw [if_pos z]
    · by_cases z2 : y < 0
      · rw [if_pos z2]
      · rw [if_neg z2, if_pos z]
  · rw [if_neg hk, if_neg hk, if_neg hk]
    exact ⟨rfl, Rl_0 h⟩
/-- look -/
theorem lk_eq {N L t : Nat} {c r : sh_S} (hN : N ≤ 5) (h : Rl N L t c r) : ∀ (n k : Nat) (a : Int32), k ≤ N → N + 1 ≤ k + n → lv_T_look N L n r 5 a (nI k) = lv_P_greatestIndex N L n c a (nI k) := by
  intro n
  induction n with
  | zero => intro k a h1 h2; omega
  | succ n ih =>
    intro k a h1 h2
    unfold lv_T_look lv_P_greatestIndex
    by_cases hb : nI N ≤ nI k
    · rw [if_pos hb, if_pos hb]
      simp
    · rw [if_neg hb, if_neg hb]
      have hk : k < N := Nat.lt_of_not_le fun z => hb (nI_le z (by omega))
      rw [nI_clamp (show k < 2 ^ 31 by omega), nI_1]
      obtain ⟨-, -, ⟨x, b, e, k1, k2, k3, k4, k5, k6, -⟩, -⟩ := h.1 k hk
      rw [k5, k6]
      by_cases z : nI x ≤ a
      · rw [if_pos z, if_neg (Int32.not_lt.mpr z)]
        exact ih (k + 1) a hk (by omega)
      · rw [if_neg z, if_pos (Int32.not_le.mp z)]
        exact ih (k + 1) _ hk (by omega)
theorem lk_out {N L : Nat} {r : sh_S} (hN : N ≤ 5) (x : Int32) : ∀ (n k : Nat) (a : Int32), k ≤ N → N + 1 ≤ k + n → ¬ x = 5 → lv_T_look N L n r x a (nI k) = if x = 0 then nI N else if x = 1 then nI L else if x = 2 then r 20 0 21 else if x = 3 then r 20 0 22 else if x = 4 then r 20 0 23 else -1 := by
  intro n
  induction n with
  | zero => intro k a h1 h2; omega
  | succ n ih =>
    intro k a h1 h2 h5
    unfold lv_T_look
    by_cases hb : nI N ≤ nI k
    · rw [if_pos hb, if_neg h5]
    · rw [if_neg hb]
      have hk : k < N := Nat.lt_of_not_le fun z => hb (nI_le z (by omega))
      rw [nI_1]
      split
      · exact ih (k + 1) _ hk (by omega) h5
      · exact ih (k + 1) _ hk (by omega) h5
theorem q_look {N L t : Nat} {c r : sh_S} (hN : N ≤ 5) (x : Int32) (h : Rl N L t c r) : v_P_look N L c x = v_T_look N L r x ∧ Rl N L (t + 1) c (s_T_look N L r x) := by
  refine ⟨?_, Rl_0 h⟩
  obtain ⟨q, g1, g2, g3, g4, g5, -⟩ := h.2
  unfold v_P_look v_T_look v_P_greatestIndex
  dsimp only
  by_cases h5 : x = 5
  · subst h5
    have k := lk_eq hN (Rl_thr (v := 0) h) 6 0 0 (Nat.zero_le _) (by omega)
    show _ = lv_T_look N L 6 (sU r 20 0 0 0) 5 0 (nI 0)
    rw [k, if_neg (by decide), if_neg (by decide), if_neg (by decide), if_neg (by decide), if_neg (by decide), if_pos rfl]
    rfl
  · show _ = lv_T_look N L 6 (sU r 20 0 0 0) x 0 (nI 0)
    rw [lk_out hN x 6 0 0 (Nat.zero_le _) (by omega) h5, if_neg h5]
    have e1 : sU r 20 0 0 0 20 0 21 = c 5 0 1 := by rw [g2]; exact g3
    have e2 : sU r 20 0 0 0 20 0 22 = c 5 0 2 := g4.symm
    have e3 : sU r 20 0 0 0 20 0 23 = c 5 0 3 := g5.symm
    rw [e1, e2, e3]
