/-! request, turn -/
theorem Rl_Q {N L t : Nat} {c c' r r' : sh_S} {i : Nat} (h : Rl N L t c r) (hc : ∀ k i' j : Nat, (¬ k = 3 ∧ ¬ k = 4) ∨ ¬ i' = i → c' k i' j = c k i' j) (hr : ∀ k j : Nat, ¬ k = 38 → (¬ k = 39 ∨ ¬ j = i) → r' k 0 j = r k 0 j) (h38 : ∀ i' k : Nat, ¬ i' = i → k < 8 → r' 38 0 (8 * i' + k) = r 38 0 (8 * i' + k)) (hQ : pQ c' r' i) : Rl N L t c' r' := by
  refine ⟨fun i' hi' => ?_, pF_eq (fun j => hc 5 0 j (Or.inl (by decide))) (fun j => hc 6 0 j (Or.inl (by decide))) (fun j _ => hr 20 j (by decide) (Or.inl (by decide))) (fun j => hr 40 j (by decide) (Or.inl (by decide))) h.2⟩
  obtain ⟨g1, g2, g3, g4⟩ := h.1 i' hi'
  have hk : ∀ k, okf k → r' k 0 i' = r k 0 i' := fun k hk => hr k i' (by unfold okf at hk; omega) (Or.inl (by unfold okf at hk; omega))
  refine ⟨pA_eq (fun j => hc 0 i' j (Or.inl (by decide))) hk g1, pV_eq hk g2, pB_eq (fun j => hc 1 i' j (Or.inl (by decide))) (fun j => hc 2 i' j (Or.inl (by decide))) ⟨hr 24 i' (by decide) (Or.inl (by decide)), hr 25 i' (by decide) (Or.inl (by decide)), hr 26 i' (by decide) (Or.inl (by decide))⟩ (fun k _ => hr 30 _ (by decide) (Or.inl (by decide))) g3, ?_⟩
  by_cases e : i' = i
  · subst e
    exact hQ
  · exact pQ_eq (hc 3 i' 1 (Or.inr e)) (fun j => hc 4 i' j (Or.inr e)) (hr 39 i' (by decide) (Or.inr e)) (fun k hk => h38 i' k e hk) g4
theorem q_request {N L t : Nat} {c r : sh_S} (hN : N ≤ 5) (x y : Int32) (h : Rl N L t c r) : v_P_request N L c x y = u_T_request N L r x y ∧ Rl N L (t + 1) (s_P_request N L c x y) (z_T_request N L r x y) := by
  unfold v_P_request s_P_request u_T_request z_T_request
  by_cases hk : kF N x
  · rw [if_pos hk, if_pos hk, if_pos hk, if_pos hk]
    have hi := (kF_lt hk hN).1
    generalize x.toNatClampNeg = i at hi ⊢
    obtain ⟨⟨⟨a1, -⟩, -⟩, -, -, q, g1, g2, g3, g4⟩ := h.1 i hi
    unfold v_T_request s_T_request v_T_isUp
    dsimp only
    have s23 : sU r 20 0 0 0 23 0 i = r 23 0 i := rfl
    have s39 : sU r 20 0 0 0 39 0 i = nI q := g3
    rw [s23, s39, a1]
    by_cases h0 : r 23 0 i = 0
    · rw [if_pos h0, if_pos h0, if_pos h0, if_pos rfl, if_pos rfl]
      exact ⟨rfl, Rl_0 h⟩
    · rw [if_neg h0, if_neg h0, if_neg h0, if_neg (show ¬ (1 : Int32) = 0 by decide), if_neg (show ¬ (1 : Int32) = 0 by decide)]
      by_cases hy : 1 ≤ y
      · rw [if_pos hy, if_pos hy, if_pos hy, if_pos hy]
        unfold v_L_add s_L_add
        dsimp only
        rw [g2]
        by_cases h8 : q = 8
        · subst h8
          rw [if_neg (show ¬ nI 8 < 8 by decide), if_neg (show ¬ nI 8 < 8 by decide), if_pos (show nI 8 = 8 from rfl), if_pos (show nI 8 = 8 from rfl)]
          exact ⟨rfl, Rl_0 h⟩
        · have hq : q < 8 := by omega
          rw [if_pos (show nI q < 8 from nI_lt (b := 8) hq (by decide)), if_pos (show nI q < 8 from nI_lt (b := 8) hq (by decide)), if_neg (show ¬ nI q = 8 from fun z => h8 ((nI_eq (b := 8) (by omega) (by decide)).mp z)), if_neg (show ¬ nI q = 8 from fun z => h8 ((nI_eq (b := 8) (by omega) (by decide)).mp z))]
          refine ⟨rfl, Rl_mono ?_⟩
          have e1 : (nI q).toNatClampNeg = q := nI_clamp (by omega)
          have e2 : (8 * nI i + nI q : Int32).toNatClampNeg = 8 * i + q := by
            rw [show (8 : Int32) = nI 8 from rfl, pk_mul, nI_add, nI_clamp (by omega)]
          rw [e1, e2]
          refine Rl_Q (i := i) (Rl_thr (v := 0) h) ?_ ?_ ?_ ⟨q + 1, by omega, ?_, ?_, ?_⟩
          · intro k i' j hk
            rw [sU_rd, if_neg (by omega), sU_rd, if_neg (by omega)]
          · intro k j h1 h2
            rw [sU_rd, if_neg (by omega), sU_rd, if_neg (by omega)]
          · intro i' k h1 h2
            rw [sU_rd, if_neg (by omega), sU_rd, if_neg (by omega)]
          · rw [sU_rd, if_pos ⟨rfl, rfl, rfl⟩, sU_rd, if_neg (by omega), g2, nI_1]
          · rw [sU_rd, if_pos ⟨rfl, rfl, rfl⟩, sU_rd, if_neg (by omega)]
            show r 39 0 i + 1 = _
            rw [g3, nI_1]
          · intro k hk
            have hpos : 0 < y := by
              rw [Int32.lt_iff_toInt_lt]
              rw [Int32.le_iff_toInt_le] at hy
              have e0 : (0 : Int32).toInt = 0 := by decide
              have e3 : (1 : Int32).toInt = 1 := by decide
              omega
            simp only [sU_rd]
            rcases Nat.lt_or_ge k q with z | z
            · have hne : ¬ k = q := by omega
              simp [hne]
              exact g4 k z
            · have : k = q := by omega
              subst this
              simp [hpos]
      · rw [if_neg hy, if_neg hy, if_neg hy, if_neg hy]
        by_cases h8 : nI q = 8
        · rw [if_pos h8, if_pos h8]
          exact ⟨rfl, Rl_0 h⟩
        · rw [if_neg h8, if_neg h8]
          exact ⟨rfl, Rl_0 h⟩
  · rw [if_neg hk, if_neg hk, if_neg hk, if_neg hk]
    exact ⟨rfl, Rl_0 h⟩
/-- turn -/
theorem q_turn {N L t : Nat} {c r : sh_S} (hN : N ≤ 5) (x y : Int32) (hy : y = 0 ∨ y = 1) (h : Rl N L t c r) : v_P_turn N L c x y = u_T_turn N L r x y ∧ Rl N L (t + 1) (s_P_turn N L c x y) (z_T_turn N L r x y) := by
  unfold v_P_turn s_P_turn u_T_turn z_T_turn
  by_cases hk : kF N x
  · rw [if_pos hk, if_pos hk, if_pos hk, if_pos hk]
    have hi := (kF_lt hk hN).1
    generalize x.toNatClampNeg = i at hi ⊢
    have hp := h.1 i hi
    obtain ⟨⟨⟨a1, a2, a3, a4, a5, a6, a7, a8, a9⟩, a10⟩, ⟨⟨v1, v2, v3⟩, hv4, v10, v11⟩, hB, q, g1, g2, g3, g4⟩ := hp
    unfold v_T_turn s_T_turn
    dsimp only
    have s23 : sU r 20 0 0 0 23 0 i = r 23 0 i := rfl
    rw [s23, a1]
    by_cases h0 : r 23 0 i = y
    · simp only [if_pos h0]
      exact ⟨trivial, Rl_0 h⟩
    · simp only [if_neg h0]
      refine ⟨trivial, Rl_mono ?_⟩
      -- up, then follow
      have hA : Rl N L t (sU c 0 i 3 y) (sU (sU r 20 0 0 0) 23 0 i y) := by
        refine Rl_A (i := i) (Rl_thr (v := 0) h) (oC_U oC_0) (oR_U (okd rfl) oR_0) ?_ ?_
        · refine ⟨⟨?_, a2, a3, a4, a5, a6, a7, a8, a9⟩, a10⟩
          rw [sU_rd, if_pos ⟨rfl, rfl, rfl⟩, sU_rd, if_pos ⟨rfl, rfl, rfl⟩]
        · refine ⟨⟨?_, v2, v3⟩, hv4, v10, v11⟩
          rw [sU_rd, if_pos ⟨rfl, rfl, rfl⟩]
          exact hy
      have hF := Rl_follow hi hA
      -- seen and the waiting numbers
      unfold s_R_forget
      dsimp only
      have hS : Rl N L t (sU (s_R_becomeFollower N L (sU c 0 i 3 y) i) 0 i 11 ((s_R_becomeFollower N L (sU c 0 i 3 y) i) 0 i 4)) (sU (s_T_follow N L (sU (sU r 20 0 0 0) 23 0 i y) i) 37 0 i ((s_T_follow N L (sU (sU r 20 0 0 0) 23 0 i y) i) 27 0 i)) := by
        obtain ⟨⟨⟨b1, b2, b3, b4, b5, b6, b7, b8, b9⟩, b10⟩, ⟨⟨w1, w2, w3⟩, hw4, w10, w11⟩, -, -⟩ := hF.1 i hi
        refine Rl_A (i := i) hF (oC_U oC_0) (oR_U (okd rfl) oR_0) ?_ ?_
        · refine ⟨⟨b1, b2, b3, b4, b5, b6, b7, b8, ?_⟩, b10⟩
          rw [sU_rd, if_pos ⟨rfl, rfl, rfl⟩, sU_rd, if_pos ⟨rfl, rfl, rfl⟩, b2]
        · refine ⟨⟨w1, w2, ?_⟩, hw4, w10, w11⟩
          rw [sU_rd, if_pos ⟨rfl, rfl, rfl⟩]
          exact w2
      have e : sU (sU (s_T_follow N L (sU (sU r 20 0 0 0) 23 0 i y) i) 39 0 i 0) 37 0 i ((sU (s_T_follow N L (sU (sU r 20 0 0 0) 23 0 i y) i) 39 0 i 0) 27 0 i) = sU (sU (s_T_follow N L (sU (sU r 20 0 0 0) 23 0 i y) i) 37 0 i ((s_T_follow N L (sU (sU r 20 0 0 0) 23 0 i y) i) 27 0 i)) 39 0 i 0 := by
        funext k' i' j'
        have e1 : (sU (s_T_follow N L (sU (sU r 20 0 0 0) 23 0 i y) i) 39 0 i 0) 27 0 i = (s_T_follow N L (sU (sU r 20 0 0 0) 23 0 i y) i) 27 0 i := rfl
        rw [e1, sU_rd, sU_rd, sU_rd, sU_rd]
        by_cases z : k' = 37
        · subst z
          simp
        · simp [z]
      rw [e]
      refine Rl_Q (i := i) hS ?_ ?_ ?_ ⟨0, by omega, ?_, ?_, fun k hk => by omega⟩
      · intro k i' j hk
        rw [sU_rd, if_neg (by omega)]
      · intro k j h1 h2
        rw [sU_rd, if_neg (by omega)]
      · intro i' k h1 h2
        rw [sU_rd, if_neg (by omega)]
      · rw [sU_rd, if_pos ⟨rfl, rfl, rfl⟩]
        rfl
      · rw [sU_rd, if_pos ⟨rfl, rfl, rfl⟩]
        rfl
  · rw [if_neg hk, if_neg hk, if_neg hk, if_neg hk]
    exact ⟨rfl, Rl_0 h⟩
