/-! the start; the calls that only look -/
theorem Rl_init {N L : Nat} (hL : 1 ≤ L) : Rl N L 0 c0 (r0 N) := by
  refine ⟨fun i hi => ⟨⟨⟨?_, rfl, rfl, rfl, rfl, rfl, rfl, rfl, rfl⟩, fun z => absurd z (show ¬ (0 : Int32) = 1 by decide)⟩, ⟨⟨Or.inr ?_, ⟨0, by omega, rfl⟩, ⟨0, by omega, rfl⟩⟩, ⟨⟨0, by omega, rfl, fun z => absurd rfl z⟩, Or.inl rfl, fun _ => ⟨rfl, rfl, rfl⟩, fun _ _ => rfl, ⟨0, Nat.pos_of_ne_zero (by simp), rfl⟩, show ¬ (0 : Int32) < 0 by decide⟩, Or.inl ⟨rfl, rfl⟩, fun z => absurd z (show ¬ (0 : Int32) = 1 by decide)⟩, ⟨0, 0, 0, Nat.le_refl _, Nat.le_refl _, Nat.le_refl _, Or.inl ⟨by omega, rfl⟩, rfl, rfl, rfl, rfl, rfl, fun s h1 h2 => by omega⟩, ⟨0, by omega, rfl, rfl, fun k hk => by omega⟩⟩, ⟨0, by omega, rfl, rfl, rfl, rfl, fun k hk => by omega, fun j hj => by omega⟩⟩
  · show (1 : Int32) = pu N i
    unfold pu
    rw [if_pos hi]
  · show pu N i = 1
    unfold pu
    rw [if_pos hi]
theorem Rl_0 {N L t : Nat} {c r : sh_S} (h : Rl N L t c r) : Rl N L (t + 1) c (sU r 20 0 0 0) := Rl_mono (Rl_thr h)
/-- message -/
theorem q_message {N L t : Nat} {c r : sh_S} (x y : Int32) (h : Rl N L t c r) : v_P_message N L c x y = v_T_message N L r x y ∧ Rl N L (t + 1) c (s_T_message N L r x y) := by
  refine ⟨?_, ?_⟩
  · obtain ⟨q, g1, g2, g3, g4, g5, g6, -⟩ := h.2
    unfold v_P_message v_F_cell v_F_has v_T_message
    dsimp only
    by_cases h1 : x < 0
    · simp [h1]
    · rw [if_neg h1, if_neg h1]
      have hr1 : sU r 20 0 0 0 20 0 21 = nI q := g3
      rw [hr1, g2]
      by_cases h2 : nI q ≤ x
      · simp [h2]
      · rw [if_neg h2, if_neg h2]
        obtain ⟨j, hj, rfl, -⟩ := pk_mu h1 h2 (by omega)
        rw [if_neg (show ¬ (1 : Int32) = 0 by decide)]
        by_cases h3 : y < 0
        · simp [h3]
        · rw [if_neg h3, if_neg h3]
          by_cases h4 : y ≤ 6
          · obtain ⟨w, hw, rfl⟩ := nI_of2 (n := 6) (M := 6) rfl h3 h4
            rw [if_pos h4, if_neg (show ¬ (7 : Int32) ≤ nI w from nI_ge (b := 7) (by omega) (by decide)), nI_c7 (by omega) (by omega), nI_d7 (by omega) (by omega)]
            exact g6 _ (by omega)
          · rw [if_neg h4, if_pos]
            rw [Int32.le_iff_toInt_le] at h4 ⊢
            have e6 : (6 : Int32).toInt = 6 := by decide
            have e7 : (7 : Int32).toInt = 7 := by decide
            omega
  · have e : s_T_message N L r x y = sU r 20 0 0 0 := by
      unfold s_T_message
      dsimp only
      split
      · rfl
      · split
        · rfl
        · split
          · rfl
          · split <;> rfl
    rw [e]
    exact Rl_0 h
/-- waiting -/
theorem q_waiting {N L t : Nat} {c r : sh_S} (hN : N ≤ 5) (x y : Int32) (h : Rl N L t c r) : v_P_waiting N L c x y = u_T_waiting N L r x y ∧ Rl N L (t + 1) c (z_T_waiting N L r x y) := by
  unfold v_P_waiting u_T_waiting z_T_waiting
  by_cases hk : kF N x
  · rw [if_pos hk, if_pos hk, if_pos hk]
    have hi := (kF_lt hk hN).1
    generalize x.toNatClampNeg = i at hi ⊢
    obtain ⟨⟨⟨a1, -⟩, -⟩, -, -, q, g1, g2, g3, g4⟩ := h.1 i hi
    refine ⟨?_, ?_⟩
    · unfold v_T_waiting v_T_isUp v_L_at
      dsimp only
      have hr1 : sU r 20 0 0 0 23 0 i = r 23 0 i := rfl
      have hr2 : sU r 20 0 0 0 39 0 i = nI q := g3
      rw [hr1, hr2, a1, g2]
      by_cases h0 : r 23 0 i = 0
      · simp [h0]
      · rw [if_neg h0, if_neg h0, if_neg (show ¬ (1 : Int32) = 0 by decide)]
        by_cases h1 : y < 0
        · simp [h1]
        · rw [if_neg h1, if_neg h1]
          by_cases h2 : nI q ≤ y
          · simp [h2]
          · rw [if_neg h2, if_neg h2]
            obtain ⟨j, hj, rfl, -⟩ := pk_mu h1 h2 (by omega)
            have e : (8 * nI i + nI j : Int32).toNatClampNeg = 8 * i + j := by
              rw [show (8 : Int32) = nI 8 from rfl, pk_mul, nI_add, nI_clamp (by omega)]
            rw [e, nI_clamp (by omega)]
            exact (g4 j hj).1
    · have e : s_T_waiting N L r i y = sU r 20 0 0 0 := by
        unfold s_T_waiting
        dsimp only
        split
        · rfl
        · split
          · rfl
          · split <;> rfl
      rw [e]
      exact Rl_0 h
  · rw [if_neg hk, if_neg hk, if_neg hk]
    exact ⟨rfl, Rl_0 h⟩
theorem ahead_eq {N L t : Nat} {c r : sh_S} {i : Nat} (hL : L ≤ 32) (ht : t ≤ 600) (h : pB L t c r i) : v_G_ahead N L c i = r 26 0 i := by
  obtain ⟨a, b, e, g1, g2, g3, g4, g5, g6, g7, g8, g9, -⟩ := h
  unfold v_G_ahead
  rw [g5, g8, g9]
  rcases Nat.lt_or_ge a L with z | z
  · have hn : nI a - nI L < 0 := pk_sneg (by omega) z
    rw [if_neg (fun q => absurd (Int32.lt_trans q hn) (nI_pos (by omega)))]
    rcases g4 with ⟨-, rfl⟩ | ⟨-, w, -⟩
    · rfl
    · omega
  · rw [pk_sub z]
    rcases g4 with ⟨w, rfl⟩ | ⟨w, -, rfl⟩
    · rw [if_neg (nI_nlt (by omega) (by omega))]
    · by_cases h2 : e < a - L
      · rw [if_pos (nI_lt h2 (by omega))]
      · rw [if_neg (nI_nlt (by omega) (by omega))]
        congr 1
        omega
theorem num_eq {N L t : Nat} {c r : sh_S} {i : Nat} (hi : i < 5) (hL : L ≤ 32) (ht : t ≤ 600) (h : pB L t c r i) (y : Int32) : v_G_numberOf N L c i y = if y ≤ r 26 0 i then 0 else if r 24 0 i < y then 0 else r 30 0 ((40 * nI i + (y - y / 40 * 40) : Int32).toNatClampNeg) := by
  unfold v_G_numberOf v_G_keeps
  rw [ahead_eq (N := N) hL ht h]
  obtain ⟨a, b, e, g1, g2, g3, g4, g5, g6, g7, g8, g9, g10⟩ := h
  by_cases h1 : y ≤ r 26 0 i
  · simp [h1]
  · rw [if_neg h1, if_neg h1, g5, g6]
    by_cases h2 : nI a < y
    · simp [h2]
    · rw [if_neg h2, if_neg h2, if_neg (show ¬ (1 : Int32) = 0 by decide)]
      rw [g9] at h1
      have h0 : ¬ y < 0 := kt_lnn' (nI_pos (n := b) (by omega)) h1
      obtain ⟨s, hs, rfl⟩ := nI_of h0
      have hs1 : b < s := Nat.lt_of_not_le fun z => h1 (nI_le z (by omega))
      have hs2 : s ≤ a := Nat.le_of_not_lt fun z => h2 (nI_lt z hs)
      have e1 : (nI s &&& 31 : Int32).toNatClampNeg = s % 32 := by
        rw [pk_andN (n := s) (m := 31) (by omega) 5 (by decide)]
        have : s % 2 ^ 5 = s % 32 := rfl
        rw [this, nI_clamp (by omega)]
      have e2 : (40 * nI i + (nI s - nI s / 40 * 40) : Int32).toNatClampNeg = 40 * i + s % 40 := by
        rw [show (40 : Int32) = nI 40 from rfl, pk_rem hs (by decide) (by decide), pk_mul, nI_add, nI_clamp (by omega)]
      rw [e1, e2]
      exact g10 s hs1 hs2
/-- slot -/
theorem q_slot {N L t : Nat} {c r : sh_S} (hN : N ≤ 5) (hL : L ≤ 32) (ht : t ≤ 600) (x y : Int32) (h : Rl N L t c r) : v_P_slot N L c x y = u_T_slot N L r x y ∧ Rl N L (t + 1) c (z_T_slot N L r x y) := by
  unfold v_P_slot u_T_slot z_T_slot
  by_cases hk : kF N x
  · rw [if_pos hk, if_pos hk, if_pos hk]
    have hi := (kF_lt hk hN).1
    generalize x.toNatClampNeg = i at hi ⊢
    refine ⟨num_eq (by omega) hL ht (h.1 i hi).2.2.1 y, ?_⟩
    have e : s_T_slot N L r i y = sU r 20 0 0 0 := by
      unfold s_T_slot
      dsimp only
      split
      · rfl
      · split <;> rfl
    rw [e]
    exact Rl_0 h
  · rw [if_neg hk, if_neg hk, if_neg hk]
    exact ⟨rfl, Rl_0 h⟩
