/-! campaign, tick -/
/-- what a campaign with the ballot b comes to -/
def cfT (N L : Nat) (r : sh_S) (i : Nat) (b : Int32) : sh_S := sU (sU (sU (sU (sU (sU (s_T_follow N L r i) 27 0 i b) 31 0 i 1) 32 0 i b) 33 0 i (1 <<< ((nI i) &&& 31))) 35 0 i ((s_T_follow N L r i) 29 0 i)) 36 0 i ((s_T_follow N L r i) 28 0 i)
theorem cf_loop {N L k i : Nat} {r : sh_S} (hN : 3 ≤ N ∧ N ≤ 5) (hk : k ≤ 100000) : ∀ (n b : Nat), b ≤ 200000 → 1 ≤ n → k + 2 ≤ b + n → ∃ B : Nat, ls_T_campaign N L n r i (nI k) (nI b) = s_T_sendAll N L (cfT N L r i (nI B)) 1 (nI i) (nI B) ((cfT N L r i (nI B)) 24 0 i + 1) 0 ∧ k < B ∧ (∃ m, B = b + N * m) ∧ (B = b ∨ B ≤ k + N) := by
  intro n
  induction n with
  | zero => intro b h0 h1; omega
  | succ n ih =>
    intro b h0 h1 h2
    unfold ls_T_campaign
    by_cases hz : nI k < nI b
    · rw [if_pos hz]
      exact ⟨b, rfl, (nI_ltI (by omega) (by omega)).mp hz, ⟨0, by omega⟩, Or.inl rfl⟩
    · rw [if_neg hz, nI_add]
      have hb : b ≤ k := Nat.le_of_not_lt fun z => hz (nI_lt z (by omega))
      obtain ⟨B, e1, e2, ⟨m, e3⟩, e4⟩ := ih (b + N) (by omega) (by omega) (by omega)
      exact ⟨B, e1, e2, ⟨m + 1, by rw [e3, Nat.mul_add]; omega⟩, Or.inr (by omega)⟩
theorem next_eq {N k i B m b : Nat} (hN : 3 ≤ N ∧ N ≤ 5) (hi : i < N) (h1 : k < B) (h2 : B = b + N * m) (h3 : b = if i = 0 then N else i) (h4 : B = b ∨ B ≤ k + N) : B = if k - k % N + i ≤ k then k - k % N + i + N else k - k % N + i := by
  obtain ⟨n1, n2⟩ := hN
  have hN2 : N = 3 ∨ N = 4 ∨ N = 5 := by omega
  rcases hN2 with rfl | rfl | rfl
  · split at h3 <;> split <;> omega
  · split at h3 <;> split <;> omega
  · split at h3 <;> split <;> omega
theorem Rl_camp {N L t : Nat} {c r : sh_S} {i : Nat} (hN : 3 ≤ N ∧ N ≤ 5) (ht : t ≤ 512) (hi : i < N) (h : Rl N L t c r) (hl : r 31 0 i = 0) : Rl N L (t + 1) (s_P_campaign N L c i) (s_T_campaign N L r i) := by
  have hp := h.1 i hi
  obtain ⟨⟨⟨a1, a2, a3, a4, a5, a6, a7, a8, a9⟩, a10⟩, ⟨⟨v1, ⟨p, hp2, ep⟩, ⟨s, hs, es⟩⟩, ⟨-, v5, v6, v7, v8, v9⟩, v10, v11⟩, hB, hQ⟩ := hp
  obtain ⟨k, hk, ek1, ek2⟩ : ∃ k : Nat, k ≤ 5 * t + 5 ∧ (if c 0 i 4 < c 0 i 11 then c 0 i 11 else c 0 i 4) = nI k ∧ (if r 27 0 i ≤ r 37 0 i then r 37 0 i else r 27 0 i) = nI k := by
    rw [a2, a9, ep, es]
    by_cases z : p < s
    · exact ⟨s, hs, by rw [if_pos (nI_lt z (by omega))], by rw [if_pos (nI_le (by omega) (by omega))]⟩
    · by_cases z2 : s = p
      · subst z2
        exact ⟨s, hs, by rw [if_neg (nI_nlt (Nat.le_refl _) (by omega))], by rw [if_pos (nI_le (Nat.le_refl _) (by omega))]⟩
      · exact ⟨p, hp2, by rw [if_neg (nI_nlt (by omega) (by omega))], by rw [if_neg (nI_ge (by omega) (by omega))]⟩
  have hT : s_T_campaign N L r i = ls_T_campaign N L 10007 r i (nI k) (nI (if i = 0 then N else i)) := by
    unfold s_T_campaign
    rw [← ek2]
    by_cases z0 : i = 0
    · subst z0
      rw [if_pos (show nI 0 = 0 from rfl), if_pos (show nI 0 = 0 from rfl), if_pos rfl]
      split <;> rfl
    · have : ¬ nI i = 0 := fun z => z0 ((nI_eq (b := 0) (by omega) (by decide)).mp z)
      rw [if_neg this, if_neg this, if_neg z0]
      split <;> rfl
  obtain ⟨B, e1, e2, ⟨m, e3⟩, e4⟩ := cf_loop (L := L) (i := i) (r := r) hN (by omega : k ≤ 100000) 10007 (if i = 0 then N else i) (by split <;> omega) (by decide) (by omega)
  have hBk : B ≤ k + N := by
    rcases e4 with e4 | e4
    · rw [e4]
      split <;> omega
    · exact e4
  have hnx : v_P_nextBallot N L c i = nI B := by
    have hB2 := next_eq hN hi e2 e3 rfl e4
    have hm : k % N ≤ k := Nat.mod_le _ _
    unfold v_P_nextBallot
    rw [ek1, pk_rem (by omega) (by omega) (by omega), pk_sub hm, nI_add, nI_add, hB2]
    by_cases z : k - k % N + i ≤ k
    · rw [if_pos z, if_pos (nI_le z (by omega))]
    · rw [if_neg z, if_neg (nI_ge (by omega) (by omega))]
  rw [hT, e1]
  unfold s_P_campaign
  rw [hnx]
  dsimp only
  have h2 := Rl_mono h
  obtain ⟨w1, w2, w3⟩ := v6 hl
  have key : Rl N L (t + 1) (s_R_becomeCandidate N L c i (nI B)) (cfT N L r i (nI B)) := by
    refine Rl_A (i := i) h2 ?_ ?_ ?_ ?_
    · exact oC_U (oC_U (oC_U (oC_U (oC_U (oC_U oC_0)))))
    · exact oR_U (okd rfl) (oR_U (okd rfl) (oR_U (okd rfl) (oR_U (okd rfl) (oR_U (okd rfl) (oR_U (okd rfl) oR_fo)))))
    · unfold s_R_becomeCandidate cfT s_T_follow pA
      simp [sU_rd, a1, a2, a3, a4, a5, a6, a7, a8, a9, w3]
    · unfold cfT s_T_follow pV
      simp only [sU_rd]
      simp
      refine ⟨⟨v1, ⟨B, by omega, rfl⟩, ⟨s, by omega, es⟩⟩, ⟨⟨B, by omega, rfl, by omega⟩, ⟨2 ^ i, two_lt hi, shl_p i (by omega)⟩⟩, v10⟩
  have := Rl_prep hN.2 hi key
  rw [show (cfT N L r i (nI B)) 32 0 i = nI B by unfold cfT; simp [sU_rd]] at this
  exact this
theorem q_tick {N L t : Nat} {c r : sh_S} (hN : 3 ≤ N ∧ N ≤ 5) (ht : t ≤ 511) (x : Int32) (h : Rl N L t c r) : v_P_tick N L c x = u_T_tick N L r x ∧ Rl N L (t + 1) (s_P_tick N L c x) (z_T_tick N L r x) := by
  unfold v_P_tick s_P_tick u_T_tick z_T_tick
  by_cases hk : kF N x
  · rw [if_pos hk, if_pos hk, if_pos hk, if_pos hk]
    have hi := (kF_lt hk hN.2).1
    generalize x.toNatClampNeg = i at hi ⊢
    have h1 := Rl_thr (v := 0) h
    have fl : ∀ {t' : Nat} {c' r' : sh_S}, Rl N L t' c' r' → c' 5 0 1 = r' 20 0 21 := fun hh => by
      obtain ⟨q, -, g2, g3, -⟩ := hh.2
      rw [g2, g3]
    obtain ⟨⟨⟨a1, a2, a3, a4, a5, a6, a7, a8, a9⟩, -⟩, ⟨-, ⟨-, v5, -⟩, -⟩, -, q, g1, g2, g3, -⟩ := h.1 i hi
    unfold v_T_tick s_T_tick v_T_isUp
    dsimp only
    rw [a1, a5, g2]
    have s23 : sU r 20 0 0 0 23 0 i = r 23 0 i := rfl
    have s31 : sU r 20 0 0 0 31 0 i = r 31 0 i := rfl
    have s39 : sU r 20 0 0 0 39 0 i = nI q := g3
    rw [s23, s31, s39]
    by_cases u : r 23 0 i = 0
    · simp only [if_pos u, ↓reduceIte]
      first | exact ⟨trivial, Rl_0 h⟩ | exact Rl_0 h
    · simp only [if_neg u, if_neg (show ¬ (1 : Int32) = 0 by decide)]
      by_cases u2 : r 31 0 i = 2
      · simp only [if_pos u2]
        have k := Rl_tickL hN.2 (by omega : t ≤ 600) hi h1 u2
        refine ⟨?_, ?_⟩
        · rw [fl k]
          split <;> rfl
        · exact Rl_mono k
      · simp only [if_neg u2]
        by_cases u1 : r 31 0 i = 1
        · simp only [if_pos u1]
          have k := Rl_prep hN.2 hi h1
          exact ⟨fl k, Rl_mono k⟩
        · simp only [if_neg u1]
          have u0 : r 31 0 i = 0 := by
            rcases v5 with z | z | z
            · exact z
            · exact absurd z u1
            · exact absurd z u2
          by_cases uq : nI q ≤ 0
          · simp only [if_pos uq]
            have hm : (nI i + 1 - (nI i + 1) / nI N * nI N : Int32) = nI ((i + 1) % N) := by
              rw [nI_1, pk_rem (by omega) (by omega) (by omega)]
            rw [hm]
            have hlt : (i + 1) % N < N := Nat.mod_lt _ (by omega)
            have k := Rl_ask hi hlt h1
            by_cases un : nI N ≤ nI i + 1
            · have e : (i + 1) % N = 0 := by
                rw [nI_1] at un
                have : N ≤ i + 1 := (nI_leI (by omega) (by omega)).mp un
                have : N = i + 1 := by omega
                rw [← this, Nat.mod_self]
              rw [e] at k ⊢
              simp only [if_pos un]
              exact ⟨fl k, Rl_mono k⟩
            · rw [nI_1] at un
              have e : (i + 1) % N = i + 1 := by
                exact Nat.mod_eq_of_lt (Nat.lt_of_not_le fun z => un (nI_le z (by omega)))
              rw [e] at k ⊢
              simp only [nI_1, if_neg un]
              exact ⟨fl k, Rl_mono k⟩
          · simp only [if_neg uq]
            have k := Rl_camp hN (by omega) hi h1 u0
            exact ⟨fl k, k⟩
  · rw [if_neg hk, if_neg hk, if_neg hk, if_neg hk]
    exact ⟨rfl, Rl_0 h⟩
