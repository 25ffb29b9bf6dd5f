/-! what a replica sends -/
theorem ix_eq {L t : Nat} {c r : sh_S} {i : Nat} (h : pB L t c r i) : ∃ a : Nat, a ≤ t ∧ c 1 i 2 = nI a ∧ r 24 0 i = nI a ∧ c 1 i 3 = r 25 0 i := by
  obtain ⟨a, b, e, g1, g2, g3, g4, g5, g6, g7, -⟩ := h
  exact ⟨a, g1, g5, g6, g7⟩
theorem pM_p {N t k s p i j : Nat} {m5 m6 : Int32} (hi : i < N) (hj : j < N) (hp : p ≤ 5 * t + 5) (hs : s ≤ t + 1) (hk : 1 ≤ k) (hk8 : k ≤ 8) (h8 : nI k = 8 → s ≤ t) (h3 : nI k = 3 → 0 < m5 ∧ 0 < nI p) (h2 : nI k = 2 → pr m5 m6) : pM N t (nI k) (nI i) (nI j) (nI p) (nI s) m5 m6 := ⟨⟨i, hi, rfl⟩, ⟨j, hj, rfl⟩, ⟨p, hp, rfl⟩, ⟨s, hs, rfl, h8⟩, ⟨k, hk, hk8, rfl⟩, h3, h2⟩
theorem Rl_ask {N L t : Nat} {c r : sh_S} {i j : Nat} (hi : i < N) (hj : j < N) (h : Rl N L t c r) : Rl N L t (s_P_ask N L c i (nI j)) (s_T_send N L r 6 (nI i) (nI j) 0 (r 24 0 i + 1) 0 0) := by
  obtain ⟨a, k1, k2, k3, -⟩ := ix_eq (h.1 i hi).2.2.1
  unfold s_P_ask
  dsimp only
  rw [k2, k3, nI_1]
  exact Rl_send h (pM_p (k := 6) (p := 0) hi hj (by omega) (by omega) (by decide) (by decide) (fun z => absurd z (by decide)) (fun z => absurd z (by decide)) (fun z => absurd z (by decide)))
theorem Rl_deny {N L t : Nat} {c r : sh_S} {i j : Nat} (hi : i < N) (hj : j < N) (h : Rl N L t c r) : Rl N L t (s_P_deny N L c i (nI j)) (s_T_send N L r 7 (nI i) (nI j) (r 27 0 i) 0 0 0) := by
  obtain ⟨⟨⟨a1, a2, -⟩, -⟩, ⟨⟨-, ⟨p, hp, e⟩, -⟩, -⟩, -, -⟩ := h.1 i hi
  unfold s_P_deny
  dsimp only
  rw [a2, e]
  exact Rl_send h (pM_p (k := 7) (s := 0) hi hj (by omega) (by omega) (by decide) (by decide) (fun z => absurd z (by decide)) (fun z => absurd z (by decide)) (fun z => absurd z (by decide)))
theorem Rl_help {N L t : Nat} {c r : sh_S} {i j s : Nat} (hN : N ≤ 5) (hL : L ≤ 32) (ht : t ≤ 600) (hi : i < N) (hj : j < N) (hs : s ≤ t + 1) (h : Rl N L t c r) : Rl N L t (s_P_help N L c i (nI j) (nI s)) (s_T_help N L r i (nI j) (nI s)) := by
  obtain ⟨a, k1, k2, k3, k4⟩ := ix_eq (h.1 i hi).2.2.1
  have hn := num_eq (N := N) (by omega : i < 5) hL ht (h.1 i hi).2.2.1 (nI s)
  have hst : Rl N L t (s_F_send N L c 8 (nI i) (nI j) 0 (nI a) (r 25 0 i) 0) (s_T_send N L r 8 (nI i) (nI j) 0 (nI a) (r 25 0 i) 0) := Rl_send h (pM_p (k := 8) (p := 0) hi hj (by omega) (by omega) (by decide) (by decide) (fun _ => k1) (fun z => absurd z (by decide)) (fun z => absurd z (by decide)))
  unfold s_P_help s_T_help v_G_keeps
  rw [hn, ahead_eq (N := N) hL ht (h.1 i hi).2.2.1, k2, k3, k4]
  by_cases h1 : nI s ≤ r 26 0 i
  · simp only [if_pos h1, ↓reduceIte]
    exact hst
  · simp only [if_neg h1]
    by_cases h2 : nI a < nI s
    · simp only [if_pos h2, ↓reduceIte]
      exact hst
    · simp only [if_neg h2, if_neg (show ¬ (1 : Int32) = 0 by decide)]
      exact Rl_send h (pM_p (k := 5) (p := 0) hi hj (by omega) hs (by decide) (by decide) (fun z => absurd z (by decide)) (fun z => absurd z (by decide)) (fun z => absurd z (by decide)))
theorem Rl_prep {N L t : Nat} {c r : sh_S} {i : Nat} (hN : N ≤ 5) (hi : i < N) (h : Rl N L t c r) : Rl N L t (s_P_sendPrepare N L c i) (s_T_sendAll N L r 1 (nI i) (r 32 0 i) (r 24 0 i + 1) 0) := by
  obtain ⟨⟨⟨a1, a2, a3, a4, a5, a6, -⟩, -⟩, ⟨-, ⟨⟨p, hp, e, -⟩, -⟩, -⟩, hB, -⟩ := h.1 i hi
  obtain ⟨a, k1, k2, k3, -⟩ := ix_eq hB
  unfold s_P_sendPrepare
  dsimp only
  rw [a6, e, k2, k3, nI_1]
  exact Rl_all hN (fun j hj => pM_p (k := 1) hi hj hp (by omega) (by decide) (by decide) (fun z => absurd z (by decide)) (fun z => absurd z (by decide)) (fun z => absurd z (by decide))) h
theorem Rl_acc {N L t : Nat} {c r : sh_S} {i : Nat} (hN : N ≤ 5) (ht : t ≤ 600) (hi : i < N) (h : Rl N L t c r) (hl : ¬ r 31 0 i = 0) (hp : 0 < r 34 0 i) : Rl N L t (s_P_sendAccept N L c i) (s_T_sendAll N L r 3 (nI i) (r 32 0 i) (r 24 0 i + 1) (r 34 0 i)) := by
  obtain ⟨⟨⟨a1, a2, a3, a4, a5, a6, a7, a8, -⟩, -⟩, ⟨-, ⟨⟨p, hp2, e, h0⟩, -⟩, -⟩, hB, -⟩ := h.1 i hi
  obtain ⟨a, k1, k2, k3, -⟩ := ix_eq hB
  unfold s_P_sendAccept
  dsimp only
  rw [a6, e, k2, k3, nI_1, a8]
  exact Rl_all hN (fun j hj => pM_p (k := 3) hi hj hp2 (by omega) (by decide) (by decide) (fun z => absurd z (by decide)) (fun _ => ⟨hp, nI_lt (a := 0) (h0 hl) (by omega)⟩) (fun z => absurd z (by decide))) h
theorem shl_p : ∀ j : Nat, j < 5 → (1 : Int32) <<< (nI j &&& 31) = nI (2 ^ j) := by decide +kernel
theorem two_lt {i N : Nat} (hi : i < N) : 2 ^ i < 2 ^ N := Nat.pow_lt_pow_right (by decide) hi
theorem Rl_propN {N L t : Nat} {c r : sh_S} {i : Nat} {x : Int32} (hN : N ≤ 5) (ht : t ≤ 600) (hi : i < N) (h : Rl N L t c r) (hl : r 31 0 i = 2) (hx : 0 < x) : Rl N L t (s_P_proposeNumber N L c i x) (s_T_proposeIt N L r i x) := by
  have hp := h.1 i hi
  obtain ⟨⟨⟨a1, a2, a3, a4, a5, a6, a7, a8, a9⟩, a10⟩, ⟨⟨v1, v2, v3⟩, ⟨⟨p, hp2, e, h0⟩, v5, v6, v7, v8, v9⟩, v10, v11⟩, hB, hQ⟩ := hp
  unfold s_P_proposeNumber s_T_proposeIt s_R_proposeAndAccept s_R_accept
  dsimp only
  have hn0 : ¬ r 31 0 i = 0 := by rw [hl]; decide
  have hb : 0 < nI p := nI_lt (a := 0) (h0 hn0) (by omega)
  have key : Rl N L t (sU (sU (sU (sU c 0 i 10 x) 0 i 9 (1 <<< (nI i &&& 31))) 0 i 5 ((sU (sU c 0 i 10 x) 0 i 9 (1 <<< (nI i &&& 31))) 0 i 8)) 0 i 6 x) (sU (sU (sU (sU r 34 0 i x) 29 0 i x) 28 0 i ((sU (sU r 34 0 i x) 29 0 i x) 32 0 i)) 33 0 i (1 <<< (nI i &&& 31))) := by
    refine Rl_A (i := i) h (oC_U (oC_U (oC_U (oC_U oC_0)))) (oR_U (okd rfl) (oR_U (okd rfl) (oR_U (okd rfl) (oR_U (okd rfl) oR_0)))) ?_ ?_
    · refine ⟨⟨?_, ?_, ?_, ?_, ?_, ?_, ?_, ?_, ?_⟩, fun z => ?_⟩
      · exact a1
      · exact a2
      · simp [sU_rd, a6]
      · simp [sU_rd]
      · exact a5
      · exact a6
      · simp [sU_rd]
      · simp [sU_rd]
      · exact a9
      · exact absurd (hl.symm.trans z) (by decide)
    · refine ⟨⟨v1, v2, v3⟩, ⟨⟨p, hp2, e, h0⟩, v5, fun z => absurd z hn0, fun _ z => ?_, ⟨2 ^ i, two_lt hi, ?_⟩, ?_⟩, Or.inr ?_, fun z => absurd (hl.symm.trans z) (by decide)⟩
      · have : x = 0 := by simpa [sU_rd] using z
        rw [this] at hx
        exact absurd hx (by decide)
      · rw [sU_rd, if_pos ⟨rfl, rfl, rfl⟩]
        exact shl_p i (by omega)
      · simp [sU_rd]
        exact Int32.le_of_lt hx
      · simp [sU_rd]
        exact ⟨hx, e ▸ hb⟩
  have := Rl_acc hN ht hi key hn0 (by simp [sU_rd]; exact hx)
  rw [show (sU (sU (sU (sU r 34 0 i x) 29 0 i x) 28 0 i ((sU (sU r 34 0 i x) 29 0 i x) 32 0 i)) 33 0 i (1 <<< (nI i &&& 31))) 34 0 i = x by simp [sU_rd]] at this
  exact this
theorem Rl_prop {N L t : Nat} {c r : sh_S} {i : Nat} (hN : N ≤ 5) (ht : t ≤ 600) (hi : i < N) (h : Rl N L t c r) (hl : r 31 0 i = 2) : Rl N L t (s_P_propose N L c i) (s_T_propose N L r i) := by
  obtain ⟨-, -, -, q, g1, g2, g3, g4⟩ := h.1 i hi
  unfold s_P_propose s_T_propose v_L_at
  dsimp only
  rw [g2, g3, if_neg (show ¬ (0 : Int32) < 0 by decide)]
  have e8 : (8 * nI i : Int32).toNatClampNeg = 8 * i + 0 := by
    rw [show (8 : Int32) = nI 8 from rfl, pk_mul, nI_clamp (by omega)]
    rfl
  by_cases hq : q = 0
  · subst hq
    simp only [if_pos (show nI 0 ≤ 0 by decide), ↓reduceIte]
    exact h
  · have h1 : ¬ nI q ≤ 0 := nI_ge (a := 0) (by omega) (by omega)
    have h2 := g4 0 (by omega)
    have e0 : (0 : Int32).toNatClampNeg = 0 := by decide
    rw [← e8] at h2
    simp only [if_neg h1, e0]
    rw [h2.1, if_neg (show ¬ r 38 0 ((8 * nI i : Int32).toNatClampNeg) = 0 from fun z => by rw [z] at h2; exact absurd h2.2 (by decide))]
    exact Rl_propN hN ht hi h hl h2.2
theorem Rl_tickL {N L t : Nat} {c r : sh_S} {i : Nat} (hN : N ≤ 5) (ht : t ≤ 600) (hi : i < N) (h : Rl N L t c r) (hl : r 31 0 i = 2) : Rl N L t (s_P_tickLeader N L c i) (if r 34 0 i ≤ 0 then s_T_propose N L r i else s_T_sendAll N L r 3 (nI i) (r 32 0 i) (r 24 0 i + 1) (r 34 0 i)) := by
  obtain ⟨⟨⟨a1, a2, a3, a4, a5, a6, a7, a8, a9⟩, -⟩, ⟨-, ⟨-, -, -, -, -, v9⟩, -⟩, -⟩ := h.1 i hi
  unfold s_P_tickLeader
  dsimp only
  rw [a8]
  by_cases h0 : r 34 0 i = 0
  · rw [if_pos h0, if_pos (by rw [h0]; decide)]
    exact Rl_prop hN ht hi h hl
  · have hpos : 0 < r 34 0 i := by
      obtain ⟨j, hj, e⟩ := nI_of v9
      rw [e] at h0 ⊢
      exact nI_lt (a := 0) (Nat.pos_of_ne_zero fun z => h0 (by rw [z]; rfl)) hj
    rw [if_neg h0, if_neg (Int32.not_le.mpr hpos)]
    exact Rl_acc hN ht hi h (by rw [hl]; decide) hpos
