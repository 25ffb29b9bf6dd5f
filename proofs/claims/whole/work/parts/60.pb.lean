/-! promise, accepted -/
theorem Rl_ans {N L t : Nat} {c r : sh_S} {i j : Nat} (hN : 3 ≤ N ∧ N ≤ 5) (hi : i < N) (hj : j < N) (h : Rl N L t c r) (hl : ¬ r 31 0 i = 0) (hx : r 31 0 i = 1 ∨ ¬ r 34 0 i = 0) : Rl N L t (s_R_addAnswer N L c i (nI j)) (sU r 33 0 i (r 33 0 i ||| (1 <<< (nI j &&& 31)))) := by
  obtain ⟨⟨⟨a1, a2, a3, a4, a5, a6, a7, a8, a9⟩, a10⟩, ⟨hv1, ⟨v4, v5, v6, v7, ⟨w, hw, ew⟩, v9⟩, v10⟩, -, -⟩ := h.1 i hi
  refine Rl_A (i := i) h (oC_U oC_0) (oR_U (okd rfl) oR_0) ⟨⟨a1, a2, a3, a4, a5, a6, ?_, a8, a9⟩, a10⟩ ⟨hv1, ⟨v4, v5, fun z => absurd z hl, fun z1 z2 => ?_, ⟨w ||| 2 ^ j, Nat.or_lt_two_pow hw (two_lt hj), ?_⟩, v9⟩, v10⟩
  · unfold s_R_addAnswer
    simp [sU_rd, a7]
  · rcases hx with hx | hx
    · exact absurd (hx.symm.trans z1) (by decide)
    · exact absurd z2 hx
  · rw [sU_rd, if_pos ⟨rfl, rfl, rfl⟩, ew]
    exact add_p w (w32 hN.2 hw) j (by omega)
theorem has_eq {N L t : Nat} {c r : sh_S} {i j : Nat} (hN : 3 ≤ N ∧ N ≤ 5) (hi : i < N) (hj : j < N) (h : Rl N L t c r) : v_R_hasAnswer N L c i (nI j) = if ((r 33 0 i >>> (nI j &&& 31)) &&& 1) = 1 then 1 else 0 := by
  obtain ⟨⟨⟨a1, a2, a3, a4, a5, a6, a7, -⟩, -⟩, ⟨-, ⟨-, -, -, -, ⟨w, hw, ew⟩, -⟩, -⟩, -, -⟩ := h.1 i hi
  have k := has_p w (w32 hN.2 hw) j (by omega)
  unfold v_R_hasAnswer
  rw [a7, ew]
  by_cases z : ((nI w >>> (nI j &&& 31)) &&& 1) = 1
  · rw [if_pos z, if_neg (fun q => k.mp q z)]
  · rw [if_neg z, if_pos (k.mpr z)]
theorem Rl_keep {N L t : Nat} {c r : sh_S} {i : Nat} {n b : Int32} (hi : i < N) (h : Rl N L t c r) (hl : r 31 0 i = 1) (hp : pr n b) : Rl N L t (s_R_keepGreatest N L c i b n) (if b ≤ r 36 0 i then r else sU (sU r 35 0 i n) 36 0 i b) := by
  obtain ⟨⟨⟨a1, a2, a3, a4, a5, a6, a7, a8, a9⟩, a10⟩, ⟨hv1, hv4, v10, v11⟩, -, -⟩ := h.1 i hi
  obtain ⟨b1, b2⟩ := a10 hl
  unfold s_R_keepGreatest
  dsimp only
  rw [b1]
  by_cases z : b ≤ r 36 0 i
  · rw [if_pos z, if_pos z]
    exact h
  · rw [if_neg z, if_neg z]
    refine Rl_A (i := i) h (oC_U (oC_U oC_0)) (oR_U (okd rfl) (oR_U (okd rfl) oR_0)) ⟨⟨a1, a2, a3, a4, a5, a6, a7, a8, a9⟩, fun _ => ⟨?_, ?_⟩⟩ ⟨hv1, hv4, v10, fun _ => ?_⟩
    · simp [sU_rd]
    · simp [sU_rd]
    · have e1 : (sU (sU r 35 0 i n) 36 0 i b) 35 0 i = n := by simp [sU_rd]
      have e2 : (sU (sU r 35 0 i n) 36 0 i b) 36 0 i = b := by simp [sU_rd]
      rw [e1, e2]
      exact hp
theorem Rl_lead {N L t : Nat} {c r : sh_S} {i : Nat} (hi : i < N) (h : Rl N L t c r) (hl : r 31 0 i = 1) : Rl N L t (s_R_becomeLeader N L c i) (sU (sU r 31 0 i 2) 33 0 i 0) := by
  obtain ⟨⟨⟨a1, a2, a3, a4, a5, a6, a7, a8, a9⟩, a10⟩, ⟨hv1, ⟨⟨p, hp, ep, h0⟩, v5, v6, v7, v8, v9⟩, v10, v11⟩, -, -⟩ := h.1 i hi
  have e31 : (sU (sU r 31 0 i 2) 33 0 i 0) 31 0 i = 2 := by simp [sU_rd]
  have e33 : (sU (sU r 31 0 i 2) 33 0 i 0) 33 0 i = 0 := by simp [sU_rd]
  refine Rl_A (i := i) h (oC_U (oC_U oC_0)) (oR_U (okd rfl) (oR_U (okd rfl) oR_0)) ⟨⟨a1, a2, a3, a4, ?_, a6, ?_, a8, a9⟩, fun z => absurd (e31.symm.trans z) (by decide)⟩ ⟨hv1, ⟨⟨p, hp, ep, fun _ => h0 (by rw [hl]; decide)⟩, Or.inr (Or.inr e31), fun z => absurd (e31.symm.trans z) (by decide), fun _ _ => e33, ⟨0, Nat.two_pow_pos N, e33⟩, v9⟩, v10, fun z => absurd (e31.symm.trans z) (by decide)⟩
  · rw [e31]
    unfold s_R_becomeLeader
    simp [sU_rd]
  · rw [e33]
    unfold s_R_becomeLeader
    simp [sU_rd]
theorem maj2 {N L t : Nat} {c r : sh_S} {i : Nat} (hN : 3 ≤ N ∧ N ≤ 5) (hi : i < N) (h : Rl N L t c r) : v_P_isMajority N L c (c 0 i 9) = if (2 * v_T_count N L r (r 33 0 i)) ≤ nI N then 0 else 1 := by
  obtain ⟨⟨⟨a1, a2, a3, a4, a5, a6, a7, -⟩, -⟩, ⟨-, ⟨-, -, -, -, ⟨w, hw, ew⟩, -⟩, -⟩, -, -⟩ := h.1 i hi
  unfold v_P_isMajority
  rw [a7, ew, maj_eq (c := c) (r := r) hN hw]
/-- what a candidate does behind a promise that counts -/
def gC (N L : Nat) (c : sh_S) (i : Nat) : sh_S := (if (v_P_isMajority N L c (c 0 i 9)) = 0 then c else (let c3 := s_R_becomeLeader N L c i; (if (c3 0 i 12) = 0 then (let c4 := s_P_propose N L c3 i; c4) else (let c5 := s_P_proposeNumber N L c3 i (c3 0 i 13); c5))))
def gT (N L : Nat) (r : sh_S) (i : Nat) : sh_S := (if (2 * (v_T_count N L r (r 33 0 i))) ≤ (nI N) then r else (let r2 := sU r 31 0 i 2; (let r3 := sU r2 33 0 i 0; (if (r3 35 0 i) ≤ 0 then (let r4 := s_T_propose N L r3 i; r4) else (let r5 := s_T_proposeIt N L r3 i (r3 35 0 i); r5)))))
theorem Rl_g {N L t : Nat} {c r : sh_S} {i : Nat} (hN : 3 ≤ N ∧ N ≤ 5) (ht : t ≤ 600) (hi : i < N) (h : Rl N L t c r) (hl : r 31 0 i = 1) : Rl N L t (gC N L c i) (gT N L r i) := by
  unfold gC gT
  rw [maj2 hN hi h]
  by_cases z : (2 * v_T_count N L r (r 33 0 i)) ≤ nI N
  · rw [if_pos z, if_pos rfl, if_pos z]
    exact h
  · rw [if_neg z, if_neg (show ¬ (1 : Int32) = 0 by decide), if_neg z]
    dsimp only
    obtain ⟨⟨-, a10⟩, ⟨-, -, -, v11⟩, -, -⟩ := h.1 i hi
    obtain ⟨b1, b2⟩ := a10 hl
    have c12 : (s_R_becomeLeader N L c i) 0 i 12 = r 36 0 i := b1
    have c13 : (s_R_becomeLeader N L c i) 0 i 13 = r 35 0 i := b2
    have r35 : (sU (sU r 31 0 i 2) 33 0 i 0) 35 0 i = r 35 0 i := rfl
    have e31 : (sU (sU r 31 0 i 2) 33 0 i 0) 31 0 i = 2 := by simp [sU_rd]
    have k := Rl_lead hi h hl
    rw [c12, c13, r35]
    rcases v11 hl with ⟨w1, w2⟩ | ⟨w1, w2⟩
    · rw [if_pos w2, if_pos (show r 35 0 i ≤ 0 by rw [w1]; decide)]
      exact Rl_prop hN.2 ht hi k e31
    · rw [if_neg (show ¬ r 36 0 i = 0 from fun z => by rw [z] at w2; exact absurd w2 (by decide)), if_neg (Int32.not_le.mpr w1)]
      exact Rl_propN hN.2 ht hi k e31 w1
theorem Rl_prom {N L t : Nat} {c r : sh_S} {i j p s : Nat} {n b : Int32} (hN : 3 ≤ N ∧ N ≤ 5) (ht : t ≤ 600) (hi : i < N) (hj : j < N) (hs : s ≤ t + 1) (hnb : pr n b) (h : Rl N L t c r) (e1 : c 7 0 1 = nI j) (e3 : c 7 0 3 = nI p) (e4 : c 7 0 4 = nI s) (e5 : c 7 0 5 = n) (e6 : c 7 0 6 = b) : Rl N L t (s_P_onPromise N L c i) (s_T_gotPromise N L r i (nI j) (nI p) (nI s) n b) := by
  obtain ⟨a, k1, k2, k3, k4⟩ := ix_eq (h.1 i hi).2.2.1
  obtain ⟨⟨⟨a1, a2, a3, a4, a5, a6, -⟩, -⟩, -⟩ := h.1 i hi
  have eC : s_P_onPromise N L c i = if c 0 i 7 = 1 then (if c 0 i 8 = c 7 0 3 then (if v_R_isNext N L c i (c 7 0 4) = 0 then c else (if v_R_hasAnswer N L c i (c 7 0 1) = 0 then gC N L (s_R_keepGreatest N L (s_R_addAnswer N L c i (c 7 0 1)) i (c 7 0 6) (c 7 0 5)) i else c)) else c) else c := rfl
  have eT : s_T_gotPromise N L r i (nI j) (nI p) (nI s) n b = if r 31 0 i = 1 then (if r 32 0 i = nI p then (if nI s = r 24 0 i + 1 then (if ((r 33 0 i >>> (nI j &&& 31)) &&& 1) = 1 then r else (if b ≤ (sU r 33 0 i (r 33 0 i ||| (1 <<< (nI j &&& 31)))) 36 0 i then gT N L (sU r 33 0 i (r 33 0 i ||| (1 <<< (nI j &&& 31)))) i else gT N L (sU (sU (sU r 33 0 i (r 33 0 i ||| (1 <<< (nI j &&& 31)))) 35 0 i n) 36 0 i b) i)) else r) else r) else r := rfl
  rw [eC, eT, a5, a6, e1, e3, e4, e5, e6, k3, nI_1, nx_eq (N := N) (L := L) (by omega) (by omega) k2, has_eq hN hi hj h]
  by_cases u1 : r 31 0 i = 1
  · rw [if_pos u1, if_pos u1]
    by_cases u2 : r 32 0 i = nI p
    · rw [if_pos u2, if_pos u2]
      by_cases u3 : s = a + 1
      · rw [if_pos u3, if_neg (show ¬ (1 : Int32) = 0 by decide), if_pos (show nI s = nI (a + 1) by rw [u3])]
        by_cases u4 : ((r 33 0 i >>> (nI j &&& 31)) &&& 1) = 1
        · rw [if_pos u4, if_neg (show ¬ (1 : Int32) = 0 by decide), if_pos u4]
          exact h
        · rw [if_neg u4, if_pos rfl, if_neg u4]
          have hn0 : ¬ r 31 0 i = 0 := by rw [u1]; decide
          have k := Rl_ans hN hi hj h hn0 (Or.inl u1)
          have k5 := Rl_keep hi k u1 hnb
          by_cases z : b ≤ (sU r 33 0 i (r 33 0 i ||| (1 <<< (nI j &&& 31)))) 36 0 i
          · rw [if_pos z] at k5 ⊢
            exact Rl_g hN ht hi k5 u1
          · rw [if_neg z] at k5 ⊢
            exact Rl_g hN ht hi k5 u1
      · rw [if_neg u3, if_pos rfl, if_neg (show ¬ nI s = nI (a + 1) from fun w => u3 ((nI_eq (by omega) (by omega)).mp w))]
        exact h
    · rw [if_neg u2, if_neg u2]
      exact h
  · rw [if_neg u1, if_neg u1]
    exact h
theorem x31_send {N L : Nat} {r : sh_S} {x1 x2 x3 x4 x5 x6 x7 : Int32} {j : Nat} : (s_T_send N L r x1 x2 x3 x4 x5 x6 x7) 31 0 j = r 31 0 j := by
  unfold s_T_send
  dsimp only
  split <;> rfl
theorem x31_all {N L : Nat} {x1 x2 x3 x4 x5 : Int32} : ∀ (n : Nat) (r : sh_S) (a : Int32) (j : Nat), (ls_T_sendAll N L n r x1 x2 x3 x4 x5 a) 31 0 j = r 31 0 j := by
  intro n
  induction n with
  | zero => intro r a j; rfl
  | succ n ih =>
    intro r a j
    unfold ls_T_sendAll
    split
    · rfl
    · split
      · exact ih _ _ _
      · exact (ih _ _ _).trans x31_send
theorem Rl_accd {N L t : Nat} {c r : sh_S} {i j p s : Nat} (hN : 3 ≤ N ∧ N ≤ 5) (hL : 1 ≤ L ∧ L ≤ 32) (ht : t ≤ 511) (hi : i < N) (hj : j < N) (hs : s ≤ t + 1) (h : Rl N L t c r) (e1 : c 7 0 1 = nI j) (e3 : c 7 0 3 = nI p) (e4 : c 7 0 4 = nI s) : Rl N L (t + 1) (s_P_onAccepted N L c i) (s_T_gotAccepted N L r i (nI j) (nI p) (nI s)) := by
  obtain ⟨a, k1, k2, k3, k4⟩ := ix_eq (h.1 i hi).2.2.1
  obtain ⟨⟨⟨a1, a2, a3, a4, a5, a6, a7, a8, -⟩, -⟩, -⟩ := h.1 i hi
  unfold s_P_onAccepted s_T_gotAccepted
  dsimp only
  rw [a5, a6, a8, e1, e3, e4, k3, nI_1, nx_eq (N := N) (L := L) (by omega) (by omega) k2, has_eq hN hi hj h]
  by_cases u1 : r 31 0 i = 2
  · rw [if_pos u1, if_pos u1]
    by_cases u2 : r 32 0 i = nI p
    · rw [if_pos u2, if_pos u2]
      by_cases u0 : r 34 0 i = 0
      · rw [if_pos u0, if_pos u0]
        exact Rl_mono h
      · rw [if_neg u0, if_neg u0]
        by_cases u3 : s = a + 1
        · rw [if_pos u3, if_neg (show ¬ (1 : Int32) = 0 by decide), if_pos (show nI s = nI (a + 1) by rw [u3])]
          by_cases u4 : ((r 33 0 i >>> (nI j &&& 31)) &&& 1) = 1
          · rw [if_pos u4, if_neg (show ¬ (1 : Int32) = 0 by decide), if_pos u4]
            exact Rl_mono h
          · rw [if_neg u4, if_pos rfl, if_neg u4]
            have hn0 : ¬ r 31 0 i = 0 := by rw [u1]; decide
            have k := Rl_ans hN hi hj h hn0 (Or.inr u0)
            have c74 : (s_R_addAnswer N L c i (nI j)) 7 0 4 = nI s := e4
            have r31 : (sU r 33 0 i (r 33 0 i ||| (1 <<< (nI j &&& 31)))) 31 0 i = 2 := u1
            have c10 : (s_R_addAnswer N L c i (nI j)) 0 i 10 = (sU r 33 0 i (r 33 0 i ||| (1 <<< (nI j &&& 31)))) 34 0 i := (k.1 i hi).1.1.2.2.2.2.2.2.2.1
            generalize s_R_addAnswer N L c i (nI j) = c' at *
            generalize sU r 33 0 i (r 33 0 i ||| (1 <<< (nI j &&& 31))) = r' at *
            rw [maj2 hN hi k]
            by_cases z : (2 * v_T_count N L r' (r' 33 0 i)) ≤ nI N
            · rw [if_pos z, if_pos rfl, if_pos z]
              exact Rl_mono k
            · rw [if_neg z, if_neg (show ¬ (1 : Int32) = 0 by decide), if_neg z, c74, c10]
              have k6 := Rl_all (x1 := 5) (x2 := nI i) (x3 := 0) (x4 := nI s) (x5 := r' 34 0 i) hN.2 (fun m hm => pM_p (k := 5) (p := 0) hi hm (by omega) hs (by decide) (by decide) (fun z => absurd z (by decide)) (fun z => absurd z (by decide)) (fun z => absurd z (by decide))) k
              have r31' : (s_T_sendAll N L r' 5 (nI i) 0 (nI s) (r' 34 0 i)) 31 0 i = 2 := (x31_all 6 r' 0 i).trans r31
              have k7 := Rl_learn (x := r' 34 0 i) hN.2 hL (by omega) hi k6
              exact Rl_prop hN.2 (by omega) hi k7.1 (k7.2 r31')
        · rw [if_neg u3, if_pos rfl, if_neg (show ¬ nI s = nI (a + 1) from fun w => u3 ((nI_eq (by omega) (by omega)).mp w))]
          exact Rl_mono h
    · rw [if_neg u2, if_neg u2]
      exact Rl_mono h
  · rw [if_neg u1, if_neg u1]
    exact Rl_mono h
