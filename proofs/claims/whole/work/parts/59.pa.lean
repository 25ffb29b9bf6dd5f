/-! answers and their count -/
theorem has_p : ∀ w : Nat, w < 32 → ∀ j : Nat, j < 5 → ((nI w &&& ((1 : Int32) <<< (nI j &&& 31))) = 0 ↔ ¬ ((nI w >>> (nI j &&& 31)) &&& 1) = 1) := by decide +kernel
theorem add_p : ∀ w : Nat, w < 32 → ∀ j : Nat, j < 5 → nI w ||| ((1 : Int32) <<< (nI j &&& 31)) = nI (w ||| 2 ^ j) := by decide +kernel
def bc (x : Int32) : Int32 := v_J_bitCount 0 0 (fun _ _ _ => 0) x
def cn (N : Nat) (x : Int32) : Int32 := lv_T_count N 0 6 (fun _ _ _ => 0) x 0 0
theorem bc_eq {N L : Nat} {c : sh_S} {x : Int32} : v_J_bitCount N L c x = bc x := rfl
theorem cn_l {N L : Nat} {r : sh_S} {x : Int32} : ∀ (n : Nat) (a b : Int32), lv_T_count N L n r x a b = lv_T_count N 0 n (fun _ _ _ => 0) x a b := by
  intro n
  induction n with
  | zero => intro a b; rfl
  | succ n ih =>
    intro a b
    unfold lv_T_count
    rw [ih]
theorem cn_eq {N L : Nat} {r : sh_S} {x : Int32} : v_T_count N L r x = cn N x := cn_l 6 0 0
theorem bc3 : ∀ w : Nat, w < 8 → bc (nI w) = cn 3 (nI w) := by decide +kernel
theorem bc4 : ∀ w : Nat, w < 16 → bc (nI w) = cn 4 (nI w) := by decide +kernel
theorem bc5 : ∀ w : Nat, w < 32 → bc (nI w) = cn 5 (nI w) := by decide +kernel
theorem maj_eq {N L w : Nat} {c r : sh_S} (hN : 3 ≤ N ∧ N ≤ 5) (hw : w < 2 ^ N) : v_J_bitCount N L c (nI w) = v_T_count N L r (nI w) := by
  rw [bc_eq, cn_eq]
  obtain ⟨n1, n2⟩ := hN
  have hN2 : N = 3 ∨ N = 4 ∨ N = 5 := by omega
  rcases hN2 with rfl | rfl | rfl
  · exact bc3 w hw
  · exact bc4 w hw
  · exact bc5 w hw
theorem w32 {N w : Nat} (hN : N ≤ 5) (hw : w < 2 ^ N) : w < 32 := Nat.lt_of_lt_of_le hw (Nat.pow_le_pow_right (n := 2) (by decide) hN : 2 ^ N ≤ 2 ^ 5)
/-- one that becomes FOLLOWER again -/
theorem Rl_follow0 {N L t : Nat} {c r : sh_S} {i : Nat} (hi : i < N) (h : Rl N L t c r) (hl : r 31 0 i = 0) : Rl N L t (s_R_becomeFollower N L c i) r := by
  obtain ⟨⟨⟨a1, a2, a3, a4, a5, a6, a7, a8, a9⟩, a10⟩, hV, -, -⟩ := h.1 i hi
  have hb := bF_rd (N := N) (L := L) (i := i) (c := c)
  obtain ⟨w1, w2, w3⟩ := hV.2.1.2.2.1 hl
  exact Rl_A h oC_bF oR_0 ⟨⟨a1, a2, a3, a4, by rw [hb.1, hl], by rw [hb.2.1, w1], by rw [hb.2.2.1, w2], by rw [hb.2.2.2, w3], a9⟩, fun z => absurd (hl.symm.trans z) (by decide)⟩ hV
theorem Rl_pro {N L t : Nat} {c r : sh_S} {i p : Nat} (hi : i < N) (hp : p ≤ 5 * t + 5) (h : Rl N L t c r) : Rl N L t (sU c 0 i 4 (nI p)) (sU r 27 0 i (nI p)) := by
  obtain ⟨⟨⟨a1, a2, a3, a4, a5, a6, a7, a8, a9⟩, a10⟩, ⟨⟨v1, v2, v3⟩, hv4⟩, -, -⟩ := h.1 i hi
  exact Rl_A (i := i) h (oC_U oC_0) (oR_U (okd rfl) oR_0) ⟨⟨a1, by simp [sU_rd], a3, a4, a5, a6, a7, a8, a9⟩, a10⟩ ⟨⟨v1, ⟨p, hp, by simp [sU_rd]⟩, v3⟩, hv4⟩
theorem Rl_acpt {N L t : Nat} {c r : sh_S} {i : Nat} {b n : Int32} (hi : i < N) (h : Rl N L t c r) (hn : 0 < n) (hb : 0 < b) : Rl N L t (s_R_accept N L c i b n) (sU (sU r 29 0 i n) 28 0 i b) := by
  obtain ⟨⟨⟨a1, a2, a3, a4, a5, a6, a7, a8, a9⟩, a10⟩, ⟨hv1, hv4, v10, v11⟩, -, -⟩ := h.1 i hi
  refine Rl_A (i := i) h (oC_U (oC_U oC_0)) (oR_U (okd rfl) (oR_U (okd rfl) oR_0)) ⟨⟨a1, a2, ?_, ?_, a5, a6, a7, a8, a9⟩, a10⟩ ⟨hv1, hv4, Or.inr ⟨?_, ?_⟩, v11⟩
  · unfold s_R_accept
    simp [sU_rd]
  · unfold s_R_accept
    simp [sU_rd]
  · simp [sU_rd]
    exact hn
  · simp [sU_rd]
    exact hb
theorem nx_eq {N L a s i : Nat} {c : sh_S} (ha : a ≤ 1000) (hs : s ≤ 1000) (k2 : c 1 i 2 = nI a) : v_R_isNext N L c i (nI s) = if s = a + 1 then 1 else 0 := by
  unfold v_R_isNext
  rw [k2, nI_1]
  by_cases z : s = a + 1
  · rw [if_pos z, if_pos (by rw [z])]
  · rw [if_neg z, if_neg (fun w => z ((nI_eq (by omega) (by omega)).mp w))]
theorem Rl_prepd {N L t : Nat} {c r : sh_S} {i j p s : Nat} (hN : 3 ≤ N ∧ N ≤ 5) (hL : L ≤ 32) (ht : t ≤ 600) (hi : i < N) (hj : j < N) (hp : p ≤ 5 * t + 5) (hs : s ≤ t + 1) (h : Rl N L t c r) (e1 : c 7 0 1 = nI j) (e3 : c 7 0 3 = nI p) (e4 : c 7 0 4 = nI s) : Rl N L t (s_P_onPrepare N L c i) (s_T_prepared N L r i (nI j) (nI p) (nI s)) := by
  obtain ⟨a, k1, k2, k3, k4⟩ := ix_eq (h.1 i hi).2.2.1
  obtain ⟨⟨⟨-, a2, -⟩, -⟩, -⟩ := h.1 i hi
  unfold s_P_onPrepare s_T_prepared
  dsimp only
  rw [e1, e3, e4, k2, k3, a2]
  by_cases h1 : nI a < nI s
  · simp only [if_pos h1]
    by_cases h2 : nI p < r 27 0 i
    · simp only [if_pos h2]
      exact Rl_deny hi hj h
    · simp only [if_neg h2]
      have k := Rl_follow hi (Rl_pro hi hp h)
      obtain ⟨⟨⟨-, -, b3, b4, -⟩, -⟩, ⟨-, -, v10, -⟩, hB, -⟩ := k.1 i hi
      have c71 : (s_R_becomeFollower N L (sU c 0 i 4 (nI p)) i) 7 0 1 = nI j := e1
      have c73 : (s_R_becomeFollower N L (sU c 0 i 4 (nI p)) i) 7 0 3 = nI p := e3
      have c74 : (s_R_becomeFollower N L (sU c 0 i 4 (nI p)) i) 7 0 4 = nI s := e4
      have r24 : (s_T_follow N L (sU r 27 0 i (nI p)) i) 24 0 i = nI a := k3
      have c12 : (s_R_becomeFollower N L (sU c 0 i 4 (nI p)) i) 1 i 2 = nI a := k2
      generalize s_R_becomeFollower N L (sU c 0 i 4 (nI p)) i = c' at *
      generalize s_T_follow N L (sU r 27 0 i (nI p)) i = r' at *
      unfold s_P_sendPromise v_R_hasAccepted
      dsimp only
      rw [c71, c73, c74, nx_eq (N := N) (L := L) (by omega) (by omega) c12, r24, nI_1, b3, b4]
      have h00 : Rl N L t (s_F_send N L c' 2 (nI i) (nI j) (nI p) (nI s) 0 0) (s_T_send N L r' 2 (nI i) (nI j) (nI p) (nI s) 0 0) := Rl_send k (pM_p (k := 2) hi hj hp hs (by decide) (by decide) (fun z => absurd z (by decide)) (fun z => absurd z (by decide)) (fun _ => Or.inl ⟨rfl, rfl⟩))
      by_cases hn : s = a + 1
      · rw [if_pos hn, if_pos (show nI s = nI (a + 1) by rw [hn]), if_neg (show ¬ (1 : Int32) = 0 by decide)]
        rcases v10 with ⟨w1, w2⟩ | ⟨w1, w2⟩
        · rw [if_pos w2, if_pos rfl, if_pos (show r' 29 0 i ≤ 0 by rw [w1]; decide)]
          exact h00
        · have n1 : ¬ r' 28 0 i = 0 := fun z => by rw [z] at w2; exact absurd w2 (by decide)
          rw [if_neg n1, if_neg (show ¬ (1 : Int32) = 0 by decide), if_neg (Int32.not_le.mpr w1)]
          exact Rl_send k (pM_p (k := 2) hi hj hp hs (by decide) (by decide) (fun z => absurd z (by decide)) (fun z => absurd z (by decide)) (fun _ => Or.inr ⟨w1, w2⟩))
      · rw [if_neg hn, if_neg (show ¬ nI s = nI (a + 1) from fun w => hn ((nI_eq (by omega) (by omega)).mp w)), if_pos rfl]
        exact h00
  · simp only [if_neg h1]
    exact Rl_help hN.2 hL ht hi hj hs h
theorem Rl_acc1 {N L t : Nat} {c r : sh_S} {i j p s : Nat} {n : Int32} (hN : 3 ≤ N ∧ N ≤ 5) (hL : L ≤ 32) (ht : t ≤ 600) (hi : i < N) (hj : j < N) (hp : p ≤ 5 * t + 5) (hs : s ≤ t + 1) (hn : 0 < n) (hb : 0 < nI p) (h : Rl N L t c r) (e1 : c 7 0 1 = nI j) (e3 : c 7 0 3 = nI p) (e4 : c 7 0 4 = nI s) (e5 : c 7 0 5 = n) : Rl N L t (s_P_onAccept N L c i) (s_T_gotAccept N L r i (nI j) (nI p) (nI s) n) := by
  obtain ⟨a, k1, k2, k3, k4⟩ := ix_eq (h.1 i hi).2.2.1
  obtain ⟨⟨⟨-, a2, -⟩, -⟩, -⟩ := h.1 i hi
  unfold s_P_onAccept s_T_gotAccept
  dsimp only
  rw [e1, e3, e4, k2, k3, a2, nx_eq (N := N) (L := L) (by omega) (by omega) k2, nI_1]
  by_cases h1 : nI a < nI s
  · simp only [if_pos h1]
    have hlt : a < s := (nI_ltI (by omega) (by omega)).mp h1
    by_cases hnx : s = a + 1
    · rw [if_pos hnx, if_neg (show ¬ (1 : Int32) = 0 by decide), if_pos (show nI s ≤ nI (a + 1) from nI_le (by omega) (by omega))]
      by_cases h2 : nI p < r 27 0 i
      · simp only [if_pos h2]
        exact Rl_deny hi hj h
      · simp only [if_neg h2]
        have k := Rl_pro hi hp h
        obtain ⟨⟨⟨-, -, -, -, b5, b6, -⟩, -⟩, ⟨-, ⟨-, v5, v6, -⟩, -⟩, -, -⟩ := k.1 i hi
        have c71 : (sU c 0 i 4 (nI p)) 7 0 1 = nI j := e1
        have c73 : (sU c 0 i 4 (nI p)) 7 0 3 = nI p := e3
        have c74 : (sU c 0 i 4 (nI p)) 7 0 4 = nI s := e4
        have c75 : (sU c 0 i 4 (nI p)) 7 0 5 = n := e5
        generalize sU c 0 i 4 (nI p) = c' at *
        generalize sU r 27 0 i (nI p) = r' at *
        have fin : ∀ {c2 r2 : sh_S}, Rl N L t c2 r2 → c2 7 0 1 = nI j → c2 7 0 3 = nI p → c2 7 0 4 = nI s → c2 7 0 5 = n → Rl N L t (s_F_send N L (s_R_accept N L c2 i (c2 7 0 3) (c2 7 0 5)) 4 (nI i) ((s_R_accept N L c2 i (c2 7 0 3) (c2 7 0 5)) 7 0 1) ((s_R_accept N L c2 i (c2 7 0 3) (c2 7 0 5)) 7 0 3) ((s_R_accept N L c2 i (c2 7 0 3) (c2 7 0 5)) 7 0 4) 0 0) (s_T_send N L (sU (sU r2 29 0 i n) 28 0 i (nI p)) 4 (nI i) (nI j) (nI p) (nI s) 0 0) := by
          intro c2 r2 hh q1 q3 q4 q5
          have t1 : (s_R_accept N L c2 i (c2 7 0 3) (c2 7 0 5)) 7 0 1 = nI j := q1
          have t3 : (s_R_accept N L c2 i (c2 7 0 3) (c2 7 0 5)) 7 0 3 = nI p := q3
          have t4 : (s_R_accept N L c2 i (c2 7 0 3) (c2 7 0 5)) 7 0 4 = nI s := q4
          rw [t1, t3, t4, q3, q5]
          exact Rl_send (Rl_acpt hi hh hn hb) (pM_p (k := 4) hi hj hp hs (by decide) (by decide) (fun z => absurd z (by decide)) (fun z => absurd z (by decide)) (fun z => absurd z (by decide)))
        rw [b5, b6]
        rcases v5 with u | u | u
        · have u1 : ¬ r' 31 0 i = 1 := by rw [u]; decide
          have u2 : ¬ r' 31 0 i = 2 := by rw [u]; decide
          have u3 : ¬ r' 32 0 i = c' 7 0 3 := by
            rw [(v6 u).1, c73]
            exact fun z => by rw [← z] at hb; exact absurd hb (by decide)
          simp only [if_neg u1, if_neg u2, if_neg u3]
          exact fin (Rl_follow0 hi k u) c71 c73 c74 c75
        · simp only [if_pos u]
          exact fin (Rl_follow hi k) c71 c73 c74 c75
        · have u1 : ¬ r' 31 0 i = 1 := by rw [u]; decide
          simp only [if_neg u1, if_pos u]
          by_cases w : r' 32 0 i = nI p
          · have w' : r' 32 0 i = c' 7 0 3 := w.trans c73.symm
            simp only [if_pos w', if_pos w]
            exact fin k c71 c73 c74 c75
          · have w' : ¬ r' 32 0 i = c' 7 0 3 := fun z => w (z.trans c73)
            simp only [if_neg w', if_neg w]
            exact fin (Rl_follow hi k) c71 c73 c74 c75
    · rw [if_neg hnx, if_pos rfl, if_neg (show ¬ nI s ≤ nI (a + 1) from nI_ge (by omega) (by omega))]
      have k := Rl_ask hi hj h
      rw [k3, nI_1] at k
      exact k
  · simp only [if_neg h1]
    exact Rl_help hN.2 hL ht hi hj hs h
