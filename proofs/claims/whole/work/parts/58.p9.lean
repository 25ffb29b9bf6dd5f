/-! learn, state -/
theorem Rl_B {N L t : Nat} {c c' r r' : sh_S} {i : Nat} (h : Rl N L t c r) (hc : ∀ k i' j : Nat, (¬ k = 1 ∧ ¬ k = 2) ∨ ¬ i' = i → c' k i' j = c k i' j) (hr : ∀ k j : Nat, ¬ k = 30 → ((¬ k = 24 ∧ ¬ k = 25 ∧ ¬ k = 26) ∨ ¬ j = i) → r' k 0 j = r k 0 j) (h30 : ∀ i' k : Nat, ¬ i' = i → k < 40 → r' 30 0 (40 * i' + k) = r 30 0 (40 * i' + k)) (hB : pB L t c' r' i) : Rl N L t c' r' := by
  refine ⟨fun i' hi' => ?_, pF_eq (fun j => hc 5 0 j (Or.inl (by decide))) (fun j => hc 6 0 j (Or.inl (by decide))) (fun j _ => hr 20 j (by decide) (Or.inl (by decide))) (fun j => hr 40 j (by decide) (Or.inl (by decide))) h.2⟩
  obtain ⟨g1, g2, g3, g4⟩ := h.1 i' hi'
  have hk : ∀ k, okf k → r' k 0 i' = r k 0 i' := fun k hk => hr k i' (by unfold okf at hk; omega) (Or.inl (by unfold okf at hk; omega))
  refine ⟨pA_eq (fun j => hc 0 i' j (Or.inl (by decide))) hk g1, pV_eq hk g2, ?_, pQ_eq (hc 3 i' 1 (Or.inl (by decide))) (fun j => hc 4 i' j (Or.inl (by decide))) (hr 39 i' (by decide) (Or.inl (by decide))) (fun k _ => hr 38 _ (by decide) (Or.inl (by decide))) g4⟩
  by_cases e : i' = i
  · subst e
    exact hB
  · exact pB_eq (fun j => hc 1 i' j (Or.inr e)) (fun j => hc 2 i' j (Or.inr e)) ⟨hr 24 i' (by decide) (Or.inr e), hr 25 i' (by decide) (Or.inr e), hr 26 i' (by decide) (Or.inr e)⟩ (fun k hk => h30 i' k e hk) g3
/-- the reference's log with one number more -/
def lT0 (r : sh_S) (i : Nat) (x : Int32) : sh_S := (let r1 := sU r 24 0 i ((r 24 0 i) + 1); (let r2 := sU r1 25 0 i ((31 * (r1 25 0 i)) + x); (sU r2 30 0 ((((40 * (nI i)) + ((r2 24 0 i) - (r2 24 0 i) / 40 * 40)) : Int32).toNatClampNeg) x)))
def lT (L : Nat) (r : sh_S) (i : Nat) (x : Int32) : sh_S := if ((lT0 r i x) 24 0 i - nI L) ≤ (lT0 r i x) 26 0 i then lT0 r i x else sU (lT0 r i x) 26 0 i ((lT0 r i x) 24 0 i - nI L)
def dT (r : sh_S) (i : Nat) : sh_S := sU (sU r 29 0 i 0) 28 0 i 0
def fT (N L : Nat) (r : sh_S) (i : Nat) : sh_S := sU (sU (if r 31 0 i = 1 then s_T_follow N L r i else r) 34 0 i 0) 33 0 i 0
def fC (N L : Nat) (c : sh_S) (i : Nat) : sh_S := sU (sU (if c 0 i 7 = 1 then s_R_becomeFollower N L c i else c) 0 i 10 0) 0 i 9 0
theorem learn_T {N L : Nat} {r : sh_S} {i : Nat} {x : Int32} : s_T_learn N L r i x = ls_T_learn N L 9 (fT N L (dT (lT L r i x) i) i) i x 0 0 := by
  show (if ((lT0 r i x) 24 0 i - nI L) ≤ (lT0 r i x) 26 0 i then (if (dT (lT0 r i x) i) 31 0 i = 1 then ls_T_learn N L 9 (sU (sU (s_T_follow N L (dT (lT0 r i x) i) i) 34 0 i 0) 33 0 i 0) i x 0 0 else ls_T_learn N L 9 (sU (sU (dT (lT0 r i x) i) 34 0 i 0) 33 0 i 0) i x 0 0) else (if (dT (sU (lT0 r i x) 26 0 i ((lT0 r i x) 24 0 i - nI L)) i) 31 0 i = 1 then ls_T_learn N L 9 (sU (sU (s_T_follow N L (dT (sU (lT0 r i x) 26 0 i ((lT0 r i x) 24 0 i - nI L)) i) i) 34 0 i 0) 33 0 i 0) i x 0 0 else ls_T_learn N L 9 (sU (sU (dT (sU (lT0 r i x) 26 0 i ((lT0 r i x) 24 0 i - nI L)) i) 34 0 i 0) 33 0 i 0) i x 0 0)) = _
  unfold lT fT
  by_cases h1 : ((lT0 r i x) 24 0 i - nI L) ≤ (lT0 r i x) 26 0 i
  · simp only [if_pos h1]
    by_cases h2 : (dT (lT0 r i x) i) 31 0 i = 1
    · simp only [if_pos h2]
    · simp only [if_neg h2]
  · simp only [if_neg h1]
    by_cases h2 : (dT (sU (lT0 r i x) 26 0 i ((lT0 r i x) 24 0 i - nI L)) i) 31 0 i = 1
    · simp only [if_pos h2]
    · simp only [if_neg h2]
theorem learn_C {N L : Nat} {c : sh_S} {i : Nat} {x : Int32} : s_R_learn N L c i x = ls_L_drop N L 9 (fC N L (s_R_dropAccepted N L (s_G_append N L c i x) i) i) i x 0 0 := by
  show (if (s_R_dropAccepted N L (s_G_append N L c i x) i) 0 i 7 = 1 then ls_L_drop N L 9 (sU (sU (s_R_becomeFollower N L (s_R_dropAccepted N L (s_G_append N L c i x) i) i) 0 i 10 0) 0 i 9 0) i x 0 0 else ls_L_drop N L 9 (sU (sU (s_R_dropAccepted N L (s_G_append N L c i x) i) 0 i 10 0) 0 i 9 0) i x 0 0) = _
  unfold fC
  by_cases h2 : (s_R_dropAccepted N L (s_G_append N L c i x) i) 0 i 7 = 1
  · simp only [if_pos h2]
  · simp only [if_neg h2]
theorem Rl_app {N L t : Nat} {c r : sh_S} {i : Nat} {x : Int32} (hN : N ≤ 5) (hL : 1 ≤ L ∧ L ≤ 32) (ht : t ≤ 600) (hi : i < N) (h : Rl N L t c r) : Rl N L (t + 1) (s_G_append N L c i x) (lT L r i x) := by
  obtain ⟨a, b, e, g1, g2, g3, g4, g5, g6, g7, g8, g9, g10⟩ := (h.1 i hi).2.2.1
  have e24 : (lT0 r i x) 24 0 i = nI (a + 1) := by
    unfold lT0
    simp [sU_rd, g6, nI_1]
  have e26 : (lT0 r i x) 26 0 i = nI b := g9
  have e25 : (lT0 r i x) 25 0 i = 31 * r 25 0 i + x := by
    unfold lT0
    simp [sU_rd]
  have em : ((40 * (nI i)) + ((nI (a + 1)) - (nI (a + 1)) / 40 * 40) : Int32).toNatClampNeg = 40 * i + (a + 1) % 40 := by
    rw [show (40 : Int32) = nI 40 from rfl, pk_rem (by omega) (by decide) (by decide), pk_mul, nI_add, nI_clamp (by omega)]
  have e30 : ∀ j : Nat, (lT0 r i x) 30 0 j = if j = 40 * i + (a + 1) % 40 then x else r 30 0 j := by
    intro j
    unfold lT0
    simp [sU_rd, g6, nI_1, em]
  have hx0 : ∀ k j : Nat, ¬ k = 30 → ((¬ k = 24 ∧ ¬ k = 25) ∨ ¬ j = i) → (lT0 r i x) k 0 j = r k 0 j := by
    intro k j h1 h2
    unfold lT0
    try dsimp only
    rw [sU_rd, if_neg (by omega), sU_rd, if_neg (by omega), sU_rd, if_neg (by omega)]
  have cm : (nI (a + 1) &&& 31 : Int32).toNatClampNeg = (a + 1) % 32 := by
    rw [pk_andN (n := a + 1) (m := 31) (by omega) 5 (by decide)]
    have : (a + 1) % 2 ^ 5 = (a + 1) % 32 := rfl
    rw [this, nI_clamp (by omega)]
  have c2 : (s_G_append N L c i x) 1 i 2 = nI (a + 1) := by
    unfold s_G_append
    simp [sU_rd, g5, nI_1]
  have c3 : (s_G_append N L c i x) 1 i 3 = 31 * c 1 i 3 + x := by
    unfold s_G_append
    simp [sU_rd]
  have c4 : (s_G_append N L c i x) 1 i 4 = c 1 i 4 := by
    unfold s_G_append
    simp [sU_rd]
  have cn : ∀ j : Nat, (s_G_append N L c i x) 2 i j = if j = (a + 1) % 32 then x else c 2 i j := by
    intro j
    unfold s_G_append
    simp [sU_rd, g5, nI_1, cm]
  have ch : ∀ k i' j : Nat, (¬ k = 1 ∧ ¬ k = 2) ∨ ¬ i' = i → (s_G_append N L c i x) k i' j = c k i' j := by
    intro k i' j hk
    unfold s_G_append
    try dsimp only
    rw [sU_rd, if_neg (by omega), sU_rd, if_neg (by omega), sU_rd, if_neg (by omega)]
  have hnum : ∀ s : Nat, b < s → a + 1 < L + s → s ≤ a + 1 → (s_G_append N L c i x) 2 i (s % 32) = (lT0 r i x) 30 0 (40 * i + s % 40) := by
    intro s h1 h2 h3
    rw [cn, e30]
    by_cases hs : s = a + 1
    · subst hs
      rw [if_pos rfl, if_pos rfl]
    · rw [if_neg (by omega), if_neg (by omega)]
      exact g10 s h1 (by omega)
  unfold lT
  rw [e24, e26]
  by_cases hz : a + 1 ≤ L + b
  · have : nI (a + 1) - nI L ≤ nI b := by
      rcases Nat.lt_or_ge (a + 1) L with z | z
      · exact Int32.le_of_lt (Int32.lt_of_lt_of_le (pk_sneg (by omega) z) (nI_pos' (by omega)))
      · rw [pk_sub z]
        exact nI_le (by omega) (by omega)
    rw [if_pos this]
    refine Rl_B (i := i) (Rl_mono h) ch (fun k j h1 h2 => hx0 k j h1 (by omega)) (fun i' k h1 h2 => ?_) ⟨a + 1, b, e, by omega, by omega, g3, by omega, c2, e24, by rw [c3, e25, g7], by rw [c4, g8], e26, fun s h1 h2 => hnum s h1 (by omega) h2⟩
    rw [e30, if_neg (by omega)]
  · have hLa : L ≤ a + 1 := by omega
    have : ¬ nI (a + 1) - nI L ≤ nI b := by
      rw [pk_sub hLa]
      exact nI_ge (by omega) (by omega)
    rw [if_neg this, pk_sub hLa]
    refine Rl_B (i := i) (Rl_mono h) ch (fun k j h1 h2 => ?_) (fun i' k h1 h2 => ?_) ⟨a + 1, a + 1 - L, e, by omega, by omega, by omega, by omega, c2, e24, ?_, by rw [c4, g8], ?_, fun s h1 h2 => ?_⟩
    · rw [sU_rd, if_neg (by omega)]
      exact hx0 k j h1 (by omega)
    · rw [sU_rd, if_neg (by omega), e30, if_neg (by omega)]
    · rw [c3, g7]
      exact e25.symm
    · rw [sU_rd, if_pos ⟨rfl, rfl, rfl⟩]
    · exact hnum s (by omega) (by omega) h2
theorem Rl_dropA {N L t : Nat} {c r : sh_S} {i : Nat} (hi : i < N) (h : Rl N L t c r) : Rl N L t (s_R_dropAccepted N L c i) (dT r i) := by
  have hp := h.1 i hi
  obtain ⟨⟨⟨a1, a2, a3, a4, a5, a6, a7, a8, a9⟩, a10⟩, ⟨hv1, hv4, v10, v11⟩, hB, hQ⟩ := hp
  refine Rl_A (i := i) h (oC_U (oC_U oC_0)) (oR_U (okd rfl) (oR_U (okd rfl) oR_0)) ⟨⟨a1, a2, ?_, ?_, a5, a6, a7, a8, a9⟩, a10⟩ ⟨hv1, hv4, Or.inl ⟨?_, ?_⟩, v11⟩
  · unfold s_R_dropAccepted dT
    simp [sU_rd]
  · unfold s_R_dropAccepted dT
    simp [sU_rd]
  · unfold dT
    simp [sU_rd]
  · unfold dT
    simp [sU_rd]
theorem Rl_00 {N L t : Nat} {c r : sh_S} {i : Nat} (hi : i < N) (h : Rl N L t c r) : Rl N L t (sU (sU c 0 i 10 0) 0 i 9 0) (sU (sU r 34 0 i 0) 33 0 i 0) := by
  have hp := h.1 i hi
  obtain ⟨⟨⟨a1, a2, a3, a4, a5, a6, a7, a8, a9⟩, a10⟩, ⟨hv1, ⟨v4, v5, v6, v7, v8, v9⟩, v10, v11⟩, hB, hQ⟩ := hp
  have e33 : (sU (sU r 34 0 i 0) 33 0 i 0) 33 0 i = 0 := by simp [sU_rd]
  have e34 : (sU (sU r 34 0 i 0) 33 0 i 0) 34 0 i = 0 := by simp [sU_rd]
  refine Rl_A (i := i) h (oC_U (oC_U oC_0)) (oR_U (okd rfl) (oR_U (okd rfl) oR_0)) ⟨⟨a1, a2, a3, a4, a5, a6, ?_, ?_, a9⟩, a10⟩ ⟨hv1, ⟨v4, v5, fun z => ⟨(v6 z).1, e33, e34⟩, fun _ _ => e33, ⟨0, Nat.two_pow_pos N, e33⟩, by rw [e34]; decide⟩, v10, v11⟩
  · rw [e33]
    simp [sU_rd]
  · rw [e34]
    simp [sU_rd]
theorem Rl_fix {N L t : Nat} {c r : sh_S} {i : Nat} (hi : i < N) (h : Rl N L t c r) : Rl N L t (fC N L c i) (fT N L r i) := by
  obtain ⟨⟨⟨a1, a2, a3, a4, a5, -⟩, -⟩, -⟩ := h.1 i hi
  unfold fC fT
  rw [a5]
  by_cases z : r 31 0 i = 1
  · rw [if_pos z, if_pos z]
    exact Rl_00 hi (Rl_follow hi h)
  · rw [if_neg z, if_neg z]
    exact Rl_00 hi h
theorem dr_loop {N L i q : Nat} {x : Int32} (hi : i < 5) (hq : q ≤ 8) : ∀ (n k p : Nat) (c r : sh_S), p ≤ k → k ≤ q → q + 1 ≤ k + n → c 3 i 1 = nI q → r 39 0 i = nI q → (∀ k : Nat, k < q → c 4 i k = r 38 0 (8 * i + k) ∧ 0 < r 38 0 (8 * i + k)) →
    pQ (ls_L_drop N L n c i x (nI p) (nI k)) (ls_T_learn N L n r i x (nI p) (nI k)) i ∧ (∀ k' i' j : Nat, (¬ k' = 3 ∧ ¬ k' = 4) ∨ ¬ i' = i → (ls_L_drop N L n c i x (nI p) (nI k)) k' i' j = c k' i' j) ∧ (∀ k' j : Nat, ¬ k' = 38 → (¬ k' = 39 ∨ ¬ j = i) → (ls_T_learn N L n r i x (nI p) (nI k)) k' 0 j = r k' 0 j) ∧ (∀ i' k' : Nat, ¬ i' = i → k' < 8 → (ls_T_learn N L n r i x (nI p) (nI k)) 38 0 (8 * i' + k') = r 38 0 (8 * i' + k')) := by
  intro n
  induction n with
  | zero => intro k p c r h1 h2 h3; omega
  | succ n ih =>
    intro k p c r h1 h2 h3 hc hr hv
    unfold ls_L_drop ls_T_learn
    rw [hc, hr]
    by_cases hz : nI q ≤ nI k
    · simp only [if_pos hz]
      refine ⟨⟨p, by omega, by simp [sU_rd], by simp [sU_rd], fun k' hk' => hv k' (by omega)⟩, fun k' i' j hk => ?_, fun k' j h1 h2 => ?_, fun i' k' h1 h2 => rfl⟩
      · rw [sU_rd, if_neg (by omega)]
      · rw [sU_rd, if_neg (by omega)]
    · simp only [if_neg hz]
      have hk : k < q := Nat.lt_of_not_le fun z => hz (nI_le z (by omega))
      have e1 : (nI k).toNatClampNeg = k := nI_clamp (by omega)
      have e2 : (nI p).toNatClampNeg = p := nI_clamp (by omega)
      have e3 : ∀ m : Nat, m < 8 → (8 * nI i + nI m : Int32).toNatClampNeg = 8 * i + m := fun m hm => by
        rw [show (8 : Int32) = nI 8 from rfl, pk_mul, nI_add, nI_clamp (by omega)]
      rw [e1, e2, e3 k (by omega), e3 p (by omega), nI_1, nI_1]
      obtain ⟨w1, w2⟩ := hv k hk
      rw [w1]
      by_cases hx : r 38 0 (8 * i + k) = x
      · simp only [if_pos hx]
        exact ih (k + 1) p c r (by omega) hk (by omega) hc hr hv
      · simp only [if_neg hx]
        have hv2 : ∀ k' : Nat, k' < q → (sU c 4 i p (r 38 0 (8 * i + k))) 4 i k' = (sU r 38 0 (8 * i + p) (r 38 0 (8 * i + k))) 38 0 (8 * i + k') ∧ 0 < (sU r 38 0 (8 * i + p) (r 38 0 (8 * i + k))) 38 0 (8 * i + k') := by
          intro k' hk'
          rw [sU_rd, sU_rd]
          by_cases z : k' = p
          · rw [if_pos ⟨rfl, z, rfl⟩, if_pos ⟨rfl, by omega, rfl⟩]
            exact ⟨rfl, w2⟩
          · rw [if_neg (by omega), if_neg (by omega)]
            exact hv k' hk'
        obtain ⟨i1, i2, i3, i4⟩ := ih (k + 1) (p + 1) (sU c 4 i p (r 38 0 (8 * i + k))) (sU r 38 0 (8 * i + p) (r 38 0 (8 * i + k))) (by omega) hk (by omega) hc hr hv2
        refine ⟨i1, fun k' i' j hk => ?_, fun k' j h1 h2 => ?_, fun i' k' h1 h2 => ?_⟩
        · rw [i2 k' i' j hk, sU_rd, if_neg (by omega)]
        · rw [i3 k' j h1 h2, sU_rd, if_neg (by omega)]
        · rw [i4 i' k' h1 h2, sU_rd, if_neg (by omega)]
theorem Rl_learn {N L t : Nat} {c r : sh_S} {i : Nat} {x : Int32} (hN : N ≤ 5) (hL : 1 ≤ L ∧ L ≤ 32) (ht : t ≤ 600) (hi : i < N) (h : Rl N L t c r) : Rl N L (t + 1) (s_R_learn N L c i x) (s_T_learn N L r i x) ∧ (r 31 0 i = 2 → (s_T_learn N L r i x) 31 0 i = 2) := by
  rw [learn_T, learn_C]
  have k := Rl_fix hi (Rl_dropA hi (Rl_app (x := x) hN hL ht hi h))
  obtain ⟨q, g1, g2, g3, g4⟩ := (k.1 i hi).2.2.2
  obtain ⟨i1, i2, i3, i4⟩ := dr_loop (N := N) (L := L) (x := x) (by omega : i < 5) g1 9 0 0 _ _ (Nat.le_refl _) (Nat.zero_le _) (by omega) g2 g3 g4
  refine ⟨Rl_Q (i := i) k i2 i3 i4 i1, fun z => ?_⟩
  refine (i3 31 i (by decide) (Or.inl (by decide))).trans ?_
  have e : (dT (lT L r i x) i) 31 0 i = 2 := by
    have e0 : (lT0 r i x) 31 0 i = 2 := z
    unfold lT
    split
    · exact e0
    · exact e0
  unfold fT
  rw [e, if_neg (by decide)]
  exact e
theorem Rl_state {N L t : Nat} {c r : sh_S} {i s : Nat} {y : Int32} (hi : i < N) (hs : s ≤ t) (h : Rl N L t c r) (e4 : c 7 0 4 = nI s) (e5 : c 7 0 5 = y) : Rl N L t (s_P_onState N L c i) (s_T_gotState N L r i (nI s) y) := by
  obtain ⟨a, k1, k2, k3, k4⟩ := ix_eq (h.1 i hi).2.2.1
  unfold s_P_onState s_T_gotState s_G_jump
  dsimp only
  rw [e4, e5, k2, k3]
  by_cases hz : nI s ≤ nI a
  · rw [if_pos hz, if_pos hz]
    exact h
  · rw [if_neg hz, if_neg hz]
    have k : Rl N L t (sU (sU (sU c 1 i 2 (nI s)) 1 i 3 y) 1 i 4 (nI s)) (sU (sU (sU r 24 0 i (nI s)) 25 0 i y) 26 0 i (nI s)) := by
      refine Rl_B (i := i) h (fun k i' j hk => ?_) (fun k j h1 h2 => ?_) (fun i' k h1 h2 => rfl) ⟨s, s, s, hs, Nat.le_refl _, Nat.le_refl _, Or.inl ⟨by omega, rfl⟩, by simp [sU_rd], by simp [sU_rd], by simp [sU_rd], by simp [sU_rd], by simp [sU_rd], fun s h1 h2 => by omega⟩
      · rw [sU_rd, if_neg (by omega), sU_rd, if_neg (by omega), sU_rd, if_neg (by omega)]
      · rw [sU_rd, if_neg (by omega), sU_rd, if_neg (by omega), sU_rd, if_neg (by omega)]
    exact Rl_follow hi (Rl_dropA hi k)
