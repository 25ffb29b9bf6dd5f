/-! lose, twice -/
theorem rm_loop {N L q : Nat} {x : Int32} (hq : q ≤ 199) : ∀ (n k : Nat) (r : sh_S), r 20 0 21 = nI q → k ≤ 7 * q → 7 * q + 1 ≤ k + n → ∀ j : Nat, (ls_T_remove N L n r x (nI k)) 40 0 j = if k ≤ j ∧ j < 7 * q then r 40 0 (j + 7) else r 40 0 j := by
  intro n
  induction n with
  | zero => intro k r h1 h2 h3; omega
  | succ n ih =>
    intro k r h1 h2 h3 j
    unfold ls_T_remove
    have e7 : 7 * r 20 0 21 = nI (7 * q) := by rw [h1, n7, pk_mul]
    rw [e7]
    by_cases hz : nI (7 * q) ≤ nI k
    · rw [if_pos hz]
      have : 7 * q ≤ k := (nI_leI (by omega) (by omega)).mp hz
      rw [if_neg (by omega)]
    · rw [if_neg hz]
      have hk : k < 7 * q := Nat.lt_of_not_le fun z => hz (nI_le z (by omega))
      try dsimp only
      have ec : (nI k).toNatClampNeg = k := nI_clamp (by omega)
      have ec7 : (nI k + 7 : Int32).toNatClampNeg = k + 7 := by rw [n7, nI_add, nI_clamp (by omega)]
      rw [ec, ec7, nI_1, ih (k + 1) (sU r 40 0 k (r 40 0 (k + 7))) h1 hk (by omega) j, sU_rd, sU_rd]
      by_cases hj : j = k
      · subst hj
        rw [if_neg (by omega), if_pos ⟨rfl, rfl, rfl⟩, if_pos (by omega)]
      · rw [if_neg (show ¬ (40 = 40 ∧ j = k ∧ 0 = 0) by omega)]
        by_cases hj2 : k + 1 ≤ j ∧ j < 7 * q
        · rw [if_pos hj2, if_neg (by omega), if_pos (by omega)]
        · rw [if_neg hj2, if_neg (by omega)]
theorem nbeq40 {k : Nat} (h : ¬ k = 40) : Nat.beq k 40 = false := by
  cases hb : Nat.beq k 40 with
  | false => rfl
  | true => exact absurd (Nat.eq_of_beq_eq_true hb) h
/-- the rest of the world behind a change of the flight alone -/
theorem Rl_F {N L t : Nat} {c c' r r' : sh_S} (h : Rl N L t c r) (hc : ∀ k i j : Nat, k < 5 → c' k i j = c k i j) (hr : ∀ k j : Nat, 23 ≤ k → k < 40 → r' k 0 j = r k 0 j) (hF : pF N t c' r') : Rl N L t c' r' := by
  refine ⟨fun i hi => ?_, hF⟩
  obtain ⟨g1, g2, g3, g4⟩ := h.1 i hi
  have hk : ∀ k, okf k → r' k 0 i = r k 0 i := fun k hk => hr k i (by unfold okf at hk; omega) (by unfold okf at hk; omega)
  exact ⟨pA_eq (fun j => hc 0 i j (by decide)) hk g1, pV_eq hk g2, pB_eq (fun j => hc 1 i j (by decide)) (fun j => hc 2 i j (by decide)) ⟨hr 24 i (by decide) (by decide), hr 25 i (by decide) (by decide), hr 26 i (by decide) (by decide)⟩ (fun k _ => hr 30 _ (by decide) (by decide)) g3, pQ_eq (hc 3 i 1 (by decide)) (fun j => hc 4 i j (by decide)) (hr 39 i (by decide) (by decide)) (fun k _ => hr 38 _ (by decide) (by decide)) g4⟩
theorem sA_rd (S : sh_S) (k i : Nat) (f : Nat → Int32) (k' i' : Nat) : sA S k i f k' i' = if k' = k ∧ i' = i then f else S k' i' := by
  by_cases h : k' = k ∧ i' = i
  · obtain ⟨rfl, rfl⟩ := h
    rw [if_pos ⟨rfl, rfl⟩, sA_same]
  · rw [if_neg h, sA_ne _ _ h]
theorem Rl_remove {N L t j : Nat} {c r : sh_S} (h : Rl N L t c r) (hj : ∃ q : Nat, q ≤ 200 ∧ r 20 0 21 = nI q ∧ j < q) : Rl N L t (s_F_remove N L c (nI j)) (s_T_remove N L r (nI j)) := by
  obtain ⟨q, g1, g2, g3, g4, g5, g6, g7⟩ := h.2
  obtain ⟨q', k1, k2, k3⟩ := hj
  have hqq : q' = q := (nI_eq (by omega) (by omega)).mp (k2.symm.trans g3)
  subst hqq
  unfold s_F_remove s_T_remove v_F_has
  have n1 : ¬ nI j < 0 := nI_pos (by omega)
  have n2 : ¬ c 5 0 1 ≤ nI j := by rw [g2]; exact nI_ge k3 (by omega)
  rw [if_neg n1, if_neg n2, if_neg (show ¬ (1 : Int32) = 0 by decide)]
  dsimp only
  have e1 : (nI j + 1) * 7 = nI ((j + 1) * 7) := by rw [nI_1, n7, pk_mul]
  have e2 : nI j * 7 = nI (j * 7) := by rw [n7, pk_mul]
  have e2' : 7 * nI j = nI (7 * j) := by rw [n7, pk_mul]
  have e3 : (c 5 0 1 - nI j - 1) * 7 = nI ((q' - j - 1) * 7) := by
    rw [g2, pk_sub (by omega), show (1 : Int32) = nI 1 from rfl, pk_sub (by omega), n7, pk_mul]
  rw [e1, e2, e2', e3, nI_clamp (by omega), nI_clamp (by omega), nI_clamp (by omega)]
  have hs : (sU r 20 0 21 (r 20 0 21 - 1)) 20 0 21 = nI (q' - 1) := by
    show r 20 0 21 - 1 = _
    rw [g3, show (1 : Int32) = nI 1 from rfl, pk_sub (by omega)]
  have hM := rm_loop (N := N) (L := L) (x := nI j) (q := q' - 1) (by omega) 1400 (7 * j) (sU r 20 0 21 (r 20 0 21 - 1)) hs (by omega) (by omega)
  have hX : ∀ k m : Nat, ¬ k = 40 → (ls_T_remove N L 1400 (sU r 20 0 21 (r 20 0 21 - 1)) (nI j) (nI (7 * j))) k 0 m = (sU r 20 0 21 (r 20 0 21 - 1)) k 0 m := fun k m hk => x24_lsremove k (nbeq40 hk) 1400 _ _ m
  have hM2 : ∀ m : Nat, m < 7 * (q' - 1) → (ls_T_remove N L 1400 (sU r 20 0 21 (r 20 0 21 - 1)) (nI j) (nI (7 * j))) 40 0 m = if 7 * j ≤ m then r 40 0 (m + 7) else r 40 0 m := by
    intro m hm
    rw [hM m]
    by_cases z : 7 * j ≤ m
    · rw [if_pos ⟨z, hm⟩, if_pos z]
      rfl
    · rw [if_neg (fun w => z w.1), if_neg z]
      rfl
  refine Rl_F h (fun k i m hk => ?_) (fun k m hk1 hk2 => ?_) ⟨q' - 1, by omega, ?_, ?_, ?_, ?_, ?_, ?_⟩
  · rw [sU_rd, if_neg (by omega), sA_rd, if_neg (by omega)]
  · rw [hX k m (by omega), sU_rd, if_neg (by omega)]
  · show c 5 0 1 - 1 = _
    rw [g2, show (1 : Int32) = nI 1 from rfl, pk_sub (by omega)]
  · rw [hX 20 21 (by decide)]
    exact hs
  · rw [hX 20 22 (by decide)]
    exact g4
  · rw [hX 20 23 (by decide)]
    exact g5
  · intro m hm
    rw [hM2 m hm]
    show va_cpy (c 6 0) (c 6 0) ((j + 1) * 7) (j * 7) ((q' - j - 1) * 7) m = _
    unfold va_cpy
    by_cases z : 7 * j ≤ m
    · rw [if_pos z, if_pos (by omega), show (j + 1) * 7 + (m - j * 7) = m + 7 by omega]
      exact g6 _ (by omega)
    · rw [if_neg z, if_neg (by omega)]
      exact g6 _ (by omega)
  · intro m hm
    rw [hM2 _ (by omega), hM2 _ (by omega), hM2 _ (by omega), hM2 _ (by omega), hM2 _ (by omega), hM2 _ (by omega), hM2 _ (by omega)]
    by_cases z : j ≤ m
    · rw [if_pos (by omega), if_pos (by omega), if_pos (by omega), if_pos (by omega), if_pos (by omega), if_pos (by omega), if_pos (by omega)]
      have := g7 (m + 1) (by omega)
      rw [show 7 * (m + 1) = 7 * m + 7 by omega] at this
      exact this
    · rw [if_neg (by omega), if_neg (by omega), if_neg (by omega), if_neg (by omega), if_neg (by omega), if_neg (by omega), if_neg (by omega)]
      exact g7 m (by omega)
theorem q_lose {N L t : Nat} {c r : sh_S} (x : Int32) (h : Rl N L t c r) : v_P_lose N L c x = v_T_lose N L r x ∧ Rl N L (t + 1) (s_P_lose N L c x) (s_T_lose N L r x) := by
  obtain ⟨q, g1, g2, g3, g4, g5, g6, g7⟩ := h.2
  unfold v_P_lose s_P_lose v_T_lose s_T_lose v_F_has
  dsimp only
  have s21 : sU r 20 0 0 0 20 0 21 = nI q := g3
  rw [s21, g2]
  by_cases h1 : x < 0
  · simp only [if_pos h1, ↓reduceIte]
    first | exact ⟨trivial, Rl_0 h⟩ | exact Rl_0 h
  · simp only [if_neg h1]
    by_cases h2 : nI q ≤ x
    · simp only [if_pos h2, if_neg (Int32.not_lt.mpr h2), ↓reduceIte]
      first | exact ⟨trivial, Rl_0 h⟩ | exact Rl_0 h
    · simp only [if_neg h2, if_pos (Int32.not_le.mp h2), if_neg (show ¬ (1 : Int32) = 0 by decide)]
      obtain ⟨j, hj, rfl, -⟩ := pk_mu h1 h2 (by omega)
      exact ⟨trivial, Rl_mono (Rl_remove (Rl_thr (v := 0) h) ⟨q, g1, g3, hj⟩)⟩
theorem tw_loop {N L q jj : Nat} (hq : q < 200) (hjj : jj < q) : ∀ (n k : Nat) (r : sh_S), r 20 0 21 = nI q → k ≤ 7 → 8 ≤ k + n → (∀ j : Nat, (ls_T_twice N L n r (nI jj) (nI k)) 40 0 j = if 7 * q + k ≤ j ∧ j < 7 * q + 7 then r 40 0 (7 * jj + (j - 7 * q)) else r 40 0 j) ∧ (∀ f j : Nat, ¬ f = 40 → (ls_T_twice N L n r (nI jj) (nI k)) f 0 j = if f = 20 ∧ j = 21 then nI (q + 1) else r f 0 j) ∧ lv_T_twice N L n r (nI jj) (nI k) = 1 := by
  intro n
  induction n with
  | zero => intro k r h1 h2 h3; omega
  | succ n ih =>
    intro k r h1 h2 h3
    unfold ls_T_twice lv_T_twice
    by_cases hz : (7 : Int32) ≤ nI k
    · have : 7 ≤ k := (nI_leI (a := 7) (by decide) (by omega)).mp hz
      rw [if_pos hz, if_pos hz]
      try dsimp only
      refine ⟨fun j => ?_, fun f j hf => ?_, rfl⟩
      · rw [if_neg (by omega)]
        rfl
      · rw [sU_rd, h1, nI_1]
        by_cases w : f = 20 ∧ j = 21
        · rw [if_pos ⟨w.1, w.2, rfl⟩, if_pos w]
        · rw [if_neg (fun v => w ⟨v.1, v.2.1⟩), if_neg w]
    · have hk : k < 7 := Nat.lt_of_not_le fun z => hz (nI_le (a := 7) z (by omega))
      rw [if_neg hz, if_neg hz]
      try dsimp only
      have e1 : (7 * r 20 0 21 + nI k : Int32).toNatClampNeg = 7 * q + k := by rw [h1]; exact nI_d7 (by omega) hk
      have e2 : (7 * nI jj + nI k : Int32).toNatClampNeg = 7 * jj + k := nI_d7 (by omega) hk
      rw [e1, e2, nI_1]
      obtain ⟨i1, i2, i3⟩ := ih (k + 1) (sU r 40 0 (7 * q + k) (r 40 0 (7 * jj + k))) h1 hk (by omega)
      refine ⟨fun j => ?_, fun f j hf => ?_, i3⟩
      · rw [i1 j, sU_rd, sU_rd]
        by_cases w : j = 7 * q + k
        · subst w
          rw [if_neg (by omega), if_pos ⟨rfl, rfl, rfl⟩, if_pos (by omega), show 7 * q + k - 7 * q = k by omega]
        · rw [if_neg (show ¬ (40 = 40 ∧ j = 7 * q + k ∧ 0 = 0) by omega)]
          by_cases v : 7 * q + (k + 1) ≤ j ∧ j < 7 * q + 7
          · rw [if_pos v, if_neg (by omega), if_pos (by omega)]
          · rw [if_neg v, if_neg (by omega)]
      · rw [i2 f j hf, sU_rd, if_neg (show ¬ (f = 40 ∧ j = 7 * q + k ∧ 0 = 0) from fun v => hf v.1)]
theorem q_twice {N L t : Nat} {c r : sh_S} (x : Int32) (h : Rl N L t c r) : v_P_twice N L c x = v_T_twice N L r x ∧ Rl N L (t + 1) (s_P_twice N L c x) (s_T_twice N L r x) := by
  obtain ⟨q, g1, g2, g3, g4, g5, g6, g7⟩ := h.2
  unfold v_P_twice s_P_twice v_T_twice s_T_twice v_F_repeat s_F_repeat v_F_has
  dsimp only
  have s21 : sU r 20 0 0 0 20 0 21 = nI q := g3
  rw [s21, g2]
  by_cases h1 : x < 0
  · simp only [if_pos h1, ↓reduceIte]
    first | exact ⟨trivial, Rl_0 h⟩ | exact Rl_0 h
  · simp only [if_neg h1]
    by_cases h2 : nI q ≤ x
    · simp only [if_pos h2, ↓reduceIte]
      first | exact ⟨trivial, Rl_0 h⟩ | exact Rl_0 h
    · simp only [if_neg h2, if_neg (show ¬ (1 : Int32) = 0 by decide)]
      obtain ⟨j, hj, rfl, -⟩ := pk_mu h1 h2 (by omega)
      by_cases hf : q = 200
      · subst hf
        simp only [if_neg (show ¬ nI 200 < 200 by decide), if_pos (show nI 200 = 200 from rfl)]
        exact ⟨trivial, Rl_0 h⟩
      · have hq : q < 200 := by omega
        simp only [if_pos (show nI q < 200 from nI_lt (b := 200) hq (by decide)), if_neg (show ¬ nI q = 200 from fun z => hf ((nI_eq (b := 200) (by omega) (by decide)).mp z))]
        obtain ⟨i1, i2, i3⟩ := tw_loop (N := N) (L := L) hq hj 8 0 (sU r 20 0 0 0) g3 (by decide) (by decide)
        refine ⟨i3.symm, Rl_mono ?_⟩
        have e2 : (nI j * 7 : Int32).toNatClampNeg = 7 * j := nI_c70 (by omega)
        have e3 : (nI q * 7 : Int32).toNatClampNeg = 7 * q := nI_c70 (by omega)
        have e4 : (7 : Int32).toNatClampNeg = 7 := by decide
        rw [e2, e3, e4]
        have hM2 : ∀ m : Nat, m < 7 * (q + 1) → (ls_T_twice N L 8 (sU r 20 0 0 0) (nI j) 0) 40 0 m = if 7 * q ≤ m then r 40 0 (7 * j + (m - 7 * q)) else r 40 0 m := by
          intro m hm
          refine (i1 m).trans ?_
          by_cases z : 7 * q ≤ m
          · rw [if_pos (by omega), if_pos z]
            rfl
          · rw [if_neg (by omega), if_neg z]
            rfl
        refine Rl_F (Rl_thr (v := 0) h) (fun k i m hk => ?_) (fun k m hk1 hk2 => ?_) ⟨q + 1, by omega, ?_, ?_, ?_, ?_, ?_, ?_⟩
        · rw [sU_rd, if_neg (by omega), sA_rd, if_neg (by omega)]
        · exact (i2 k m (by omega)).trans (if_neg (by omega))
        · show c 5 0 1 + 1 = _
          rw [g2, nI_1]
        · exact (i2 20 21 (by decide)).trans (if_pos ⟨rfl, rfl⟩)
        · exact g4.trans ((i2 20 22 (by decide)).trans (if_neg (by decide))).symm
        · exact g5.trans ((i2 20 23 (by decide)).trans (if_neg (by decide))).symm
        · intro m hm
          rw [hM2 m hm]
          show va_cpy (c 6 0) (c 6 0) (7 * j) (7 * q) 7 m = _
          unfold va_cpy
          by_cases z : 7 * q ≤ m
          · rw [if_pos z, if_pos (by omega)]
            exact g6 _ (by omega)
          · rw [if_neg z, if_neg (by omega)]
            exact g6 _ (by omega)
        · intro m hm
          rw [hM2 _ (by omega), hM2 _ (by omega), hM2 _ (by omega), hM2 _ (by omega), hM2 _ (by omega), hM2 _ (by omega), hM2 _ (by omega)]
          rcases Nat.lt_or_ge m q with z | z
          · rw [if_neg (by omega), if_neg (by omega), if_neg (by omega), if_neg (by omega), if_neg (by omega), if_neg (by omega), if_neg (by omega)]
            exact g7 m z
          · have : m = q := by omega
            subst this
            rw [if_pos (by omega), if_pos (by omega), if_pos (by omega), if_pos (by omega), if_pos (by omega), if_pos (by omega), if_pos (by omega)]
            have := g7 j hj
            rw [show 7 * m - 7 * m = 0 by omega, show 7 * m + 1 - 7 * m = 1 by omega, show 7 * m + 2 - 7 * m = 2 by omega, show 7 * m + 3 - 7 * m = 3 by omega, show 7 * m + 4 - 7 * m = 4 by omega, show 7 * m + 5 - 7 * m = 5 by omega, show 7 * m + 6 - 7 * m = 6 by omega]
            exact this
