/-! THE RELATION between the class's state c and the reference's state r -/
theorem sU_rd (S : sh_S) (k i j : Nat) (v : Int32) (k' i' j' : Nat) : sU S k i j v k' i' j' = if k' = k ∧ j' = j ∧ i' = i then v else S k' i' j' := by
  unfold sU
  cases h1 : Nat.beq k' k with
  | false =>
    have : ¬ k' = k := fun z => by rw [z, Nat.beq_refl] at h1; cases h1
    simp [this]
  | true =>
    have e1 := Nat.eq_of_beq_eq_true h1
    cases h2 : Nat.beq j' j with
    | false =>
      have : ¬ j' = j := fun z => by rw [z, Nat.beq_refl] at h2; cases h2
      simp [this]
    | true =>
      have e2 := Nat.eq_of_beq_eq_true h2
      cases h3 : Nat.beq i' i with
      | false =>
        have : ¬ i' = i := fun z => by rw [z, Nat.beq_refl] at h3; cases h3
        simp [this]
      | true =>
        have e3 := Nat.eq_of_beq_eq_true h3
        simp [e1, e2, e3]
/-- a number and its ballot: both there, or none -/
def pr (n b : Int32) : Prop := (n = 0 ∧ b = 0) ∨ (0 < n ∧ 0 < b)
def pA (c r : sh_S) (i : Nat) : Prop := (c 0 i 3 = r 23 0 i ∧ c 0 i 4 = r 27 0 i ∧ c 0 i 5 = r 28 0 i ∧ c 0 i 6 = r 29 0 i ∧ c 0 i 7 = r 31 0 i ∧ c 0 i 8 = r 32 0 i ∧ c 0 i 9 = r 33 0 i ∧ c 0 i 10 = r 34 0 i ∧ c 0 i 11 = r 37 0 i) ∧ (r 31 0 i = 1 → c 0 i 12 = r 36 0 i ∧ c 0 i 13 = r 35 0 i)
def pV (N t : Nat) (r : sh_S) (i : Nat) : Prop := ((r 23 0 i = 0 ∨ r 23 0 i = 1) ∧ (∃ p : Nat, p ≤ 5 * t + 5 ∧ r 27 0 i = nI p) ∧ (∃ p : Nat, p ≤ 5 * t + 5 ∧ r 37 0 i = nI p)) ∧ ((∃ p : Nat, p ≤ 5 * t + 5 ∧ r 32 0 i = nI p ∧ (¬ r 31 0 i = 0 → 0 < p)) ∧ (r 31 0 i = 0 ∨ r 31 0 i = 1 ∨ r 31 0 i = 2) ∧ (r 31 0 i = 0 → r 32 0 i = 0 ∧ r 33 0 i = 0 ∧ r 34 0 i = 0) ∧ (r 31 0 i = 2 → r 34 0 i = 0 → r 33 0 i = 0) ∧ (∃ w : Nat, w < 2 ^ N ∧ r 33 0 i = nI w) ∧ ¬ r 34 0 i < 0) ∧ pr (r 29 0 i) (r 28 0 i) ∧ (r 31 0 i = 1 → pr (r 35 0 i) (r 36 0 i))
def pB (L t : Nat) (c r : sh_S) (i : Nat) : Prop := ∃ a b e : Nat, a ≤ t ∧ b ≤ a ∧ e ≤ b ∧ (a ≤ e + L ∧ b = e ∨ e ≤ a - L ∧ L ≤ a ∧ b = a - L) ∧ c 1 i 2 = nI a ∧ r 24 0 i = nI a ∧ c 1 i 3 = r 25 0 i ∧ c 1 i 4 = nI e ∧ r 26 0 i = nI b ∧ ∀ s : Nat, b < s → s ≤ a → c 2 i (s % 32) = r 30 0 (40 * i + s % 40)
def pQ (c r : sh_S) (i : Nat) : Prop := ∃ q : Nat, q ≤ 8 ∧ c 3 i 1 = nI q ∧ r 39 0 i = nI q ∧ ∀ k : Nat, k < q → c 4 i k = r 38 0 (8 * i + k) ∧ 0 < r 38 0 (8 * i + k)
/-- a message that can be in flight -/
def pM (N t : Nat) (m0 m1 m2 m3 m4 m5 m6 : Int32) : Prop := (∃ i : Nat, i < N ∧ m1 = nI i) ∧ (∃ i : Nat, i < N ∧ m2 = nI i) ∧ (∃ p : Nat, p ≤ 5 * t + 5 ∧ m3 = nI p) ∧ (∃ s : Nat, s ≤ t + 1 ∧ m4 = nI s ∧ (m0 = 8 → s ≤ t)) ∧ (∃ d : Nat, 1 ≤ d ∧ d ≤ 8 ∧ m0 = nI d) ∧ (m0 = 3 → 0 < m5 ∧ 0 < m3) ∧ (m0 = 2 → pr m5 m6)
def pF (N t : Nat) (c r : sh_S) : Prop := ∃ q : Nat, q ≤ 200 ∧ c 5 0 1 = nI q ∧ r 20 0 21 = nI q ∧ c 5 0 2 = r 20 0 22 ∧ c 5 0 3 = r 20 0 23 ∧ (∀ k : Nat, k < 7 * q → c 6 0 k = r 40 0 k) ∧ ∀ j : Nat, j < q → pM N t (r 40 0 (7 * j)) (r 40 0 (7 * j + 1)) (r 40 0 (7 * j + 2)) (r 40 0 (7 * j + 3)) (r 40 0 (7 * j + 4)) (r 40 0 (7 * j + 5)) (r 40 0 (7 * j + 6))
def pR (N L t : Nat) (c r : sh_S) (i : Nat) : Prop := pA c r i ∧ pV N t r i ∧ pB L t c r i ∧ pQ c r i
def Rl (N L t : Nat) (c r : sh_S) : Prop := (∀ i, i < N → pR N L t c r i) ∧ pF N t c r
/-- sending keeps the replicas as they are -/
theorem pR_send {N L t : Nat} {c r : sh_S} {i : Nat} {x1 x2 x3 x4 x5 x6 x7 : Int32} (h : pR N L t c r i) : pR N L t (s_F_send N L c x1 x2 x3 x4 x5 x6 x7) (s_T_send N L r x1 x2 x3 x4 x5 x6 x7) i := by
  unfold s_F_send s_T_send
  dsimp only
  split
  · split
    · exact h
    · exact h
  · split
    · exact h
    · exact h
theorem nI_c7 {q k : Nat} (hq : q ≤ 200) (hk : k < 7) : (nI q * 7 + nI k).toNatClampNeg = 7 * q + k := by
  rw [n7, pk_mul, nI_add, nI_clamp (by omega)]
  omega
theorem nI_c70 {q : Nat} (hq : q ≤ 200) : (nI q * 7).toNatClampNeg = 7 * q := by
  rw [n7, pk_mul, nI_clamp (by omega)]
  omega
theorem nI_d7 {q k : Nat} (hq : q ≤ 200) (hk : k < 7) : (7 * nI q + nI k).toNatClampNeg = 7 * q + k := by
  rw [n7, pk_mul, nI_add, nI_clamp (by omega)]
theorem nI_d70 {q : Nat} (hq : q ≤ 200) : (7 * nI q).toNatClampNeg = 7 * q := by
  rw [n7, pk_mul, nI_clamp (by omega)]
/-- the seven cells of a new message, in an array -/
def w7 (S : sh_S) (k q : Nat) (x1 x2 x3 x4 x5 x6 x7 : Int32) : sh_S := sU (sU (sU (sU (sU (sU (sU S k 0 (7 * q) x1) k 0 (7 * q + 1) x2) k 0 (7 * q + 2) x3) k 0 (7 * q + 3) x4) k 0 (7 * q + 4) x5) k 0 (7 * q + 5) x6) k 0 (7 * q + 6) x7
theorem w7_lo {S : sh_S} {k q j : Nat} {x1 x2 x3 x4 x5 x6 x7 : Int32} (h : j < 7 * q) : w7 S k q x1 x2 x3 x4 x5 x6 x7 k 0 j = S k 0 j := by
  unfold w7
  simp only [sU_rd]
  rw [if_neg (by omega), if_neg (by omega), if_neg (by omega), if_neg (by omega), if_neg (by omega), if_neg (by omega), if_neg (by omega)]
theorem w7_at {S : sh_S} {k q : Nat} {x1 x2 x3 x4 x5 x6 x7 : Int32} : w7 S k q x1 x2 x3 x4 x5 x6 x7 k 0 (7 * q) = x1 ∧ w7 S k q x1 x2 x3 x4 x5 x6 x7 k 0 (7 * q + 1) = x2 ∧ w7 S k q x1 x2 x3 x4 x5 x6 x7 k 0 (7 * q + 2) = x3 ∧ w7 S k q x1 x2 x3 x4 x5 x6 x7 k 0 (7 * q + 3) = x4 ∧ w7 S k q x1 x2 x3 x4 x5 x6 x7 k 0 (7 * q + 4) = x5 ∧ w7 S k q x1 x2 x3 x4 x5 x6 x7 k 0 (7 * q + 5) = x6 ∧ w7 S k q x1 x2 x3 x4 x5 x6 x7 k 0 (7 * q + 6) = x7 := by
  unfold w7
  simp only [sU_rd]
  refine ⟨?_, ?_, ?_, ?_, ?_, ?_, ?_⟩ <;> simp
theorem pF_send {N L t : Nat} {c r : sh_S} {x1 x2 x3 x4 x5 x6 x7 : Int32} (h : pF N t c r) (hm : pM N t x1 x2 x3 x4 x5 x6 x7) : pF N t (s_F_send N L c x1 x2 x3 x4 x5 x6 x7) (s_T_send N L r x1 x2 x3 x4 x5 x6 x7) := by
  obtain ⟨q, hq, e1, e2, e3, e4, hk, hj⟩ := h
  unfold s_F_send s_T_send
  dsimp only
  by_cases hf : q = 200
  · subst hf
    have hc1 : ¬ sU c 5 0 2 (c 5 0 2 + 1) 5 0 1 < 200 := show ¬ c 5 0 1 < 200 by rw [e1]; decide
    have hr1 : sU r 20 0 22 (r 20 0 22 + 1) 20 0 21 = 200 := show r 20 0 21 = 200 by rw [e2]; rfl
    rw [if_neg hc1, if_pos hr1]
    refine ⟨200, Nat.le_refl _, e1, e2, ?_, ?_, hk, hj⟩
    · show c 5 0 2 + 1 = r 20 0 22 + 1
      rw [e3]
    · show c 5 0 3 + 1 = r 20 0 23 + 1
      rw [e4]
  · have hq2 : q < 200 := by omega
    have hc1 : sU c 5 0 2 (c 5 0 2 + 1) 5 0 1 < 200 := show c 5 0 1 < 200 by rw [e1]; exact nI_lt hq2 (by decide)
    have hr1 : ¬ sU r 20 0 22 (r 20 0 22 + 1) 20 0 21 = 200 := show ¬ r 20 0 21 = 200 by rw [e2]; exact fun z => hf ((nI_eq (b := 200) (by omega) (by decide)).mp z)
    rw [if_pos hc1, if_neg hr1]
    have c1 : (c 5 0 1 * 7).toNatClampNeg = 7 * q := by rw [e1]; exact nI_c70 hq
    have c2 : ∀ k : Nat, k < 7 → (c 5 0 1 * 7 + nI k).toNatClampNeg = 7 * q + k := fun k hk => by rw [e1]; exact nI_c7 hq hk
    have d1 : (7 * r 20 0 21).toNatClampNeg = 7 * q := by rw [e2]; exact nI_d70 hq
    have d2 : ∀ k : Nat, k < 7 → (7 * r 20 0 21 + nI k).toNatClampNeg = 7 * q + k := fun k hk => by rw [e2]; exact nI_d7 hq hk
    refine ⟨q + 1, by omega, ?_, ?_, ?_, ?_, ?_, ?_⟩
    · show c 5 0 1 + 1 = nI (q + 1)
      rw [e1, nI_1]
    · show r 20 0 21 + 1 = nI (q + 1)
      rw [e2, nI_1]
    · show c 5 0 2 + 1 = r 20 0 22 + 1
      rw [e3]
    · exact e4
    · have C : ∀ j : Nat, (sU (sU (sU (sU (sU (sU (sU (sU c 5 0 2 (c 5 0 2 + 1)) 6 0 (c 5 0 1 * 7).toNatClampNeg x1) 6 0 (c 5 0 1 * 7 + 1).toNatClampNeg x2) 6 0 (c 5 0 1 * 7 + 2).toNatClampNeg x3) 6 0 (c 5 0 1 * 7 + 3).toNatClampNeg x4) 6 0 (c 5 0 1 * 7 + 4).toNatClampNeg x5) 6 0 (c 5 0 1 * 7 + 5).toNatClampNeg x6) 6 0 (c 5 0 1 * 7 + 6).toNatClampNeg x7) 6 0 j = w7 c 6 q x1 x2 x3 x4 x5 x6 x7 6 0 j := by
        intro j
        rw [c1, show (1 : Int32) = nI 1 from rfl, show (2 : Int32) = nI 2 from rfl, show (3 : Int32) = nI 3 from rfl, show (4 : Int32) = nI 4 from rfl, show (5 : Int32) = nI 5 from rfl, show (6 : Int32) = nI 6 from rfl, c2 1 (by decide), c2 2 (by decide), c2 3 (by decide), c2 4 (by decide), c2 5 (by decide), c2 6 (by decide)]
        unfold w7
        simp only [sU_rd]
        simp
      have D : ∀ j : Nat, (sU (sU (sU (sU (sU (sU (sU (sU r 20 0 22 (r 20 0 22 + 1)) 40 0 (7 * r 20 0 21).toNatClampNeg x1) 40 0 (7 * r 20 0 21 + 1).toNatClampNeg x2) 40 0 (7 * r 20 0 21 + 2).toNatClampNeg x3) 40 0 (7 * r 20 0 21 + 3).toNatClampNeg x4) 40 0 (7 * r 20 0 21 + 4).toNatClampNeg x5) 40 0 (7 * r 20 0 21 + 5).toNatClampNeg x6) 40 0 (7 * r 20 0 21 + 6).toNatClampNeg x7) 40 0 j = w7 r 40 q x1 x2 x3 x4 x5 x6 x7 40 0 j := by
        intro j
        rw [d1, show (1 : Int32) = nI 1 from rfl, show (2 : Int32) = nI 2 from rfl, show (3 : Int32) = nI 3 from rfl, show (4 : Int32) = nI 4 from rfl, show (5 : Int32) = nI 5 from rfl, show (6 : Int32) = nI 6 from rfl, d2 1 (by decide), d2 2 (by decide), d2 3 (by decide), d2 4 (by decide), d2 5 (by decide), d2 6 (by decide)]
        unfold w7
        simp only [sU_rd]
        simp
      intro k hk2
      refine (C k).trans (Eq.trans ?_ (D k).symm)
      rcases Nat.lt_or_ge k (7 * q) with z | z
      · rw [w7_lo z, w7_lo z]
        exact hk k z
      · have hc := w7_at (S := c) (k := 6) (q := q) (x1 := x1) (x2 := x2) (x3 := x3) (x4 := x4) (x5 := x5) (x6 := x6) (x7 := x7)
        have hd := w7_at (S := r) (k := 40) (q := q) (x1 := x1) (x2 := x2) (x3 := x3) (x4 := x4) (x5 := x5) (x6 := x6) (x7 := x7)
        have h7 : k = 7 * q ∨ k = 7 * q + 1 ∨ k = 7 * q + 2 ∨ k = 7 * q + 3 ∨ k = 7 * q + 4 ∨ k = 7 * q + 5 ∨ k = 7 * q + 6 := by omega
        rcases h7 with rfl | rfl | rfl | rfl | rfl | rfl | rfl
        · rw [hc.1, hd.1]
        · rw [hc.2.1, hd.2.1]
        · rw [hc.2.2.1, hd.2.2.1]
        · rw [hc.2.2.2.1, hd.2.2.2.1]
        · rw [hc.2.2.2.2.1, hd.2.2.2.2.1]
        · rw [hc.2.2.2.2.2.1, hd.2.2.2.2.2.1]
        · rw [hc.2.2.2.2.2.2, hd.2.2.2.2.2.2]
    · have D : ∀ j : Nat, (sU (sU (sU (sU (sU (sU (sU (sU r 20 0 22 (r 20 0 22 + 1)) 40 0 (7 * r 20 0 21).toNatClampNeg x1) 40 0 (7 * r 20 0 21 + 1).toNatClampNeg x2) 40 0 (7 * r 20 0 21 + 2).toNatClampNeg x3) 40 0 (7 * r 20 0 21 + 3).toNatClampNeg x4) 40 0 (7 * r 20 0 21 + 4).toNatClampNeg x5) 40 0 (7 * r 20 0 21 + 5).toNatClampNeg x6) 40 0 (7 * r 20 0 21 + 6).toNatClampNeg x7) 40 0 j = w7 r 40 q x1 x2 x3 x4 x5 x6 x7 40 0 j := by
        intro j
        rw [d1, show (1 : Int32) = nI 1 from rfl, show (2 : Int32) = nI 2 from rfl, show (3 : Int32) = nI 3 from rfl, show (4 : Int32) = nI 4 from rfl, show (5 : Int32) = nI 5 from rfl, show (6 : Int32) = nI 6 from rfl, d2 1 (by decide), d2 2 (by decide), d2 3 (by decide), d2 4 (by decide), d2 5 (by decide), d2 6 (by decide)]
        unfold w7
        simp only [sU_rd]
        simp
      have key : ∀ j : Nat, j < q + 1 → pM N t (w7 r 40 q x1 x2 x3 x4 x5 x6 x7 40 0 (7 * j)) (w7 r 40 q x1 x2 x3 x4 x5 x6 x7 40 0 (7 * j + 1)) (w7 r 40 q x1 x2 x3 x4 x5 x6 x7 40 0 (7 * j + 2)) (w7 r 40 q x1 x2 x3 x4 x5 x6 x7 40 0 (7 * j + 3)) (w7 r 40 q x1 x2 x3 x4 x5 x6 x7 40 0 (7 * j + 4)) (w7 r 40 q x1 x2 x3 x4 x5 x6 x7 40 0 (7 * j + 5)) (w7 r 40 q x1 x2 x3 x4 x5 x6 x7 40 0 (7 * j + 6)) := by
        intro j hj2
        rcases Nat.lt_or_ge j q with z | z
        · rw [w7_lo (by omega), w7_lo (by omega), w7_lo (by omega), w7_lo (by omega), w7_lo (by omega), w7_lo (by omega), w7_lo (by omega)]
          exact hj j z
        · have e : j = q := by omega
          subst e
          have hd := w7_at (S := r) (k := 40) (q := j) (x1 := x1) (x2 := x2) (x3 := x3) (x4 := x4) (x5 := x5) (x6 := x6) (x7 := x7)
          rw [hd.1, hd.2.1, hd.2.2.1, hd.2.2.2.1, hd.2.2.2.2.1, hd.2.2.2.2.2.1, hd.2.2.2.2.2.2]
          exact hm
      intro j hj2
      have := key j hj2
      rw [← D, ← D, ← D, ← D, ← D, ← D, ← D] at this
      exact this
theorem Rl_send {N L t : Nat} {c r : sh_S} {x1 x2 x3 x4 x5 x6 x7 : Int32} (h : Rl N L t c r) (hm : pM N t x1 x2 x3 x4 x5 x6 x7) : Rl N L t (s_F_send N L c x1 x2 x3 x4 x5 x6 x7) (s_T_send N L r x1 x2 x3 x4 x5 x6 x7) := ⟨fun i hi => pR_send (h.1 i hi), pF_send h.2 hm⟩
theorem Rl_sendAll {N L t : Nat} {x1 x2 x3 x4 x5 : Int32} (hN : N ≤ 5) (hm : ∀ i : Nat, i < N → pM N t x1 x2 (nI i) x3 x4 x5 0) : ∀ (n k : Nat) (c r : sh_S), Rl N L t c r → k ≤ N → Rl N L t (ls_P_sendToAll N L n c x1 x2 x3 x4 x5 (nI k)) (ls_T_sendAll N L n r x1 x2 x3 x4 x5 (nI k)) := by
  intro n
  induction n with
  | zero =>
    intro k c r h _
    exact h
  | succ n ih =>
    intro k c r h hk
    unfold ls_P_sendToAll ls_T_sendAll
    by_cases h1 : nI N ≤ nI k
    · rw [if_pos h1, if_pos h1]
      exact h
    · rw [if_neg h1, if_neg h1]
      have hk2 : k < N := Nat.lt_of_not_le fun z => h1 (nI_le z (by omega))
      by_cases h2 : nI k = x2
      · rw [if_pos h2, if_pos h2, nI_1]
        exact ih (k + 1) c r h hk2
      · rw [if_neg h2, if_neg h2]
        dsimp only
        rw [nI_1]
        exact ih (k + 1) _ _ (Rl_send h (hm k hk2)) hk2
theorem Rl_all {N L t : Nat} {c r : sh_S} {x1 x2 x3 x4 x5 : Int32} (hN : N ≤ 5) (hm : ∀ i : Nat, i < N → pM N t x1 x2 (nI i) x3 x4 x5 0) (h : Rl N L t c r) : Rl N L t (s_P_sendToAll N L c x1 x2 x3 x4 x5) (s_T_sendAll N L r x1 x2 x3 x4 x5) := Rl_sendAll hN hm 6 0 c r h (Nat.zero_le _)
