/-! what comes -/
theorem Rl_seen {N L t : Nat} {c r : sh_S} {i p : Nat} (hi : i < N) (hp : p ≤ 5 * t + 5) (h : Rl N L t c r) : Rl N L t (sU c 0 i 11 (nI p)) (sU r 37 0 i (nI p)) := by
  obtain ⟨⟨⟨a1, a2, a3, a4, a5, a6, a7, a8, a9⟩, a10⟩, ⟨⟨v1, v2, v3⟩, hv4⟩, -, -⟩ := h.1 i hi
  exact Rl_A (i := i) h (oC_U oC_0) (oR_U (okd rfl) oR_0) ⟨⟨a1, a2, a3, a4, a5, a6, a7, a8, by simp [sU_rd]⟩, a10⟩ ⟨⟨v1, v2, ⟨p, hp, by simp [sU_rd]⟩⟩, hv4⟩
/-- the reference's choice by the kind -/
def cmT (N L : Nat) (r1 : sh_S) (i : Nat) (x1 x2 x4 x5 x6 x7 : Int32) : sh_S := (if x1 = 1 then (let r2 := s_T_prepared N L r1 i x2 x4 x5; r2) else (if x1 = 2 then (let r3 := s_T_gotPromise N L r1 i x2 x4 x5 x6 x7; r3) else (if x1 = 3 then (let r4 := s_T_gotAccept N L r1 i x2 x4 x5 x6; r4) else (if x1 = 4 then (let r5 := s_T_gotAccepted N L r1 i x2 x4 x5; r5) else (if x1 = 5 then (if x5 = ((r1 24 0 i) + 1) then (let r7 := s_T_learn N L r1 i x6; r7) else (if x5 ≤ ((r1 24 0 i) + 1) then r1 else (let r6 := s_T_send N L r1 6 (nI i) x2 0 ((r1 24 0 i) + 1) 0 0; r6))) else (if x1 = 6 then (if (r1 24 0 i) < x5 then r1 else (let r8 := s_T_help N L r1 i x2 x5; r8)) else (if x1 = 7 then (if (r1 31 0 i) ≤ 0 then r1 else (if x4 ≤ (r1 32 0 i) then r1 else (let r9 := s_T_follow N L r1 i; r9))) else (let r10 := s_T_gotState N L r1 i x5 x6; r10))))))))
def cmC (N L : Nat) (c1 : sh_S) (i : Nat) : sh_S := (if (c1 7 0 0) = 1 then (let c2 := s_P_onPrepare N L c1 i; c2) else (if (c1 7 0 0) = 2 then (let c3 := s_P_onPromise N L c1 i; c3) else (if (c1 7 0 0) = 3 then (let c4 := s_P_onAccept N L c1 i; c4) else (if (c1 7 0 0) = 4 then (let c5 := s_P_onAccepted N L c1 i; c5) else (if (c1 7 0 0) = 5 then (let c6 := s_P_onChosen N L c1 i; c6) else (if (c1 7 0 0) = 6 then (let c7 := s_P_onAsk N L c1 i; c7) else (if (c1 7 0 0) = 7 then (let c8 := s_P_onDeny N L c1 i; c8) else (let c9 := s_P_onState N L c1 i; c9))))))))
theorem Rl_cm {N L t : Nat} {c r : sh_S} {i : Nat} {m0 m1 m2 m3 m4 m5 m6 : Int32} (hN : 3 ≤ N ∧ N ≤ 5) (hL : 1 ≤ L ∧ L ≤ 32) (ht : t ≤ 511) (hi : i < N) (h : Rl N L t c r) (hm : pM N t m0 m1 m2 m3 m4 m5 m6) (e0 : c 7 0 0 = m0) (e1 : c 7 0 1 = m1) (e3 : c 7 0 3 = m3) (e4 : c 7 0 4 = m4) (e5 : c 7 0 5 = m5) (e6 : c 7 0 6 = m6) : Rl N L (t + 1) (cmC N L c i) (cmT N L r i m0 m1 m3 m4 m5 m6) := by
  obtain ⟨⟨j, hj, rfl⟩, -, ⟨p, hp, rfl⟩, ⟨s, hs, rfl, hs8⟩, ⟨d, hd1, hd8, rfl⟩, h3, h2⟩ := hm
  obtain ⟨a, k1, k2, k3, k4⟩ := ix_eq (h.1 i hi).2.2.1
  unfold cmC cmT
  rw [e0]
  have hd : d = 1 ∨ d = 2 ∨ d = 3 ∨ d = 4 ∨ d = 5 ∨ d = 6 ∨ d = 7 ∨ d = 8 := by omega
  rcases hd with rfl | rfl | rfl | rfl | rfl | rfl | rfl | rfl
  · rw [if_pos (by decide), if_pos (by decide)]
    exact Rl_mono (Rl_prepd hN hL.2 (by omega) hi hj hp hs h e1 e3 e4)
  · rw [if_neg (by decide), if_pos (by decide), if_neg (by decide), if_pos (by decide)]
    exact Rl_mono (Rl_prom hN (by omega) hi hj hs (h2 rfl) h e1 e3 e4 e5 e6)
  · rw [if_neg (by decide), if_neg (by decide), if_pos (by decide), if_neg (by decide), if_neg (by decide), if_pos (by decide)]
    exact Rl_mono (Rl_acc1 hN hL.2 (by omega) hi hj hp hs (h3 rfl).1 (h3 rfl).2 h e1 e3 e4 e5)
  · rw [if_neg (by decide), if_neg (by decide), if_neg (by decide), if_pos (by decide), if_neg (by decide), if_neg (by decide), if_neg (by decide), if_pos (by decide)]
    exact Rl_accd hN hL ht hi hj hs h e1 e3 e4
  · rw [if_neg (by decide), if_neg (by decide), if_neg (by decide), if_neg (by decide), if_pos (by decide), if_neg (by decide), if_neg (by decide), if_neg (by decide), if_neg (by decide), if_pos (by decide)]
    unfold s_P_onChosen
    dsimp only
    rw [e1, e4, e5, nx_eq (N := N) (L := L) (by omega) (by omega) k2, k2, k3, nI_1]
    by_cases u : s = a + 1
    · rw [if_pos u, if_neg (show ¬ (1 : Int32) = 0 by decide), if_pos (show nI s = nI (a + 1) by rw [u])]
      exact (Rl_learn hN.2 hL (by omega) hi h).1
    · rw [if_neg u, if_pos rfl, if_neg (show ¬ nI s = nI (a + 1) from fun w => u ((nI_eq (by omega) (by omega)).mp w))]
      by_cases w : s ≤ a
      · rw [if_pos (nI_le w (by omega)), if_pos (nI_le (show s ≤ a + 1 by omega) (by omega))]
        exact Rl_mono h
      · rw [if_neg (nI_ge (show a < s by omega) (by omega)), if_neg (nI_ge (show a + 1 < s by omega) (by omega))]
        have k := Rl_ask hi hj h
        rw [k3, nI_1] at k
        exact Rl_mono k
  · rw [if_neg (by decide), if_neg (by decide), if_neg (by decide), if_neg (by decide), if_neg (by decide), if_pos (by decide), if_neg (by decide), if_neg (by decide), if_neg (by decide), if_neg (by decide), if_neg (by decide), if_pos (by decide)]
    unfold s_P_onAsk
    dsimp only
    rw [e1, e4, k2, k3]
    by_cases w : nI a < nI s
    · rw [if_pos w, if_pos w]
      exact Rl_mono h
    · rw [if_neg w, if_neg w]
      exact Rl_mono (Rl_help hN.2 hL.2 (by omega) hi hj hs h)
  · rw [if_neg (by decide), if_neg (by decide), if_neg (by decide), if_neg (by decide), if_neg (by decide), if_neg (by decide), if_pos (by decide), if_neg (by decide), if_neg (by decide), if_neg (by decide), if_neg (by decide), if_neg (by decide), if_neg (by decide), if_pos (by decide)]
    obtain ⟨⟨⟨a1, a2, a3, a4, a5, a6, -⟩, -⟩, ⟨-, ⟨-, v5, -⟩, -⟩, -, -⟩ := h.1 i hi
    unfold s_P_onDeny
    dsimp only
    rw [e3, a5, a6]
    have hr : r 31 0 i = 0 ↔ r 31 0 i ≤ 0 := by
      rcases v5 with u | u | u
      · rw [u]; decide
      · rw [u]; decide
      · rw [u]; decide
    by_cases u : r 31 0 i = 0
    · rw [if_pos u, if_pos (hr.mp u)]
      exact Rl_mono h
    · rw [if_neg u, if_neg (fun z => u (hr.mpr z))]
      by_cases w : nI p ≤ r 32 0 i
      · rw [if_pos w, if_pos w]
        exact Rl_mono h
      · rw [if_neg w, if_neg w]
        exact Rl_mono (Rl_follow hi h)
  · rw [if_neg (by decide), if_neg (by decide), if_neg (by decide), if_neg (by decide), if_neg (by decide), if_neg (by decide), if_neg (by decide), if_neg (by decide), if_neg (by decide), if_neg (by decide), if_neg (by decide), if_neg (by decide), if_neg (by decide), if_neg (by decide)]
    exact Rl_mono (Rl_state hi (hs8 rfl) h e4 e5)
theorem Rl_arr {N L t : Nat} {c r : sh_S} {i : Nat} {m0 m1 m2 m3 m4 m5 m6 : Int32} (hN : 3 ≤ N ∧ N ≤ 5) (hL : 1 ≤ L ∧ L ≤ 32) (ht : t ≤ 511) (hi : i < N) (h : Rl N L t c r) (hm : pM N t m0 m1 m2 m3 m4 m5 m6) (e0 : c 7 0 0 = m0) (e1 : c 7 0 1 = m1) (e3 : c 7 0 3 = m3) (e4 : c 7 0 4 = m4) (e5 : c 7 0 5 = m5) (e6 : c 7 0 6 = m6) : Rl N L (t + 1) (s_P_arrive N L c i) (s_T_comes N L r i m0 m1 m3 m4 m5 m6) := by
  have eC : s_P_arrive N L c i = cmC N L (sU c 0 i 11 (if (c 0 i 11) < (c 7 0 3) then (c 7 0 3) else (c 0 i 11))) i := rfl
  have eT : s_T_comes N L r i m0 m1 m3 m4 m5 m6 = if m3 ≤ r 37 0 i then cmT N L (sU r 37 0 i (r 37 0 i)) i m0 m1 m3 m4 m5 m6 else cmT N L (sU r 37 0 i m3) i m0 m1 m3 m4 m5 m6 := rfl
  obtain ⟨⟨⟨a1, a2, a3, a4, a5, a6, a7, a8, a9⟩, -⟩, ⟨⟨-, -, ⟨p, hp, ep⟩⟩, -⟩, -, -⟩ := h.1 i hi
  obtain ⟨b, hb, eb⟩ := hm.2.2.1
  rw [eC, eT, a9, e3]
  by_cases z : m3 ≤ r 37 0 i
  · rw [if_pos z, if_neg (Int32.not_lt.mpr z), ep]
    exact Rl_cm hN hL ht hi (Rl_seen hi hp h) hm e0 e1 e3 e4 e5 e6
  · rw [if_neg z, if_pos (Int32.not_le.mp z), eb]
    rw [eb] at hm e3
    exact Rl_cm hN hL ht hi (Rl_seen hi hb h) hm e0 e1 e3 e4 e5 e6
/-! the message that has come stays as it is -/
theorem x7_send {N L : Nat} {c : sh_S} {x1 x2 x3 x4 x5 x6 x7 : Int32} : (s_F_send N L c x1 x2 x3 x4 x5 x6 x7) 7 0 0 = c 7 0 0 := by
  unfold s_F_send
  dsimp only
  split <;> rfl
theorem x7_alll {N L : Nat} {x1 x2 x3 x4 x5 : Int32} : ∀ (n : Nat) (c : sh_S) (a : Int32), (ls_P_sendToAll N L n c x1 x2 x3 x4 x5 a) 7 0 0 = c 7 0 0 := by
  intro n
  induction n with
  | zero => intro c a; rfl
  | succ n ih =>
    intro c a
    unfold ls_P_sendToAll
    split
    · rfl
    · split
      · exact ih _ _
      · exact (ih _ _).trans x7_send
theorem x7_all {N L : Nat} {c : sh_S} {x1 x2 x3 x4 x5 : Int32} : (s_P_sendToAll N L c x1 x2 x3 x4 x5) 7 0 0 = c 7 0 0 := x7_alll 6 c 0
theorem x7_drop {N L i : Nat} {x : Int32} : ∀ (n : Nat) (c : sh_S) (a b : Int32), (ls_L_drop N L n c i x a b) 7 0 0 = c 7 0 0 := by
  intro n
  induction n with
  | zero => intro c a b; rfl
  | succ n ih =>
    intro c a b
    unfold ls_L_drop
    split
    · rfl
    · split
      · exact ih _ _ _
      · exact (ih _ _ _).trans rfl
theorem x7_learn {N L i : Nat} {c : sh_S} {x : Int32} : (s_R_learn N L c i x) 7 0 0 = c 7 0 0 := by
  rw [learn_C]
  refine (x7_drop 9 _ 0 0).trans ?_
  unfold fC
  split <;> rfl
theorem x7_acc {N L i : Nat} {c : sh_S} : (s_P_sendAccept N L c i) 7 0 0 = c 7 0 0 := x7_all
theorem x7_propN {N L i : Nat} {c : sh_S} {x : Int32} : (s_P_proposeNumber N L c i x) 7 0 0 = c 7 0 0 := x7_acc.trans rfl
theorem x7_prop {N L i : Nat} {c : sh_S} : (s_P_propose N L c i) 7 0 0 = c 7 0 0 := by
  unfold s_P_propose
  split
  · rfl
  · exact x7_propN
theorem x7_help {N L i : Nat} {c : sh_S} {x y : Int32} : (s_P_help N L c i x y) 7 0 0 = c 7 0 0 := by
  unfold s_P_help
  split
  · exact x7_send
  · exact x7_send
theorem x7_sp {N L i : Nat} {c : sh_S} : (s_P_sendPromise N L c i) 7 0 0 = c 7 0 0 := by
  unfold s_P_sendPromise
  split
  · exact x7_send
  · split
    · exact x7_send
    · exact x7_send
theorem x7_kg {N L i : Nat} {c : sh_S} {x y : Int32} : (s_R_keepGreatest N L c i x y) 7 0 0 = c 7 0 0 := by
  unfold s_R_keepGreatest
  split
  · rfl
  · rfl
theorem x7_g {N L i : Nat} {c : sh_S} : (gC N L c i) 7 0 0 = c 7 0 0 := by
  unfold gC
  split
  · rfl
  · dsimp only
    split
    · exact x7_prop.trans rfl
    · exact x7_propN.trans rfl
theorem x7_cm {N L i : Nat} {c : sh_S} : (cmC N L c i) 7 0 0 = c 7 0 0 := by
  unfold cmC
  split
  · unfold s_P_onPrepare
    split
    · split
      · exact x7_send (N := N) (L := L)
      · exact x7_sp.trans rfl
    · exact x7_help
  split
  · have eC : s_P_onPromise N L c i = if c 0 i 7 = 1 then (if c 0 i 8 = c 7 0 3 then (if v_R_isNext N L c i (c 7 0 4) = 0 then c else (if v_R_hasAnswer N L c i (c 7 0 1) = 0 then gC N L (s_R_keepGreatest N L (s_R_addAnswer N L c i (c 7 0 1)) i (c 7 0 6) (c 7 0 5)) i else c)) else c) else c := rfl
    dsimp only
    rw [eC]
    split
    · split
      · split
        · rfl
        · split
          · exact x7_g.trans (x7_kg.trans rfl)
          · rfl
      · rfl
    · rfl
  split
  · unfold s_P_onAccept
    split
    · split
      · exact x7_send (N := N) (L := L)
      · split
        · exact x7_send (N := N) (L := L)
        · dsimp only
          split
          · exact x7_send.trans rfl
          · split
            · exact x7_send.trans rfl
            · exact x7_send.trans rfl
    · exact x7_help
  split
  · unfold s_P_onAccepted
    split
    · split
      · split
        · rfl
        · split
          · rfl
          · split
            · dsimp only
              split
              · rfl
              · exact x7_prop.trans (x7_learn.trans (x7_all.trans rfl))
            · rfl
      · rfl
    · rfl
  split
  · unfold s_P_onChosen
    split
    · split
      · rfl
      · exact x7_send (N := N) (L := L)
    · exact x7_learn
  split
  · unfold s_P_onAsk
    split
    · rfl
    · exact x7_help
  split
  · unfold s_P_onDeny
    split
    · rfl
    · split
      · rfl
      · rfl
  · unfold s_P_onState
    split
    · rfl
    · rfl
theorem x7_arr {N L i : Nat} {c : sh_S} : (s_P_arrive N L c i) 7 0 0 = c 7 0 0 := (x7_cm (N := N) (L := L) (i := i) (c := sU c 0 i 11 (if (c 0 i 11) < (c 7 0 3) then (c 7 0 3) else (c 0 i 11)))).trans rfl
/-! deliver -/
theorem rd_k {N L : Nat} {c : sh_S} {x : Int32} {k i j : Nat} (hk : ¬ k = 7) : (s_F_read N L c x) k i j = c k i j := by
  unfold s_F_read
  try dsimp only
  rw [sU_rd, if_neg (fun z => hk z.1), sU_rd, if_neg (fun z => hk z.1), sU_rd, if_neg (fun z => hk z.1), sU_rd, if_neg (fun z => hk z.1), sU_rd, if_neg (fun z => hk z.1), sU_rd, if_neg (fun z => hk z.1), sU_rd, if_neg (fun z => hk z.1)]
theorem Rl_read {N L t : Nat} {c r : sh_S} {x : Int32} (h : Rl N L t c r) : Rl N L t (s_F_read N L c x) r := Rl_F h (fun k i j hk => rd_k (by omega)) (fun _ _ _ _ => rfl) (pF_eq (fun j => rd_k (by decide)) (fun j => rd_k (by decide)) (fun _ _ => rfl) (fun _ => rfl) h.2)
theorem rm_7 {N L : Nat} {c : sh_S} {x : Int32} {j : Nat} : (s_F_remove N L c x) 7 0 j = c 7 0 j := by
  unfold s_F_remove
  split
  · rfl
  · rfl
theorem rd_c {N L q j k : Nat} {c : sh_S} (hq : q ≤ 200) (hc : c 5 0 1 = nI q) (hj : j < q) (hk : k < 7) : v_F_cell N L c (nI j) (nI k) = c 6 0 (7 * j + k) := by
  unfold v_F_cell v_F_has
  rw [hc, if_neg (nI_pos (by omega)), if_neg (nI_ge hj (by omega)), if_neg (show ¬ (1 : Int32) = 0 by decide), if_neg (nI_pos (by omega)), if_neg (show ¬ (7 : Int32) ≤ nI k from nI_ge (b := 7) hk (by decide)), nI_c7 (by omega) hk]
theorem q_deliver {N L t : Nat} {c r : sh_S} (hN : 3 ≤ N ∧ N ≤ 5) (hL : 1 ≤ L ∧ L ≤ 32) (ht : t ≤ 511) (x : Int32) (h : Rl N L t c r) : v_P_deliver N L c x = v_T_deliver N L r x ∧ Rl N L (t + 1) (s_P_deliver N L c x) (s_T_deliver N L r x) := by
  obtain ⟨q, g1, g2, g3, g4, g5, g6, g7⟩ := h.2
  unfold v_P_deliver s_P_deliver v_T_deliver s_T_deliver
  dsimp only
  have s21 : sU r 20 0 0 0 20 0 21 = nI q := g3
  have s40 : ∀ k : Nat, sU r 20 0 0 0 40 0 k = r 40 0 k := fun k => rfl
  rw [s21, s40, s40, s40, s40, s40, s40, s40]
  have hh : v_F_has N L c x = if x < 0 then 0 else if nI q ≤ x then 0 else 1 := by
    unfold v_F_has
    rw [g2]
  rw [hh]
  by_cases h1 : x < 0
  · simp only [if_pos h1, ↓reduceIte]
    first | exact ⟨trivial, Rl_0 h⟩ | exact Rl_0 h
  · simp only [if_neg h1]
    by_cases h2 : nI q ≤ x
    · simp only [if_pos h2, if_neg (Int32.not_lt.mpr h2), ↓reduceIte]
      first | exact ⟨trivial, Rl_0 h⟩ | exact Rl_0 h
    · simp only [if_neg h2, if_pos (Int32.not_le.mp h2), if_neg (show ¬ (1 : Int32) = 0 by decide)]
      obtain ⟨j, hj, rfl, -⟩ := pk_mu h1 h2 (by omega)
      have hm := g7 j hj
      have t0 : (7 * nI j : Int32).toNatClampNeg = 7 * j := nI_d70 (by omega)
      have t1 : (7 * nI j + 1 : Int32).toNatClampNeg = 7 * j + 1 := nI_d7 (k := 1) (by omega) (by decide)
      have t2 : (7 * nI j + 2 : Int32).toNatClampNeg = 7 * j + 2 := nI_d7 (k := 2) (by omega) (by decide)
      have t3 : (7 * nI j + 3 : Int32).toNatClampNeg = 7 * j + 3 := nI_d7 (k := 3) (by omega) (by decide)
      have t4 : (7 * nI j + 4 : Int32).toNatClampNeg = 7 * j + 4 := nI_d7 (k := 4) (by omega) (by decide)
      have t5 : (7 * nI j + 5 : Int32).toNatClampNeg = 7 * j + 5 := nI_d7 (k := 5) (by omega) (by decide)
      have t6 : (7 * nI j + 6 : Int32).toNatClampNeg = 7 * j + 6 := nI_d7 (k := 6) (by omega) (by decide)
      rw [t0, t1, t2, t3, t4, t5, t6]
      have k := Rl_remove (j := j) (Rl_thr (v := 0) (Rl_read (x := nI j) h)) ⟨q, g1, g3, hj⟩
      have w : ∀ m : Nat, m < 7 → v_F_cell N L c (nI j) (nI m) = r 40 0 (7 * j + m) := fun m hm => (rd_c g1 g2 hj hm).trans (g6 _ (by omega))
      have e0 : (s_F_remove N L (s_F_read N L c (nI j)) (nI j)) 7 0 0 = r 40 0 (7 * j) := rm_7.trans (w 0 (by decide))
      have e1 : (s_F_remove N L (s_F_read N L c (nI j)) (nI j)) 7 0 1 = r 40 0 (7 * j + 1) := rm_7.trans (w 1 (by decide))
      have e2 : (s_F_remove N L (s_F_read N L c (nI j)) (nI j)) 7 0 2 = r 40 0 (7 * j + 2) := rm_7.trans (w 2 (by decide))
      have e3 : (s_F_remove N L (s_F_read N L c (nI j)) (nI j)) 7 0 3 = r 40 0 (7 * j + 3) := rm_7.trans (w 3 (by decide))
      have e4 : (s_F_remove N L (s_F_read N L c (nI j)) (nI j)) 7 0 4 = r 40 0 (7 * j + 4) := rm_7.trans (w 4 (by decide))
      have e5 : (s_F_remove N L (s_F_read N L c (nI j)) (nI j)) 7 0 5 = r 40 0 (7 * j + 5) := rm_7.trans (w 5 (by decide))
      have e6 : (s_F_remove N L (s_F_read N L c (nI j)) (nI j)) 7 0 6 = r 40 0 (7 * j + 6) := rm_7.trans (w 6 (by decide))
      generalize s_F_remove N L (s_F_read N L c (nI j)) (nI j) = c' at *
      generalize s_T_remove N L (sU r 20 0 0 0) (nI j) = r' at *
      obtain ⟨i, hi, ei⟩ := hm.2.1
      rw [e2, ei, nI_clamp (show i < 2 ^ 31 by omega)]
      simp only [if_pos (kF_in hi hN.2)]
      have a1 : c' 0 i 3 = r' 23 0 i := (k.1 i hi).1.1.1
      rw [a1]
      by_cases u : r' 23 0 i = 0
      · simp only [if_pos u]
        exact ⟨e0, Rl_mono k⟩
      · simp only [if_neg u]
        exact ⟨x7_arr.trans e0, Rl_arr hN hL ht hi k hm e0 e1 e3 e4 e5 e6⟩
/-! the relation stands -/
theorem rs_all {N L : Nat} (hN : 3 ≤ N ∧ N ≤ 5) (hL : 1 ≤ L ∧ L ≤ 32) : RS N L (fun t c r => t ≤ 512 ∧ Rl N L t c r) := by
  intro t c r h0
  obtain ⟨ht, h⟩ := h0
  refine ⟨Rl_facts hN ht h, fun h1 => ?_⟩
  have h2 : t + 1 ≤ 512 := by omega
  exact ⟨⟨h2, Rl_mono h⟩, fun x y => ⟨(q_request hN.2 x y h).1, h2, (q_request hN.2 x y h).2⟩, fun x => ⟨(q_tick hN h1 x h).1, h2, (q_tick hN h1 x h).2⟩, fun x => ⟨(q_deliver hN hL h1 x h).1, h2, (q_deliver hN hL h1 x h).2⟩, fun x => ⟨(q_lose x h).1, h2, (q_lose x h).2⟩, fun x => ⟨(q_twice x h).1, h2, (q_twice x h).2⟩, fun x y hy => ⟨(q_turn hN.2 x y hy h).1, h2, (q_turn hN.2 x y hy h).2⟩, fun x y => ⟨(q_replica hN.2 hL.2 (by omega) x y h).1, h2, (q_replica hN.2 hL.2 (by omega) x y h).2⟩, fun x y => ⟨(q_slot hN.2 hL.2 (by omega) x y h).1, h2, (q_slot hN.2 hL.2 (by omega) x y h).2⟩, fun x y => ⟨(q_waiting hN.2 x y h).1, h2, (q_waiting hN.2 x y h).2⟩, fun x y => ⟨(q_message x y h).1, h2, (q_message x y h).2⟩, fun x => ⟨(q_look hN.2 x h).1, h2, (q_look hN.2 x h).2⟩⟩
theorem ra_all : RA := fun _ _ hN hL => ⟨_, rs_all hN hL, by omega, Rl_init hL.1⟩
