/-! changes at one replica's own fields -/
def oC (i : Nat) (c' c : sh_S) : Prop := ∀ k i' j : Nat, (¬ k = 0 ∨ ¬ i' = i) → c' k i' j = c k i' j
def okf (f : Nat) : Prop := f = 23 ∨ f = 27 ∨ f = 28 ∨ f = 29 ∨ (31 ≤ f ∧ f ≤ 37)
def oR (i : Nat) (r' r : sh_S) : Prop := ∀ k j : Nat, (¬ okf k ∨ ¬ j = i) → r' k 0 j = r k 0 j
theorem oC_0 {i : Nat} {c : sh_S} : oC i c c := fun _ _ _ _ => rfl
theorem oR_0 {i : Nat} {r : sh_S} : oR i r r := fun _ _ _ => rfl
theorem oC_U {i f : Nat} {c' c : sh_S} {v : Int32} (h : oC i c' c) : oC i (sU c' 0 i f v) c := by
  intro k i' j hk
  rw [sU_rd, if_neg (by omega)]
  exact h k i' j hk
theorem oR_U {i f : Nat} {r' r : sh_S} {v : Int32} (hf : okf f) (h : oR i r' r) : oR i (sU r' f 0 i v) r := by
  intro k j hk
  rw [sU_rd, if_neg (fun (z : k = f ∧ j = i ∧ 0 = 0) => hk.elim (fun q => q (z.1 ▸ hf)) (fun q => q z.2.1))]
  exact h k j hk
theorem oC_t {i : Nat} {c'' c' c : sh_S} (h : oC i c'' c') (h2 : oC i c' c) : oC i c'' c := fun k i' j hk => (h k i' j hk).trans (h2 k i' j hk)
theorem oR_t {i : Nat} {r'' r' r : sh_S} (h : oR i r'' r') (h2 : oR i r' r) : oR i r'' r := fun k j hk => (h k j hk).trans (h2 k j hk)
theorem nokf {k : Nat} (h : k < 23 ∨ k = 24 ∨ k = 25 ∨ k = 26 ∨ k = 30 ∨ 38 ≤ k) : ¬ okf k := by
  unfold okf
  omega
theorem pA_eq {c c' r r' : sh_S} {i : Nat} (hc : ∀ j, c' 0 i j = c 0 i j) (hr : ∀ k, okf k → r' k 0 i = r k 0 i) (h : pA c r i) : pA c' r' i := by
  unfold pA at h ⊢
  rw [hc, hc, hc, hc, hc, hc, hc, hc, hc, hc, hc, hr 23 (by unfold okf; omega), hr 27 (by unfold okf; omega), hr 28 (by unfold okf; omega), hr 29 (by unfold okf; omega), hr 31 (by unfold okf; omega), hr 32 (by unfold okf; omega), hr 33 (by unfold okf; omega), hr 34 (by unfold okf; omega), hr 37 (by unfold okf; omega), hr 36 (by unfold okf; omega), hr 35 (by unfold okf; omega)]
  exact h
theorem pV_eq {N t : Nat} {r r' : sh_S} {i : Nat} (hr : ∀ k, okf k → r' k 0 i = r k 0 i) (h : pV N t r i) : pV N t r' i := by
  unfold pV at h ⊢
  rw [hr 23 (by unfold okf; omega), hr 27 (by unfold okf; omega), hr 28 (by unfold okf; omega), hr 29 (by unfold okf; omega), hr 31 (by unfold okf; omega), hr 32 (by unfold okf; omega), hr 33 (by unfold okf; omega), hr 34 (by unfold okf; omega), hr 37 (by unfold okf; omega), hr 36 (by unfold okf; omega), hr 35 (by unfold okf; omega)]
  exact h
theorem pB_eq {L t : Nat} {c c' r r' : sh_S} {i : Nat} (h1 : ∀ j, c' 1 i j = c 1 i j) (h2 : ∀ j, c' 2 i j = c 2 i j) (hr : r' 24 0 i = r 24 0 i ∧ r' 25 0 i = r 25 0 i ∧ r' 26 0 i = r 26 0 i) (h30 : ∀ k, k < 40 → r' 30 0 (40 * i + k) = r 30 0 (40 * i + k)) (h : pB L t c r i) : pB L t c' r' i := by
  obtain ⟨a, b, e, g1, g2, g3, g4, g5, g6, g7, g8, g9, g10⟩ := h
  refine ⟨a, b, e, g1, g2, g3, g4, by rw [h1]; exact g5, by rw [hr.1]; exact g6, by rw [h1, hr.2.1]; exact g7, by rw [h1]; exact g8, by rw [hr.2.2]; exact g9, fun s hs hs2 => ?_⟩
  rw [h2, h30 _ (Nat.mod_lt _ (by decide))]
  exact g10 s hs hs2
theorem pQ_eq {c c' r r' : sh_S} {i : Nat} (h3 : c' 3 i 1 = c 3 i 1) (h4 : ∀ j, c' 4 i j = c 4 i j) (hr : r' 39 0 i = r 39 0 i) (h38 : ∀ k, k < 8 → r' 38 0 (8 * i + k) = r 38 0 (8 * i + k)) (h : pQ c r i) : pQ c' r' i := by
  obtain ⟨q, g1, g2, g3, g4⟩ := h
  refine ⟨q, g1, by rw [h3]; exact g2, by rw [hr]; exact g3, fun k hk => ?_⟩
  rw [h4, h38 k (by omega)]
  exact g4 k hk
theorem pF_eq {N t : Nat} {c c' r r' : sh_S} (h5 : ∀ j, c' 5 0 j = c 5 0 j) (h6 : ∀ j, c' 6 0 j = c 6 0 j) (h20 : ∀ j, ¬ j = 0 → r' 20 0 j = r 20 0 j) (h40 : ∀ j, r' 40 0 j = r 40 0 j) (h : pF N t c r) : pF N t c' r' := by
  obtain ⟨q, g1, g2, g3, g4, g5, g6, g7⟩ := h
  refine ⟨q, g1, by rw [h5]; exact g2, by rw [h20 _ (by decide)]; exact g3, by rw [h5, h20 _ (by decide)]; exact g4, by rw [h5, h20 _ (by decide)]; exact g5, fun k hk => by rw [h6, h40]; exact g6 k hk, fun j hj => ?_⟩
  rw [h40, h40, h40, h40, h40, h40, h40]
  exact g7 j hj
/-- a change at the fields of replica i alone -/
theorem Rl_A {N L t : Nat} {c c' r r' : sh_S} {i : Nat} (h : Rl N L t c r) (hc : oC i c' c) (hr : oR i r' r) (hA : pA c' r' i) (hV : pV N t r' i) : Rl N L t c' r' := by
  refine ⟨fun i' hi' => ?_, pF_eq (fun j => hc 5 0 j (Or.inl (by decide))) (fun j => hc 6 0 j (Or.inl (by decide))) (fun j _ => hr 20 j (Or.inl (nokf (by decide)))) (fun j => hr 40 j (Or.inl (nokf (by decide)))) h.2⟩
  obtain ⟨g1, g2, g3, g4⟩ := h.1 i' hi'
  have b3 : pB L t c' r' i' := pB_eq (fun j => hc 1 i' j (Or.inl (by decide))) (fun j => hc 2 i' j (Or.inl (by decide))) ⟨hr 24 i' (Or.inl (nokf (by decide))), hr 25 i' (Or.inl (nokf (by decide))), hr 26 i' (Or.inl (nokf (by decide)))⟩ (fun k _ => hr 30 _ (Or.inl (nokf (by decide)))) g3
  have b4 : pQ c' r' i' := pQ_eq (hc 3 i' 1 (Or.inl (by decide))) (fun j => hc 4 i' j (Or.inl (by decide))) (hr 39 i' (Or.inl (nokf (by decide)))) (fun k _ => hr 38 _ (Or.inl (nokf (by decide)))) g4
  by_cases e : i' = i
  · subst e
    exact ⟨hA, hV, b3, b4⟩
  · exact ⟨pA_eq (fun j => hc 0 i' j (Or.inr e)) (fun k _ => hr k i' (Or.inr e)) g1, pV_eq (fun k _ => hr k i' (Or.inr e)) g2, b3, b4⟩
theorem okd {f : Nat} (h : (f == 23 || f == 27 || f == 28 || f == 29 || (Nat.ble 31 f && Nat.ble f 37)) = true) : okf f := by
  unfold okf
  simp only [Bool.or_eq_true, beq_iff_eq, Bool.and_eq_true, Nat.ble_eq] at h
  omega
/-- one that becomes FOLLOWER -/
theorem oC_bF {N L i : Nat} {c : sh_S} : oC i (s_R_becomeFollower N L c i) c := oC_U (oC_U (oC_U (oC_U oC_0)))
theorem oR_fo {N L i : Nat} {r : sh_S} : oR i (s_T_follow N L r i) r := oR_U (okd rfl) (oR_U (okd rfl) (oR_U (okd rfl) (oR_U (okd rfl) (oR_U (okd rfl) (oR_U (okd rfl) oR_0)))))
theorem bF_rd {N L i : Nat} {c : sh_S} : (s_R_becomeFollower N L c i) 0 i 7 = 0 ∧ (s_R_becomeFollower N L c i) 0 i 8 = 0 ∧ (s_R_becomeFollower N L c i) 0 i 9 = 0 ∧ (s_R_becomeFollower N L c i) 0 i 10 = 0 := by
  unfold s_R_becomeFollower
  simp [sU_rd]
theorem fo_rd {N L i : Nat} {r : sh_S} : (s_T_follow N L r i) 31 0 i = 0 ∧ (s_T_follow N L r i) 32 0 i = 0 ∧ (s_T_follow N L r i) 33 0 i = 0 ∧ (s_T_follow N L r i) 34 0 i = 0 ∧ (s_T_follow N L r i) 35 0 i = 0 ∧ (s_T_follow N L r i) 36 0 i = 0 := by
  unfold s_T_follow
  simp [sU_rd]
theorem Rl_follow {N L t : Nat} {c r : sh_S} {i : Nat} (hi : i < N) (h : Rl N L t c r) : Rl N L t (s_R_becomeFollower N L c i) (s_T_follow N L r i) := by
  obtain ⟨⟨⟨a1, a2, a3, a4, a5, a6, a7, a8, a9⟩, a10⟩, ⟨⟨v1, v2, v3⟩, -, v10, v11⟩, -, -⟩ := h.1 i hi
  have hb := bF_rd (N := N) (L := L) (i := i) (c := c)
  have hf := fo_rd (N := N) (L := L) (i := i) (r := r)
  refine Rl_A h oC_bF oR_fo ⟨⟨a1, a2, a3, a4, by rw [hb.1, hf.1], by rw [hb.2.1, hf.2.1], by rw [hb.2.2.1, hf.2.2.1], by rw [hb.2.2.2, hf.2.2.2.1], a9⟩, fun z => ?_⟩ ⟨⟨v1, v2, v3⟩, ⟨⟨0, by omega, hf.2.1, fun z => absurd hf.1 z⟩, Or.inl hf.1, fun _ => ⟨hf.2.1, hf.2.2.1, hf.2.2.2.1⟩, fun _ _ => hf.2.2.1, ⟨0, Nat.pos_of_ne_zero (by simp), hf.2.2.1⟩, by rw [hf.2.2.2.1]; decide⟩, v10, fun z => ?_⟩
  · rw [hf.1] at z
    exact absurd z (by decide)
  · rw [hf.1] at z
    exact absurd z (by decide)
theorem pM_mono {N t : Nat} {m0 m1 m2 m3 m4 m5 m6 : Int32} (h : pM N t m0 m1 m2 m3 m4 m5 m6) : pM N (t + 1) m0 m1 m2 m3 m4 m5 m6 := by
  obtain ⟨h1, h2, ⟨p, hp, e⟩, ⟨s, hs, e2, e3⟩, h5⟩ := h
  exact ⟨h1, h2, ⟨p, by omega, e⟩, ⟨s, by omega, e2, fun z => by have := e3 z; omega⟩, h5⟩
theorem pV_mono {N t : Nat} {r : sh_S} {i : Nat} (h : pV N t r i) : pV N (t + 1) r i := by
  obtain ⟨⟨v1, ⟨p2, hp2, e2⟩, ⟨p3, hp3, e3⟩⟩, ⟨⟨p4, hp4, e4⟩, v5⟩, v6⟩ := h
  exact ⟨⟨v1, ⟨p2, by omega, e2⟩, ⟨p3, by omega, e3⟩⟩, ⟨⟨p4, by omega, e4⟩, v5⟩, v6⟩
theorem Rl_mono {N L t : Nat} {c r : sh_S} (h : Rl N L t c r) : Rl N L (t + 1) c r := by
  refine ⟨fun i hi => ?_, ?_⟩
  · obtain ⟨g1, g2, ⟨a, b, e, g3, g⟩, g4⟩ := h.1 i hi
    exact ⟨g1, pV_mono g2, ⟨a, b, e, by omega, g⟩, g4⟩
  · obtain ⟨q, g1, g2, g3, g4, g5, g6, g7⟩ := h.2
    exact ⟨q, g1, g2, g3, g4, g5, g6, fun j hj => pM_mono (g7 j hj)⟩
/-- the reference's 'thrown' is not looked at -/
theorem Rl_thr {N L t : Nat} {c r : sh_S} {v : Int32} (h : Rl N L t c r) : Rl N L t c (sU r 20 0 0 v) := by
  refine ⟨fun i hi => h.1 i hi, ?_⟩
  exact pF_eq (fun _ => rfl) (fun _ => rfl) (fun j hj => by rw [sU_rd, if_neg (fun z => hj z.2.1)]) (fun _ => rfl) h.2
theorem Rl_facts {N L t : Nat} {c r : sh_S} (hN : 3 ≤ N ∧ N ≤ 5) (ht : t ≤ 512) (h : Rl N L t c r) : kI N c ∧ rK N r ∧ (∀ i, i < N → ¬ r 24 0 i + 1 < 0) ∧ (∀ x : Int32, ¬ x < 0 → x < r 20 0 21 → kF N (r 40 0 ((7 * x + 2 : Int32).toNatClampNeg))) ∧ (∀ i, i < N → ∃ a b : Nat, a ≤ 10000 ∧ b ≤ 10000 ∧ r 27 0 i = nI a ∧ r 37 0 i = nI b) := by
  obtain ⟨q, g1, g2, g3, g4, g5, g6, g7⟩ := h.2
  refine ⟨⟨⟨q, g1, g2⟩, fun i hi => ?_⟩, ⟨⟨q, g1, g3⟩, fun i hi => ?_⟩, fun i hi => ?_, fun x hx hx2 => ?_, fun i hi => ?_⟩
  · obtain ⟨-, -, -, q, k1, k2, -⟩ := h.1 i hi
    exact ⟨q, k1, k2⟩
  · obtain ⟨-, -, ⟨a, b, e, k1, k2, k3, k4, k5, k6, k7, k8, k9, -⟩, q, l1, -, l3, -⟩ := h.1 i hi
    exact ⟨⟨q, l1, l3⟩, by rw [k6]; exact nI_pos (by omega), by rw [k9]; exact nI_pos (by omega)⟩
  · obtain ⟨-, -, ⟨a, b, e, k1, k2, k3, k4, k5, k6, -⟩, -⟩ := h.1 i hi
    rw [k6, nI_1]
    exact nI_pos (by omega)
  · obtain ⟨j, hj, rfl⟩ := nI_of hx
    rw [g3] at hx2
    have hjq : j < q := (nI_ltI hj (by omega)).mp hx2
    rw [show (2 : Int32) = nI 2 from rfl, nI_d7 (by omega) (by decide)]
    obtain ⟨-, ⟨k, hk, e⟩, -⟩ := g7 j hjq
    rw [e]
    exact kF_in hk hN.2
  · obtain ⟨-, ⟨⟨-, ⟨p2, hp2, e2⟩, ⟨p3, hp3, e3⟩⟩, -⟩, -, -⟩ := h.1 i hi
    exact ⟨p2, p3, by omega, by omega, e2, e3⟩
