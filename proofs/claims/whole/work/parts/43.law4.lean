/-- the two sides' relation, for every size: it is to be given (rel_all) -/
def RA : Prop := ∀ N L : Nat, 3 ≤ N ∧ N ≤ 5 → 1 ≤ L ∧ L ≤ 32 → ∃ Rel : Nat → sh_S → sh_S → Prop, RS N L Rel ∧ Rel 0 c0 (r0 N)
set_option maxHeartbeats 8000000 in
set_option maxRecDepth 100000 in
/-- from the world behind both constructors on -/
theorem law_go (hRA : RA) {Z : mx_Z} {cI cR cZ : ClassId} (hz : Z.2.2 = [(cI, .int), (cR, .object R_R), (cZ, .boolean)]) {b L : Nat} {xs : Nat → Int32} (hL : L ≤ 1538) {X : mx_C} (ok : mx_ok X Z R_W b_W_law 4 room_1) (hs : mx_scr X b L xs) {n : Nat × Nat} (hn : n.1 ≤ room_1.cells ∧ n.2 ≤ room_1.slots) (kx : ∀ (lv : List (Nat × Value)) (ws : va_W), mx X n 448 lv [.int 1] ws) (N L' : Nat) (hN : 3 ≤ N ∧ N ≤ 5) (hL' : 1 ≤ L' ∧ L' ≤ 32) (a m q5 q6 q7 a2 q23 q24 q25 q26 q27 q28 q29 q30 q31 q32 q33 q34 q35 q36 q37 q38 q39 q40 : Nat) (ad : Nat → Nat → Nat) :
    mx X n 38 [(0, .ref b), (1, .ref a), (2, .ref a2), (3, .int (nI 2))] [] (pz cI cR N L' a m q5 q6 q7 ad ++ pt cI cZ N L' a2 q23 q24 q25 q26 q27 q28 q29 q30 q31 q32 q33 q34 q35 q36 q37 q38 q39 q40 N) := by
  obtain ⟨Rel, hRS, h0⟩ := hRA N L' hN hL'
  show mx X n 38 _ [] ((a, .inr (5, [.int (nI N), .int (nI L'), .ref m, .ref q5, .ref q7])) :: (m, .inl (cR, N, .inr (.inr (.inr (.inr (pm ad N)))))) :: ((pf cI L' ad N ++ [(q5, .inr (0, [.ref q6, .int 0, .int 0, .int 0])), (q6, .inl (cI, 1400, .inl (fun _ => 0))), (q7, .inr (3, [.int 0, .int 0, .int 0, .int 0, .int 0, .int 0, .int 0]))]) ++ pt cI cZ N L' a2 q23 q24 q25 q26 q27 q28 q29 q30 q31 q32 q33 q34 q35 q36 q37 q38 q39 q40 N))
  refine mr_wsM (g := fun j => some (ad 0 j)) (fun j hj => by unfold pm; rw [if_pos hj]) ?_
  have h35 : N = 3 ∨ N = 4 ∨ N = 5 := by omega
  rcases h35 with rfl | rfl | rfl
  · refine mr_ws (sh_W3 L' cI cR cZ ad a m q5 q6 q7 a2 q23 q24 q25 q26 q27 q28 q29 q30 q31 q32 q33 q34 q35 q36 q37 q38 q39 q40) ?_
    exact law_loop (B := (shl 3 L' cI cR cZ (ad2 ad a m q5 q6 q7 a2 q23 q24 q25 q26 q27 q28 q29 q30 q31 q32 q33 q34 q35 q36 q37 q38 q39 q40), ad2 ad a m q5 q6 q7 a2 q23 q24 q25 q26 q27 q28 q29 q30 q31 q32 q33 q34 q35 q36 q37 q38 q39 q40, tm_ 3 L' cI cR cZ (ad2 ad a m q5 q6 q7 a2 q23 q24 q25 q26 q27 q28 q29 q30 q31 q32 q33 q34 q35 q36 q37 q38 q39 q40))) ⟨sh_F3 _ _ _ _ _, fun _ _ => rfl, hz, hN, hL'⟩ hL ok hs hn hRS kx 513 0 c0 (r0 3) h0 (by decide) (by decide)
  · refine mr_ws (sh_W4 L' cI cR cZ ad a m q5 q6 q7 a2 q23 q24 q25 q26 q27 q28 q29 q30 q31 q32 q33 q34 q35 q36 q37 q38 q39 q40) ?_
    exact law_loop (B := (shl 4 L' cI cR cZ (ad2 ad a m q5 q6 q7 a2 q23 q24 q25 q26 q27 q28 q29 q30 q31 q32 q33 q34 q35 q36 q37 q38 q39 q40), ad2 ad a m q5 q6 q7 a2 q23 q24 q25 q26 q27 q28 q29 q30 q31 q32 q33 q34 q35 q36 q37 q38 q39 q40, tm_ 4 L' cI cR cZ (ad2 ad a m q5 q6 q7 a2 q23 q24 q25 q26 q27 q28 q29 q30 q31 q32 q33 q34 q35 q36 q37 q38 q39 q40))) ⟨sh_F4 _ _ _ _ _, fun _ _ => rfl, hz, hN, hL'⟩ hL ok hs hn hRS kx 513 0 c0 (r0 4) h0 (by decide) (by decide)
  · refine mr_ws (sh_W5 L' cI cR cZ ad a m q5 q6 q7 a2 q23 q24 q25 q26 q27 q28 q29 q30 q31 q32 q33 q34 q35 q36 q37 q38 q39 q40) ?_
    exact law_loop (B := (shl 5 L' cI cR cZ (ad2 ad a m q5 q6 q7 a2 q23 q24 q25 q26 q27 q28 q29 q30 q31 q32 q33 q34 q35 q36 q37 q38 q39 q40), ad2 ad a m q5 q6 q7 a2 q23 q24 q25 q26 q27 q28 q29 q30 q31 q32 q33 q34 q35 q36 q37 q38 q39 q40, tm_ 5 L' cI cR cZ (ad2 ad a m q5 q6 q7 a2 q23 q24 q25 q26 q27 q28 q29 q30 q31 q32 q33 q34 q35 q36 q37 q38 q39 q40))) ⟨sh_F5 _ _ _ _ _, fun _ _ => rfl, hz, hN, hL'⟩ hL ok hs hn hRS kx 513 0 c0 (r0 5) h0 (by decide) (by decide)
set_option maxHeartbeats 8000000 in
set_option maxRecDepth 100000 in
/-- the law, from its entry -/
theorem whole_start_open (hRA : RA) {p : Program} {e : Env} {s : State} {m : MethodId} {below : List Frame} {meth : Method} {c : Code} (l : Launch) {b L : Nat} {xs : Nat → Int32} (hL : L ≤ 1538) (C0 : lw_At p s m meth c b L xs) : W p l e room_1 s m #[Value.ref b] below meth c s.heap [] 0 0 (lw_Z below #[Value.ref b] s) (entryFrame m ([Value.ref b] : List Value).toArray 4) := by
  obtain ⟨hx, hb, hr, hml, hown, hts, hX, hbl, hlocks, hgv⟩ := id C0
  have hw : ∀ w ∈ mx_tbl, w.before #[Value.ref b] s = true := fun w h => hts w (List.mem_filter.mp h).1
  obtain ⟨k0, i0, hKn0⟩ := u_known (C := R_F) (T := F_F) (N := 4) (n := 4) hw in_F (hw _ (mw 173 rfl rfl))
  obtain ⟨k1, i1, hKn1⟩ := u_known (C := R_L) (T := F_L) (N := 2) (n := 2) hw in_L (hw _ (mw 101 rfl rfl))
  obtain ⟨k2, i2, hKn2⟩ := u_known (C := R_G) (T := F_G) (N := 5) (n := 5) hw in_G (hw _ (mw 75 rfl rfl))
  obtain ⟨k3, i3, hKn3⟩ := u_known (C := R_M) (T := F_M) (N := 7) (n := 7) hw in_M (hw _ (mw 195 rfl rfl))
  obtain ⟨k4, i4, hKn4⟩ := u_known (C := R_R) (T := F_R) (N := 14) (n := 14) hw in_R (hw _ (mw 69 rfl rfl))
  obtain ⟨k5, i5, hKn5⟩ := u_known (C := R_P) (T := F_P) (N := 5) (n := 5) hw in_P (hw _ (mw 54 rfl rfl))
  obtain ⟨k6, i6, hKn6⟩ := u_known (C := R_T) (T := F_T) (N := 24) (n := 24) hw in_T (hw _ (mw 518 rfl rfl))
  obtain ⟨dC, dI, hKc⟩ : ∃ (dC : Nat → ClassId) (dI : Nat → Nat → Nat), ∀ (k : Nat) (q : vw_C), vwCl[k]? = some q → u_Kn s q.1 q.2.1 q.2.2 (dC k) (dI k) := by
    refine ⟨fun k => if k = 0 then k0 else if k = 1 then k1 else if k = 2 then k2 else if k = 3 then k3 else if k = 4 then k4 else if k = 5 then k5 else k6, fun k => if k = 0 then i0 else if k = 1 then i1 else if k = 2 then i2 else if k = 3 then i3 else if k = 4 then i4 else if k = 5 then i5 else i6, ?_⟩
    intro k q hq
    match k, hq with
    | 0, hq => cases hq; exact hKn0
    | 1, hq => cases hq; exact hKn1
    | 2, hq => cases hq; exact hKn2
    | 3, hq => cases hq; exact hKn3
    | 4, hq => cases hq; exact hKn4
    | 5, hq => cases hq; exact hKn5
    | 6, hq => cases hq; exact hKn6
    | k + 7, hq => simp [vwCl] at hq
  obtain ⟨cI, kI_, compI, f1, f2, f3⟩ := Cond.arrayClass_spec (hw _ (mw 99 rfl rfl))
  obtain ⟨cZ, kZ_, compZ, g1, g2, g3⟩ := Cond.arrayClass_spec (hw _ (mw 596 rfl rfl))
  have hover : (Cond.arrayOver (.object R_R)).before #[Value.ref b] s = true := hts _ (List.mem_of_getElem? (i := 68) rfl)
  obtain ⟨compR, cR, kR_, e1, e2, e3, e4, e5⟩ := Cond.arrayOver_spec hover
  have hnest : (wNest).before #[Value.ref b] s = true := hts _ (List.mem_of_getElem? (i := 196) rfl)
  have hK : va_K (dC, dI) vwCl [(cI, .int), (cR, .object R_R), (cZ, .boolean)] s := by
    refine ⟨hKc, fun k q hq => ?_⟩
    match k, hq with
    | 0, hq => cases hq; exact ⟨fun n z => ⟨(fun k h => by cases h), kI_, f2, compI, f3⟩, f1⟩
    | 1, hq => cases hq; exact ⟨fun n z => ⟨(fun k h => by cases h), kR_, e3, compR, e4⟩, kR_, compR, e3, e4, e1, e5⟩
    | 2, hq => cases hq; exact ⟨fun n z => ⟨(fun k h => by cases h), kZ_, g2, compZ, g3⟩, g1⟩
    | k + 3, hq => simp at hq
  have ok : mx_ok ((p, l, e, room_1, s, m, #[Value.ref b], below, meth, c), (dC, dI), [(cI, .int), (cR, .object R_R), (cZ, .boolean)], s.heap.size, lw_Z below #[Value.ref b] s) (l, (dC, dI), [(cI, .int), (cR, .object R_R), (cZ, .boolean)]) R_W b_W_law 4 room_1 := ⟨hx, hb, hml, hown, hw, hK, Nat.le_refl _, rfl, rfl⟩
  have hs : mx_scr ((p, l, e, room_1, s, m, #[Value.ref b], below, meth, c), (dC, dI), [(cI, .int), (cR, .object R_R), (cZ, .boolean)], s.heap.size, lw_Z below #[Value.ref b] s) b L xs := ⟨hX, hbl, rfl⟩
  have hnw : mx_nw ((p, l, e, room_1, s, m, #[Value.ref b], below, meth, c), (dC, dI), [(cI, .int), (cR, .object R_R), (cZ, .boolean)], s.heap.size, lw_Z below #[Value.ref b] s) wNest := ⟨va_Nw.of rfl hnest, va_AO.of hover⟩
  have kx : ∀ (n : Nat × Nat), n.1 ≤ 600000 → n.2 ≤ 7302250 → ∀ (lv : List (Nat × Value)) (ws : va_W), mx ((p, l, e, room_1, s, m, #[Value.ref b], below, meth, c), (dC, dI), [(cI, .int), (cR, .object R_R), (cZ, .boolean)], s.heap.size, lw_Z below #[Value.ref b] s) n 448 lv [.int 1] ws := by
    intro n h1 h2 lv ws ls H locs hl hP hD hS
    refine va_forget (fun q hq => hS.2.2 q hq) ?_
    refine W.widen (k := 600000) (n := 7302250) h1 h2 ?_
    exact lw_ret hx hb hr hlocks d_W_law_448
  have hl := lv_entry ([.ref b]) (n := 4) (Nat.le_of_ble_eq_true rfl)
  rw [lg_entry_eq]
  have K : ∀ X : mx_C, mx_ok X (l, (dC, dI), [(cI, .int), (cR, .object R_R), (cZ, .boolean)]) R_W b_W_law 4 room_1 → mx_scr X b L xs → mx_nw X wNest → (∀ n : Nat × Nat, n.1 ≤ 600000 → n.2 ≤ 7302250 → ∀ (lv : List (Nat × Value)) (ws : va_W), mx X n 448 lv [.int 1] ws) → mx X (0, 0) 0 [(0, .ref b)] [] [] := by
    intro X ok hs hnw kx
    refine mr_new (ci := 5) ok rfl in_P tf_P ty_P (mw 53 rfl rfl) (mw 54 rfl rfl) (mw 43 rfl rfl) [.int 0, .int 0, .null, .null, .null] (fun j hj => by match j, hj with | 0, _ => rfl | 1, _ => rfl | 2, _ => rfl | 3, _ => rfl | 4, _ => rfl) (by decide) (by decide) d_W_law_0 (fun a => ?_)
    refine mr_dup ok d_W_law_3 rfl ?_
    refine mr_aload_n ok (i := 0) d_W_law_4 rfl rfl ?_
    refine mr_iconst ok 0 d_W_law_5 (by decide) ?_
    refine mr_cell ok hs 0 rfl (by omega) (by decide) (Nat.le_of_ble_eq_true rfl) (by decide) (by decide) d_W_law_6 ?_
    refine mr_aload_n ok (i := 0) d_W_law_9 rfl rfl ?_
    refine mr_iconst ok 1 d_W_law_10 (by decide) ?_
    refine mr_cell ok hs 1 rfl (by omega) (by decide) (Nat.le_of_ble_eq_true rfl) (by decide) (by decide) d_W_law_11 ?_
    refine mr_callIw (As := [.int (cv L xs 0), .int (cv L xs 1)]) ok hnw cb_W_15 ci_P_init (c_P_init (cI := cI) (cR := cR) rfl rfl) rfl (Nat.le_of_ble_eq_true rfl) (by decide) (by decide) (by decide) d_W_law_14 rfl ?_
    rintro v _ ⟨rfl, mm, q5, q6, q7, ad, rfl⟩
    refine mr_astore_n ok (i := 1) d_W_law_17 rfl (by decide) ?_
    refine mr_new (ci := 6) ok rfl in_T tf_T ty_T (mw 517 rfl rfl) (mw 518 rfl rfl) (mw 50 rfl rfl) [.int 0, .int 0, .int 0, .null, .null, .null, .null, .null, .null, .null, .null, .null, .null, .null, .null, .null, .null, .null, .null, .null, .null, .int 0, .int 0, .int 0] (fun j hj => by match j, hj with | 0, _ => rfl | 1, _ => rfl | 2, _ => rfl | 3, _ => rfl | 4, _ => rfl | 5, _ => rfl | 6, _ => rfl | 7, _ => rfl | 8, _ => rfl | 9, _ => rfl | 10, _ => rfl | 11, _ => rfl | 12, _ => rfl | 13, _ => rfl | 14, _ => rfl | 15, _ => rfl | 16, _ => rfl | 17, _ => rfl | 18, _ => rfl | 19, _ => rfl | 20, _ => rfl | 21, _ => rfl | 22, _ => rfl | 23, _ => rfl | j + 24, hj => exact absurd hj (by omega)) (by decide) (by decide) d_W_law_18 (fun a2 => ?_)
    refine mr_dup ok d_W_law_21 rfl ?_
    refine mr_aload_n ok (i := 0) d_W_law_22 rfl rfl ?_
    refine mr_iconst ok 0 d_W_law_23 (by decide) ?_
    refine mr_cell ok hs 0 rfl (by omega) (by decide) (Nat.le_of_ble_eq_true rfl) (by decide) (by decide) d_W_law_24 ?_
    refine mr_aload_n ok (i := 0) d_W_law_27 rfl rfl ?_
    refine mr_iconst ok 1 d_W_law_28 (by decide) ?_
    refine mr_cell ok hs 1 rfl (by omega) (by decide) (Nat.le_of_ble_eq_true rfl) (by decide) (by decide) d_W_law_29 ?_
    refine mr_callI (As := [.int (cv L xs 0), .int (cv L xs 1)]) ok cb_W_20 ci_T_init (c_T_init (cI := cI) (cZ := cZ) rfl rfl) rfl (Nat.le_of_ble_eq_true rfl) (by decide) (by decide) (by decide) d_W_law_32 rfl ?_
    rintro v _ ⟨rfl, q23, q24, q25, q26, q27, q28, q29, q30, q31, q32, q33, q34, q35, q36, q37, q38, q39, q40, rfl⟩
    refine mr_astore_n ok (i := 2) d_W_law_35 rfl (by decide) ?_
    refine mr_iconst ok 2 d_W_law_36 (by decide) ?_
    refine mr_istore_n ok (i := 3) d_W_law_37 rfl (by decide) ?_
    refine mr_lv [(0, .ref b), (1, .ref a), (2, .ref a2), (3, .int (nI 2))] ⟨rfl, rfl, rfl, rfl, trivial⟩ ?_
    exact law_go hRA rfl hL ok hs (by decide) (kx _ (by decide) (by decide)) _ _ (cN_b _) (cL_b _) a mm q5 q6 q7 a2 q23 q24 q25 q26 q27 q28 q29 q30 q31 q32 q33 q34 q35 q36 q37 q38 q39 q40 ad
  refine K _ ok hs hnw kx _ s.heap [] ?_ (fun k q h => by simp at h) ⟨fun i j p q h => by simp at h, fun k q h => by simp at h⟩ va_S.rf
  show lw_h _ c.maxLocals _
  rw [hml]
  exact ⟨⟨hl.1, hl.2.1, fun q hq => hl.2.2 q (mem_of_nz _ _ hq)⟩, fun q hq => by
    have := mem_of_nz _ _ hq
    simp at this
    rw [this]
    rfl⟩
