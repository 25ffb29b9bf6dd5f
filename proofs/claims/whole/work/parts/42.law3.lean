/-! THE CLAIM OUT OF ONE WALK OF THE LAW'S BODY. Your part is whole_start (and what it stands on); all else here is the same for every law, but numbers. -/
def R_law : String := "SlotPaxosLaw"
def lw_P (b : Addr) (xs : List Int32) (args : Array Value) (s : State) : Prop := args = #[.ref b] ∧ s.IntsAt b xs ∧ xs.length ≤ 1538 ∧ (Jvm.Cond.and given_1 narrow_1).before args s = true
def lw_Q (_ : Array Value) (s : State) (o : Outcome) (t : State) : Prop := o = .returned (some (.int 1)) ∧ Framed s o t [] 600000 7302250
def lw_Z (below : List Frame) (a : Array Value) (s : State) : State → Prop := fun t => ∃ o, t.status = .running ∧ Ended t below o ∧ lw_Q a s o t
/-- the law's own end, with 1 on the stack, nothing written that was there before, its room as the claim has it -/
theorem lw_ret {p : Program} {l : Launch} {e : Env} {s : State} {m : MethodId} {below : List Frame} {meth : Method} {c : Code} {b : Nat} (hx : p.tables.exec = Jvm.exec) (hb : c.code = code) (hr : meth.sig.returnType = ret) (hlocks : meth.locks = false) {pc : Nat} {H : Heap} {ls : Array Slot} (hdg : decode code pc = .ok (.ireturn, 1)) : W p l e room_1 s m #[Value.ref b] below meth c H [] 600000 7302250 (lw_Z below #[Value.ref b] s) (F0 m pc ls [.int 1]) := by
  intro T hT X
  obtain ⟨fs, hret, hrun, hended, hW, hframe⟩ := X.leave (v := some (.int 1)) (hlocks := hlocks) (fun h => by rw [hr] at h; cases h)
  have hmeth' : T.vm.method? m = some meth := X.method'
  refine ⟨T.setFrames fs, ?_, .returned (some (.int 1)), hrun, hended, rfl, ⟨_, rfl⟩, hW, hframe⟩
  jvm_step X.here [X.here.top, hx, hb, hdg, hmeth', hr, ret, narrow_b1]
  (try refine ⟨rfl, ?_⟩); (try refine ⟨rfl, ?_⟩)
  first | (intro acts; rw [hret _ acts rfl rfl rfl]) | rw [hret _ _ rfl rfl rfl]
  exact Steps.refl _
/-- what holds at the law's entry: the machine, the code, the tables' words (any of lw_tbl by 'hts w (by decide +kernel)'), the script of L ints xs at the cell b, what the Statement gives of the start (any of its parts by flat_of_before) -/
def lw_At (p : Program) (s : State) (m : MethodId) (meth : Method) (c : Code) (b L : Nat) (xs : Nat → Int32) : Prop :=
  p.tables.exec = Jvm.exec ∧ c.code = code ∧ meth.sig.returnType = ret ∧ c.maxLocals = 4 ∧ s.vm.findClass R_law = some m.cls ∧ (∀ w ∈ lw_tbl, w.before #[Value.ref b] s = true) ∧ va_X b L xs s s.heap ∧ b < s.heap.size ∧ meth.locks = false ∧ (Jvm.Cond.and given_1 narrow_1).before #[Value.ref b] s = true
/-! the shape of the world behind the constructors -/
def c0 : sh_S := fun k _ j => bif Nat.beq k 0 then (bif Nat.beq j 3 then 1 else 0) else 0
def r0 (N : Nat) : sh_S := fun k _ j => bif Nat.beq k 23 then pu N j else 0
theorem mr_wsM {X : mx_C} {n : Nat × Nat} {pc : Nat} {lv : List (Nat × Value)} {st : List Value} {x : Nat × va_E} {m N : Nat} {cR : ClassId} {f g : Nat → Option Nat} {rest : va_W} (h : ∀ j, j < N → f j = g j) (kk : mx X n pc lv st (x :: (m, .inl (cR, N, .inr (.inr (.inr (.inr g))))) :: rest)) : mx X n pc lv st (x :: (m, .inl (cR, N, .inr (.inr (.inr (.inr f))))) :: rest) := by
  obtain ⟨⟨p, l, e, R, s, mm, args, below, meth, c⟩, D, tys, lo, Q⟩ := X
  intro ls H locs hl hP hD hS
  have key : ∀ (i : Nat) (q : Nat × va_E), (x :: (m, .inl (cR, N, .inr (.inr (.inr (.inr g))))) :: rest)[i]? = some q → ∃ q0 : Nat × va_E, (x :: (m, .inl (cR, N, .inr (.inr (.inr (.inr f))))) :: rest)[i]? = some q0 ∧ q0.1 = q.1 := by
    intro i q hq
    match i, hq with
    | 0, hq => exact ⟨q, hq, rfl⟩
    | 1, hq => cases hq; exact ⟨_, rfl, rfl⟩
    | i + 2, hq => exact ⟨q, hq, rfl⟩
  refine kk ls H locs hl ?_ ⟨fun i j p q hi hj hpq => ?_, fun k q hk => ?_⟩ hS
  · intro k q hk
    match k, hk with
    | 0, hk => exact hP 0 q hk
    | 1, hk =>
      cases hk
      have h1 : H[m]? = some (vp_cell cR (N, .inr (.inr (.inr (.inr f))))) := hP 1 _ rfl
      show H[m]? = some (vp_cell cR (N, .inr (.inr (.inr (.inr g)))))
      rw [h1, vp_cell_q, vp_cell_q]
      have e : (fun j : Fin N => va_rf (f j.val)) = fun j : Fin N => va_rf (g j.val) := by
        funext j
        rw [h j.val j.isLt]
      unfold arrV
      rw [e]
    | k + 2, hk => exact hP (k + 2) q hk
  · obtain ⟨p0, a1, a2⟩ := key i p hi
    obtain ⟨q0, b1, b2⟩ := key j q hj
    exact hD.1 i j p0 q0 a1 b1 (a2.trans (hpq.trans b2.symm))
  · obtain ⟨q0, b1, b2⟩ := key k q hk
    rw [← b2]
    exact hD.2 k q0 b1
def ad2 (ad : Nat → Nat → Nat) (a m q5 q6 q7 a2 q23 q24 q25 q26 q27 q28 q29 q30 q31 q32 q33 q34 q35 q36 q37 q38 q39 q40 : Nat) : Nat → Nat → Nat := fun k i => match k with
  | 5 => q5
  | 6 => q6
  | 7 => q7
  | 8 => a
  | 9 => m
  | 20 => a2
  | 23 => q23
  | 24 => q24
  | 25 => q25
  | 26 => q26
  | 27 => q27
  | 28 => q28
  | 29 => q29
  | 30 => q30
  | 31 => q31
  | 32 => q32
  | 33 => q33
  | 34 => q34
  | 35 => q35
  | 36 => q36
  | 37 => q37
  | 38 => q38
  | 39 => q39
  | 40 => q40
  | _ => ad k i
def shl (N L : Nat) (cI cR cZ : ClassId) (ad : Nat → Nat → Nat) : sh_L := (ad 8 0, (8, 0), .inr (.inr (5, [some (.int (nI N)), some (.int (nI L)), some (.ref (ad 9 0)), some (.ref (ad 5 0)), some (.ref (ad 7 0))]))) :: (ad 9 0, (9, 0), .inr (.inl (cR, N, fun j => some (ad 0 j)))) :: ((List.range N).flatMap (fun i => [(ad 0 i, (0, i), .inr (.inr (4, [some (.int (nI i)), some (.ref (ad 1 i)), some (.ref (ad 3 i)), none, none, none, none, none, none, none, none, none, none, none]))), (ad 1 i, (1, i), .inr (.inr (2, [some (.int (nI L)), some (.ref (ad 2 i)), none, none, none]))), (ad 2 i, (2, i), .inl (cI, 32)), (ad 3 i, (3, i), .inr (.inr (1, [some (.ref (ad 4 i)), none]))), (ad 4 i, (4, i), .inl (cI, 8))]) ++ [(ad 5 0, (5, 0), .inr (.inr (0, [some (.ref (ad 6 0)), none, none, none]))), (ad 6 0, (6, 0), .inl (cI, 1400)), (ad 7 0, (7, 0), .inr (.inr (3, [none, none, none, none, none, none, none])))] ++ ([(ad 20 0, (20, 0), .inr (.inr (6, [none, some (.int (nI N)), some (.int (nI L)), some (.ref (ad 23 0)), some (.ref (ad 24 0)), some (.ref (ad 25 0)), some (.ref (ad 26 0)), some (.ref (ad 27 0)), some (.ref (ad 28 0)), some (.ref (ad 29 0)), some (.ref (ad 30 0)), some (.ref (ad 31 0)), some (.ref (ad 32 0)), some (.ref (ad 33 0)), some (.ref (ad 34 0)), some (.ref (ad 35 0)), some (.ref (ad 36 0)), some (.ref (ad 37 0)), some (.ref (ad 38 0)), some (.ref (ad 39 0)), some (.ref (ad 40 0)), none, none, none])))] ++ [(ad 23 0, (23, 0), .inl (cZ, 5))] ++ [(ad 24 0, (24, 0), .inl (cI, 5)), (ad 25 0, (25, 0), .inl (cI, 5)), (ad 26 0, (26, 0), .inl (cI, 5)), (ad 27 0, (27, 0), .inl (cI, 5)), (ad 28 0, (28, 0), .inl (cI, 5)), (ad 29 0, (29, 0), .inl (cI, 5)), (ad 30 0, (30, 0), .inl (cI, 200)), (ad 31 0, (31, 0), .inl (cI, 5)), (ad 32 0, (32, 0), .inl (cI, 5)), (ad 33 0, (33, 0), .inl (cI, 5)), (ad 34 0, (34, 0), .inl (cI, 5)), (ad 35 0, (35, 0), .inl (cI, 5)), (ad 36 0, (36, 0), .inl (cI, 5)), (ad 37 0, (37, 0), .inl (cI, 5)), (ad 38 0, (38, 0), .inl (cI, 40)), (ad 39 0, (39, 0), .inl (cI, 5)), (ad 40 0, (40, 0), .inl (cI, 1407))]))
theorem sh_nd {sh : sh_L} (h : (sh.map (fun q => q.2.1)).Nodup) : sh_ok sh := by
  intro q0 q1 e0 e1 h0 h1 he
  have a0 : (sh.map (fun q => q.2.1))[q0]? = some e0.2.1 := by rw [List.getElem?_map, h0]; rfl
  have a1 : (sh.map (fun q => q.2.1))[q1]? = some e0.2.1 := by rw [List.getElem?_map, h1, he]; rfl
  obtain ⟨l0, b0⟩ := List.getElem?_eq_some_iff.mp a0
  obtain ⟨l1, b1⟩ := List.getElem?_eq_some_iff.mp a1
  rcases Nat.lt_trichotomy q0 q1 with z | z | z
  · exact absurd (b0.trans b1.symm) (List.pairwise_iff_getElem.mp h q0 q1 l0 l1 z)
  · exact z
  · exact absurd (b1.trans b0.symm) (List.pairwise_iff_getElem.mp h q1 q0 l1 l0 z)
set_option maxHeartbeats 4000000 in
set_option maxRecDepth 100000 in
theorem sh_F3 (L : Nat) (cI cR cZ : ClassId) (ad : Nat → Nat → Nat) : sh_F (shl 3 L cI cR cZ ad, ad, tm_ 3 L cI cR cZ ad) := by
  refine ⟨sh_nd ?_, ?_⟩
  · show List.Nodup [(8, 0), (9, 0), (0, 0), (1, 0), (2, 0), (3, 0), (4, 0), (0, 1), (1, 1), (2, 1), (3, 1), (4, 1), (0, 2), (1, 2), (2, 2), (3, 2), (4, 2), (5, 0), (6, 0), (7, 0), (20, 0), (23, 0), (24, 0), (25, 0), (26, 0), (27, 0), (28, 0), (29, 0), (30, 0), (31, 0), (32, 0), (33, 0), (34, 0), (35, 0), (36, 0), (37, 0), (38, 0), (39, 0), (40, 0)]
    decide
  · intro k i t h
    match k, h with
    | 0, h =>
      by_cases hi : i < 3
      · match i, hi, h with
        | 0, _, h => obtain rfl := Option.some.inj h; exact ⟨2, rfl⟩
        | 1, _, h => obtain rfl := Option.some.inj h; exact ⟨7, rfl⟩
        | 2, _, h => obtain rfl := Option.some.inj h; exact ⟨12, rfl⟩
        | i + 3, hi, _ => exact absurd hi (by omega)
      · have h : (if i < 3 then _ else none) = some t := h
        rw [if_neg hi] at h
        cases h
    | 1, h =>
      by_cases hi : i < 3
      · match i, hi, h with
        | 0, _, h => obtain rfl := Option.some.inj h; exact ⟨3, rfl⟩
        | 1, _, h => obtain rfl := Option.some.inj h; exact ⟨8, rfl⟩
        | 2, _, h => obtain rfl := Option.some.inj h; exact ⟨13, rfl⟩
        | i + 3, hi, _ => exact absurd hi (by omega)
      · have h : (if i < 3 then _ else none) = some t := h
        rw [if_neg hi] at h
        cases h
    | 2, h =>
      by_cases hi : i < 3
      · match i, hi, h with
        | 0, _, h => obtain rfl := Option.some.inj h; exact ⟨4, rfl⟩
        | 1, _, h => obtain rfl := Option.some.inj h; exact ⟨9, rfl⟩
        | 2, _, h => obtain rfl := Option.some.inj h; exact ⟨14, rfl⟩
        | i + 3, hi, _ => exact absurd hi (by omega)
      · have h : (if i < 3 then _ else none) = some t := h
        rw [if_neg hi] at h
        cases h
    | 3, h =>
      by_cases hi : i < 3
      · match i, hi, h with
        | 0, _, h => obtain rfl := Option.some.inj h; exact ⟨5, rfl⟩
        | 1, _, h => obtain rfl := Option.some.inj h; exact ⟨10, rfl⟩
        | 2, _, h => obtain rfl := Option.some.inj h; exact ⟨15, rfl⟩
        | i + 3, hi, _ => exact absurd hi (by omega)
      · have h : (if i < 3 then _ else none) = some t := h
        rw [if_neg hi] at h
        cases h
    | 4, h =>
      by_cases hi : i < 3
      · match i, hi, h with
        | 0, _, h => obtain rfl := Option.some.inj h; exact ⟨6, rfl⟩
        | 1, _, h => obtain rfl := Option.some.inj h; exact ⟨11, rfl⟩
        | 2, _, h => obtain rfl := Option.some.inj h; exact ⟨16, rfl⟩
        | i + 3, hi, _ => exact absurd hi (by omega)
      · have h : (if i < 3 then _ else none) = some t := h
        rw [if_neg hi] at h
        cases h
    | 5, h =>
      match i, h with
      | 0, h => obtain rfl := Option.some.inj h; exact ⟨17, rfl⟩
      | i + 1, h => cases h
    | 6, h =>
      match i, h with
      | 0, h => obtain rfl := Option.some.inj h; exact ⟨18, rfl⟩
      | i + 1, h => cases h
    | 7, h =>
      match i, h with
      | 0, h => obtain rfl := Option.some.inj h; exact ⟨19, rfl⟩
      | i + 1, h => cases h
    | 8, h =>
      match i, h with
      | 0, h => obtain rfl := Option.some.inj h; exact ⟨0, rfl⟩
      | i + 1, h => cases h
    | 9, h =>
      match i, h with
      | 0, h => obtain rfl := Option.some.inj h; exact ⟨1, rfl⟩
      | i + 1, h => cases h
    | 10, h => cases h
    | 11, h => cases h
    | 12, h => cases h
    | 13, h => cases h
    | 14, h => cases h
    | 15, h => cases h
    | 16, h => cases h
    | 17, h => cases h
    | 18, h => cases h
    | 19, h => cases h
    | 20, h =>
      match i, h with
      | 0, h => obtain rfl := Option.some.inj h; exact ⟨20, rfl⟩
      | i + 1, h => cases h
    | 21, h => cases h
    | 22, h => cases h
    | 23, h =>
      match i, h with
      | 0, h => obtain rfl := Option.some.inj h; exact ⟨21, rfl⟩
      | i + 1, h => cases h
    | 24, h =>
      match i, h with
      | 0, h => obtain rfl := Option.some.inj h; exact ⟨22, rfl⟩
      | i + 1, h => cases h
    | 25, h =>
      match i, h with
      | 0, h => obtain rfl := Option.some.inj h; exact ⟨23, rfl⟩
      | i + 1, h => cases h
    | 26, h =>
      match i, h with
      | 0, h => obtain rfl := Option.some.inj h; exact ⟨24, rfl⟩
      | i + 1, h => cases h
    | 27, h =>
      match i, h with
      | 0, h => obtain rfl := Option.some.inj h; exact ⟨25, rfl⟩
      | i + 1, h => cases h
    | 28, h =>
      match i, h with
      | 0, h => obtain rfl := Option.some.inj h; exact ⟨26, rfl⟩
      | i + 1, h => cases h
    | 29, h =>
      match i, h with
      | 0, h => obtain rfl := Option.some.inj h; exact ⟨27, rfl⟩
      | i + 1, h => cases h
    | 30, h =>
      match i, h with
      | 0, h => obtain rfl := Option.some.inj h; exact ⟨28, rfl⟩
      | i + 1, h => cases h
    | 31, h =>
      match i, h with
      | 0, h => obtain rfl := Option.some.inj h; exact ⟨29, rfl⟩
      | i + 1, h => cases h
    | 32, h =>
      match i, h with
      | 0, h => obtain rfl := Option.some.inj h; exact ⟨30, rfl⟩
      | i + 1, h => cases h
    | 33, h =>
      match i, h with
      | 0, h => obtain rfl := Option.some.inj h; exact ⟨31, rfl⟩
      | i + 1, h => cases h
    | 34, h =>
      match i, h with
      | 0, h => obtain rfl := Option.some.inj h; exact ⟨32, rfl⟩
      | i + 1, h => cases h
    | 35, h =>
      match i, h with
      | 0, h => obtain rfl := Option.some.inj h; exact ⟨33, rfl⟩
      | i + 1, h => cases h
    | 36, h =>
      match i, h with
      | 0, h => obtain rfl := Option.some.inj h; exact ⟨34, rfl⟩
      | i + 1, h => cases h
    | 37, h =>
      match i, h with
      | 0, h => obtain rfl := Option.some.inj h; exact ⟨35, rfl⟩
      | i + 1, h => cases h
    | 38, h =>
      match i, h with
      | 0, h => obtain rfl := Option.some.inj h; exact ⟨36, rfl⟩
      | i + 1, h => cases h
    | 39, h =>
      match i, h with
      | 0, h => obtain rfl := Option.some.inj h; exact ⟨37, rfl⟩
      | i + 1, h => cases h
    | 40, h =>
      match i, h with
      | 0, h => obtain rfl := Option.some.inj h; exact ⟨38, rfl⟩
      | i + 1, h => cases h
    | k + 41, h => cases h
set_option maxHeartbeats 4000000 in
set_option maxRecDepth 100000 in
theorem sh_W3 (L : Nat) (cI cR cZ : ClassId) (ad : Nat → Nat → Nat) (a m q5 q6 q7 a2 q23 q24 q25 q26 q27 q28 q29 q30 q31 q32 q33 q34 q35 q36 q37 q38 q39 q40 : Nat) : ((a, .inr (5, [.int (nI 3), .int (nI L), .ref m, .ref q5, .ref q7])) :: (m, .inl (cR, 3, .inr (.inr (.inr (.inr (fun j => some (ad 0 j))))))) :: ((pf cI L ad 3 ++ [(q5, .inr (0, [.ref q6, .int 0, .int 0, .int 0])), (q6, .inl (cI, 1400, .inl (fun _ => 0))), (q7, .inr (3, [.int 0, .int 0, .int 0, .int 0, .int 0, .int 0, .int 0]))]) ++ pt cI cZ 3 L a2 q23 q24 q25 q26 q27 q28 q29 q30 q31 q32 q33 q34 q35 q36 q37 q38 q39 q40 3) : va_W) = sh_ws (shl 3 L cI cR cZ (ad2 ad a m q5 q6 q7 a2 q23 q24 q25 q26 q27 q28 q29 q30 q31 q32 q33 q34 q35 q36 q37 q38 q39 q40)) (jn c0 (r0 3)) := rfl
set_option maxHeartbeats 4000000 in
set_option maxRecDepth 100000 in
theorem sh_F4 (L : Nat) (cI cR cZ : ClassId) (ad : Nat → Nat → Nat) : sh_F (shl 4 L cI cR cZ ad, ad, tm_ 4 L cI cR cZ ad) := by
  refine ⟨sh_nd ?_, ?_⟩
  · show List.Nodup [(8, 0), (9, 0), (0, 0), (1, 0), (2, 0), (3, 0), (4, 0), (0, 1), (1, 1), (2, 1), (3, 1), (4, 1), (0, 2), (1, 2), (2, 2), (3, 2), (4, 2), (0, 3), (1, 3), (2, 3), (3, 3), (4, 3), (5, 0), (6, 0), (7, 0), (20, 0), (23, 0), (24, 0), (25, 0), (26, 0), (27, 0), (28, 0), (29, 0), (30, 0), (31, 0), (32, 0), (33, 0), (34, 0), (35, 0), (36, 0), (37, 0), (38, 0), (39, 0), (40, 0)]
    decide
  · intro k i t h
    match k, h with
    | 0, h =>
      by_cases hi : i < 4
      · match i, hi, h with
        | 0, _, h => obtain rfl := Option.some.inj h; exact ⟨2, rfl⟩
        | 1, _, h => obtain rfl := Option.some.inj h; exact ⟨7, rfl⟩
        | 2, _, h => obtain rfl := Option.some.inj h; exact ⟨12, rfl⟩
        | 3, _, h => obtain rfl := Option.some.inj h; exact ⟨17, rfl⟩
        | i + 4, hi, _ => exact absurd hi (by omega)
      · have h : (if i < 4 then _ else none) = some t := h
        rw [if_neg hi] at h
        cases h
    | 1, h =>
      by_cases hi : i < 4
      · match i, hi, h with
        | 0, _, h => obtain rfl := Option.some.inj h; exact ⟨3, rfl⟩
        | 1, _, h => obtain rfl := Option.some.inj h; exact ⟨8, rfl⟩
        | 2, _, h => obtain rfl := Option.some.inj h; exact ⟨13, rfl⟩
        | 3, _, h => obtain rfl := Option.some.inj h; exact ⟨18, rfl⟩
        | i + 4, hi, _ => exact absurd hi (by omega)
      · have h : (if i < 4 then _ else none) = some t := h
        rw [if_neg hi] at h
        cases h
    | 2, h =>
      by_cases hi : i < 4
      · match i, hi, h with
        | 0, _, h => obtain rfl := Option.some.inj h; exact ⟨4, rfl⟩
        | 1, _, h => obtain rfl := Option.some.inj h; exact ⟨9, rfl⟩
        | 2, _, h => obtain rfl := Option.some.inj h; exact ⟨14, rfl⟩
        | 3, _, h => obtain rfl := Option.some.inj h; exact ⟨19, rfl⟩
        | i + 4, hi, _ => exact absurd hi (by omega)
      · have h : (if i < 4 then _ else none) = some t := h
        rw [if_neg hi] at h
        cases h
    | 3, h =>
      by_cases hi : i < 4
      · match i, hi, h with
        | 0, _, h => obtain rfl := Option.some.inj h; exact ⟨5, rfl⟩
        | 1, _, h => obtain rfl := Option.some.inj h; exact ⟨10, rfl⟩
        | 2, _, h => obtain rfl := Option.some.inj h; exact ⟨15, rfl⟩
        | 3, _, h => obtain rfl := Option.some.inj h; exact ⟨20, rfl⟩
        | i + 4, hi, _ => exact absurd hi (by omega)
      · have h : (if i < 4 then _ else none) = some t := h
        rw [if_neg hi] at h
        cases h
    | 4, h =>
      by_cases hi : i < 4
      · match i, hi, h with
        | 0, _, h => obtain rfl := Option.some.inj h; exact ⟨6, rfl⟩
        | 1, _, h => obtain rfl := Option.some.inj h; exact ⟨11, rfl⟩
        | 2, _, h => obtain rfl := Option.some.inj h; exact ⟨16, rfl⟩
        | 3, _, h => obtain rfl := Option.some.inj h; exact ⟨21, rfl⟩
        | i + 4, hi, _ => exact absurd hi (by omega)
      · have h : (if i < 4 then _ else none) = some t := h
        rw [if_neg hi] at h
        cases h
    | 5, h =>
      match i, h with
      | 0, h => obtain rfl := Option.some.inj h; exact ⟨22, rfl⟩
      | i + 1, h => cases h
    | 6, h =>
      match i, h with
      | 0, h => obtain rfl := Option.some.inj h; exact ⟨23, rfl⟩
      | i + 1, h => cases h
    | 7, h =>
      match i, h with
      | 0, h => obtain rfl := Option.some.inj h; exact ⟨24, rfl⟩
      | i + 1, h => cases h
    | 8, h =>
      match i, h with
      | 0, h => obtain rfl := Option.some.inj h; exact ⟨0, rfl⟩
      | i + 1, h => cases h
    | 9, h =>
      match i, h with
      | 0, h => obtain rfl := Option.some.inj h; exact ⟨1, rfl⟩
      | i + 1, h => cases h
    | 10, h => cases h
    | 11, h => cases h
    | 12, h => cases h
    | 13, h => cases h
    | 14, h => cases h
    | 15, h => cases h
    | 16, h => cases h
    | 17, h => cases h
    | 18, h => cases h
    | 19, h => cases h
    | 20, h =>
      match i, h with
      | 0, h => obtain rfl := Option.some.inj h; exact ⟨25, rfl⟩
      | i + 1, h => cases h
    | 21, h => cases h
    | 22, h => cases h
    | 23, h =>
      match i, h with
      | 0, h => obtain rfl := Option.some.inj h; exact ⟨26, rfl⟩
      | i + 1, h => cases h
    | 24, h =>
      match i, h with
      | 0, h => obtain rfl := Option.some.inj h; exact ⟨27, rfl⟩
      | i + 1, h => cases h
    | 25, h =>
      match i, h with
      | 0, h => obtain rfl := Option.some.inj h; exact ⟨28, rfl⟩
      | i + 1, h => cases h
    | 26, h =>
      match i, h with
      | 0, h => obtain rfl := Option.some.inj h; exact ⟨29, rfl⟩
      | i + 1, h => cases h
    | 27, h =>
      match i, h with
      | 0, h => obtain rfl := Option.some.inj h; exact ⟨30, rfl⟩
      | i + 1, h => cases h
    | 28, h =>
      match i, h with
      | 0, h => obtain rfl := Option.some.inj h; exact ⟨31, rfl⟩
      | i + 1, h => cases h
    | 29, h =>
      match i, h with
      | 0, h => obtain rfl := Option.some.inj h; exact ⟨32, rfl⟩
      | i + 1, h => cases h
    | 30, h =>
      match i, h with
      | 0, h => obtain rfl := Option.some.inj h; exact ⟨33, rfl⟩
      | i + 1, h => cases h
    | 31, h =>
      match i, h with
      | 0, h => obtain rfl := Option.some.inj h; exact ⟨34, rfl⟩
      | i + 1, h => cases h
    | 32, h =>
      match i, h with
      | 0, h => obtain rfl := Option.some.inj h; exact ⟨35, rfl⟩
      | i + 1, h => cases h
    | 33, h =>
      match i, h with
      | 0, h => obtain rfl := Option.some.inj h; exact ⟨36, rfl⟩
      | i + 1, h => cases h
    | 34, h =>
      match i, h with
      | 0, h => obtain rfl := Option.some.inj h; exact ⟨37, rfl⟩
      | i + 1, h => cases h
    | 35, h =>
      match i, h with
      | 0, h => obtain rfl := Option.some.inj h; exact ⟨38, rfl⟩
      | i + 1, h => cases h
    | 36, h =>
      match i, h with
      | 0, h => obtain rfl := Option.some.inj h; exact ⟨39, rfl⟩
      | i + 1, h => cases h
    | 37, h =>
      match i, h with
      | 0, h => obtain rfl := Option.some.inj h; exact ⟨40, rfl⟩
      | i + 1, h => cases h
    | 38, h =>
      match i, h with
      | 0, h => obtain rfl := Option.some.inj h; exact ⟨41, rfl⟩
      | i + 1, h => cases h
    | 39, h =>
      match i, h with
      | 0, h => obtain rfl := Option.some.inj h; exact ⟨42, rfl⟩
      | i + 1, h => cases h
    | 40, h =>
      match i, h with
      | 0, h => obtain rfl := Option.some.inj h; exact ⟨43, rfl⟩
      | i + 1, h => cases h
    | k + 41, h => cases h
set_option maxHeartbeats 4000000 in
set_option maxRecDepth 100000 in
theorem sh_W4 (L : Nat) (cI cR cZ : ClassId) (ad : Nat → Nat → Nat) (a m q5 q6 q7 a2 q23 q24 q25 q26 q27 q28 q29 q30 q31 q32 q33 q34 q35 q36 q37 q38 q39 q40 : Nat) : ((a, .inr (5, [.int (nI 4), .int (nI L), .ref m, .ref q5, .ref q7])) :: (m, .inl (cR, 4, .inr (.inr (.inr (.inr (fun j => some (ad 0 j))))))) :: ((pf cI L ad 4 ++ [(q5, .inr (0, [.ref q6, .int 0, .int 0, .int 0])), (q6, .inl (cI, 1400, .inl (fun _ => 0))), (q7, .inr (3, [.int 0, .int 0, .int 0, .int 0, .int 0, .int 0, .int 0]))]) ++ pt cI cZ 4 L a2 q23 q24 q25 q26 q27 q28 q29 q30 q31 q32 q33 q34 q35 q36 q37 q38 q39 q40 4) : va_W) = sh_ws (shl 4 L cI cR cZ (ad2 ad a m q5 q6 q7 a2 q23 q24 q25 q26 q27 q28 q29 q30 q31 q32 q33 q34 q35 q36 q37 q38 q39 q40)) (jn c0 (r0 4)) := rfl
set_option maxHeartbeats 4000000 in
set_option maxRecDepth 100000 in
theorem sh_F5 (L : Nat) (cI cR cZ : ClassId) (ad : Nat → Nat → Nat) : sh_F (shl 5 L cI cR cZ ad, ad, tm_ 5 L cI cR cZ ad) := by
  refine ⟨sh_nd ?_, ?_⟩
  · show List.Nodup [(8, 0), (9, 0), (0, 0), (1, 0), (2, 0), (3, 0), (4, 0), (0, 1), (1, 1), (2, 1), (3, 1), (4, 1), (0, 2), (1, 2), (2, 2), (3, 2), (4, 2), (0, 3), (1, 3), (2, 3), (3, 3), (4, 3), (0, 4), (1, 4), (2, 4), (3, 4), (4, 4), (5, 0), (6, 0), (7, 0), (20, 0), (23, 0), (24, 0), (25, 0), (26, 0), (27, 0), (28, 0), (29, 0), (30, 0), (31, 0), (32, 0), (33, 0), (34, 0), (35, 0), (36, 0), (37, 0), (38, 0), (39, 0), (40, 0)]
    decide
  · intro k i t h
    match k, h with
    | 0, h =>
      by_cases hi : i < 5
      · match i, hi, h with
        | 0, _, h => obtain rfl := Option.some.inj h; exact ⟨2, rfl⟩
        | 1, _, h => obtain rfl := Option.some.inj h; exact ⟨7, rfl⟩
        | 2, _, h => obtain rfl := Option.some.inj h; exact ⟨12, rfl⟩
        | 3, _, h => obtain rfl := Option.some.inj h; exact ⟨17, rfl⟩
        | 4, _, h => obtain rfl := Option.some.inj h; exact ⟨22, rfl⟩
        | i + 5, hi, _ => exact absurd hi (by omega)
      · have h : (if i < 5 then _ else none) = some t := h
        rw [if_neg hi] at h
        cases h
    | 1, h =>
      by_cases hi : i < 5
      · match i, hi, h with
        | 0, _, h => obtain rfl := Option.some.inj h; exact ⟨3, rfl⟩
        | 1, _, h => obtain rfl := Option.some.inj h; exact ⟨8, rfl⟩
        | 2, _, h => obtain rfl := Option.some.inj h; exact ⟨13, rfl⟩
        | 3, _, h => obtain rfl := Option.some.inj h; exact ⟨18, rfl⟩
        | 4, _, h => obtain rfl := Option.some.inj h; exact ⟨23, rfl⟩
        | i + 5, hi, _ => exact absurd hi (by omega)
      · have h : (if i < 5 then _ else none) = some t := h
        rw [if_neg hi] at h
        cases h
    | 2, h =>
      by_cases hi : i < 5
      · match i, hi, h with
        | 0, _, h => obtain rfl := Option.some.inj h; exact ⟨4, rfl⟩
        | 1, _, h => obtain rfl := Option.some.inj h; exact ⟨9, rfl⟩
        | 2, _, h => obtain rfl := Option.some.inj h; exact ⟨14, rfl⟩
        | 3, _, h => obtain rfl := Option.some.inj h; exact ⟨19, rfl⟩
        | 4, _, h => obtain rfl := Option.some.inj h; exact ⟨24, rfl⟩
        | i + 5, hi, _ => exact absurd hi (by omega)
      · have h : (if i < 5 then _ else none) = some t := h
        rw [if_neg hi] at h
        cases h
    | 3, h =>
      by_cases hi : i < 5
      · match i, hi, h with
        | 0, _, h => obtain rfl := Option.some.inj h; exact ⟨5, rfl⟩
        | 1, _, h => obtain rfl := Option.some.inj h; exact ⟨10, rfl⟩
        | 2, _, h => obtain rfl := Option.some.inj h; exact ⟨15, rfl⟩
        | 3, _, h => obtain rfl := Option.some.inj h; exact ⟨20, rfl⟩
        | 4, _, h => obtain rfl := Option.some.inj h; exact ⟨25, rfl⟩
        | i + 5, hi, _ => exact absurd hi (by omega)
      · have h : (if i < 5 then _ else none) = some t := h
        rw [if_neg hi] at h
        cases h
    | 4, h =>
      by_cases hi : i < 5
      · match i, hi, h with
        | 0, _, h => obtain rfl := Option.some.inj h; exact ⟨6, rfl⟩
        | 1, _, h => obtain rfl := Option.some.inj h; exact ⟨11, rfl⟩
        | 2, _, h => obtain rfl := Option.some.inj h; exact ⟨16, rfl⟩
        | 3, _, h => obtain rfl := Option.some.inj h; exact ⟨21, rfl⟩
        | 4, _, h => obtain rfl := Option.some.inj h; exact ⟨26, rfl⟩
        | i + 5, hi, _ => exact absurd hi (by omega)
      · have h : (if i < 5 then _ else none) = some t := h
        rw [if_neg hi] at h
        cases h
    | 5, h =>
      match i, h with
      | 0, h => obtain rfl := Option.some.inj h; exact ⟨27, rfl⟩
      | i + 1, h => cases h
    | 6, h =>
      match i, h with
      | 0, h => obtain rfl := Option.some.inj h; exact ⟨28, rfl⟩
      | i + 1, h => cases h
    | 7, h =>
      match i, h with
      | 0, h => obtain rfl := Option.some.inj h; exact ⟨29, rfl⟩
      | i + 1, h => cases h
    | 8, h =>
      match i, h with
      | 0, h => obtain rfl := Option.some.inj h; exact ⟨0, rfl⟩
      | i + 1, h => cases h
    | 9, h =>
      match i, h with
      | 0, h => obtain rfl := Option.some.inj h; exact ⟨1, rfl⟩
      | i + 1, h => cases h
    | 10, h => cases h
    | 11, h => cases h
    | 12, h => cases h
    | 13, h => cases h
    | 14, h => cases h
    | 15, h => cases h
    | 16, h => cases h
    | 17, h => cases h
    | 18, h => cases h
    | 19, h => cases h
    | 20, h =>
      match i, h with
      | 0, h => obtain rfl := Option.some.inj h; exact ⟨30, rfl⟩
      | i + 1, h => cases h
    | 21, h => cases h
    | 22, h => cases h
    | 23, h =>
      match i, h with
      | 0, h => obtain rfl := Option.some.inj h; exact ⟨31, rfl⟩
      | i + 1, h => cases h
    | 24, h =>
      match i, h with
      | 0, h => obtain rfl := Option.some.inj h; exact ⟨32, rfl⟩
      | i + 1, h => cases h
    | 25, h =>
      match i, h with
      | 0, h => obtain rfl := Option.some.inj h; exact ⟨33, rfl⟩
      | i + 1, h => cases h
    | 26, h =>
      match i, h with
      | 0, h => obtain rfl := Option.some.inj h; exact ⟨34, rfl⟩
      | i + 1, h => cases h
    | 27, h =>
      match i, h with
      | 0, h => obtain rfl := Option.some.inj h; exact ⟨35, rfl⟩
      | i + 1, h => cases h
    | 28, h =>
      match i, h with
      | 0, h => obtain rfl := Option.some.inj h; exact ⟨36, rfl⟩
      | i + 1, h => cases h
    | 29, h =>
      match i, h with
      | 0, h => obtain rfl := Option.some.inj h; exact ⟨37, rfl⟩
      | i + 1, h => cases h
    | 30, h =>
      match i, h with
      | 0, h => obtain rfl := Option.some.inj h; exact ⟨38, rfl⟩
      | i + 1, h => cases h
    | 31, h =>
      match i, h with
      | 0, h => obtain rfl := Option.some.inj h; exact ⟨39, rfl⟩
      | i + 1, h => cases h
    | 32, h =>
      match i, h with
      | 0, h => obtain rfl := Option.some.inj h; exact ⟨40, rfl⟩
      | i + 1, h => cases h
    | 33, h =>
      match i, h with
      | 0, h => obtain rfl := Option.some.inj h; exact ⟨41, rfl⟩
      | i + 1, h => cases h
    | 34, h =>
      match i, h with
      | 0, h => obtain rfl := Option.some.inj h; exact ⟨42, rfl⟩
      | i + 1, h => cases h
    | 35, h =>
      match i, h with
      | 0, h => obtain rfl := Option.some.inj h; exact ⟨43, rfl⟩
      | i + 1, h => cases h
    | 36, h =>
      match i, h with
      | 0, h => obtain rfl := Option.some.inj h; exact ⟨44, rfl⟩
      | i + 1, h => cases h
    | 37, h =>
      match i, h with
      | 0, h => obtain rfl := Option.some.inj h; exact ⟨45, rfl⟩
      | i + 1, h => cases h
    | 38, h =>
      match i, h with
      | 0, h => obtain rfl := Option.some.inj h; exact ⟨46, rfl⟩
      | i + 1, h => cases h
    | 39, h =>
      match i, h with
      | 0, h => obtain rfl := Option.some.inj h; exact ⟨47, rfl⟩
      | i + 1, h => cases h
    | 40, h =>
      match i, h with
      | 0, h => obtain rfl := Option.some.inj h; exact ⟨48, rfl⟩
      | i + 1, h => cases h
    | k + 41, h => cases h
set_option maxHeartbeats 4000000 in
set_option maxRecDepth 100000 in
theorem sh_W5 (L : Nat) (cI cR cZ : ClassId) (ad : Nat → Nat → Nat) (a m q5 q6 q7 a2 q23 q24 q25 q26 q27 q28 q29 q30 q31 q32 q33 q34 q35 q36 q37 q38 q39 q40 : Nat) : ((a, .inr (5, [.int (nI 5), .int (nI L), .ref m, .ref q5, .ref q7])) :: (m, .inl (cR, 5, .inr (.inr (.inr (.inr (fun j => some (ad 0 j))))))) :: ((pf cI L ad 5 ++ [(q5, .inr (0, [.ref q6, .int 0, .int 0, .int 0])), (q6, .inl (cI, 1400, .inl (fun _ => 0))), (q7, .inr (3, [.int 0, .int 0, .int 0, .int 0, .int 0, .int 0, .int 0]))]) ++ pt cI cZ 5 L a2 q23 q24 q25 q26 q27 q28 q29 q30 q31 q32 q33 q34 q35 q36 q37 q38 q39 q40 5) : va_W) = sh_ws (shl 5 L cI cR cZ (ad2 ad a m q5 q6 q7 a2 q23 q24 q25 q26 q27 q28 q29 q30 q31 q32 q33 q34 q35 q36 q37 q38 q39 q40)) (jn c0 (r0 5)) := rfl
