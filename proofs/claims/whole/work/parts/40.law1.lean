/-! the reference's calls, for any replica number -/
def u_T_request (N L : Nat) (r : sh_S) (x : Int32) (y : Int32) : Int32 := if kF N x then v_T_request N L r x.toNatClampNeg y else v_T_request_o N L r x y
def z_T_request (N L : Nat) (r : sh_S) (x : Int32) (y : Int32) : sh_S := if kF N x then s_T_request N L r x.toNatClampNeg y else s_T_request_o N L r x y
theorem cc_T_request {B : sh_B} {Z : mx_Z} {N L : Nat} {cI cR cZ : ClassId} (hb : wB B Z N L cI cR cZ) {c r : sh_S} {x : Int32} {y : Int32} (hc : rK N r) : sc B Z y_T_request b_T_request 3 (some (.boolean)) (rmm 2 42) [.ref (B.2.1 20 0), .int x, .int y] (jn c r) (qe (some (.int (u_T_request N L r x y))) (jn c (z_T_request N L r x y))) := by
  unfold u_T_request z_T_request
  by_cases h : kF N x
  · rw [if_pos h, if_pos h]
    have h1 := c_T_request hb (c := c) (r := r) (kF_lt h hb.2.2.2.1.2).1 (y := y) hc
    rw [← kF_nI h] at h1
    exact h1
  · rw [if_neg h, if_neg h]
    exact c_T_request_o hb h
def u_T_tick (N L : Nat) (r : sh_S) (x : Int32) : Int32 := if kF N x then v_T_tick N L r x.toNatClampNeg else v_T_tick_o N L r x
def z_T_tick (N L : Nat) (r : sh_S) (x : Int32) : sh_S := if kF N x then s_T_tick N L r x.toNatClampNeg else s_T_tick_o N L r x
theorem cc_T_tick {B : sh_B} {Z : mx_Z} {N L : Nat} {cI cR cZ : ClassId} (hb : wB B Z N L cI cR cZ) {c r : sh_S} {x : Int32} (hc : rK N r) (hp : ∀ i, i < N → ∃ a b : Nat, a ≤ 10000 ∧ b ≤ 10000 ∧ r 27 0 i = nI a ∧ r 37 0 i = nI b) : sc B Z y_T_tick b_T_tick 2 (some (.int)) (rmm 4 97) [.ref (B.2.1 20 0), .int x] (jn c r) (qe (some (.int (u_T_tick N L r x))) (jn c (z_T_tick N L r x))) := by
  unfold u_T_tick z_T_tick
  by_cases h : kF N x
  · rw [if_pos h, if_pos h]
    have h1 := c_T_tick hb (c := c) (r := r) (kF_lt h hb.2.2.2.1.2).1 hc (hp _ (kF_lt h hb.2.2.2.1.2).1)
    rw [← kF_nI h] at h1
    exact h1
  · rw [if_neg h, if_neg h]
    exact c_T_tick_o hb h
def u_T_turn (N L : Nat) (r : sh_S) (x : Int32) (y : Int32) : Int32 := if kF N x then v_T_turn N L r x.toNatClampNeg y else v_T_turn_o N L r x y
def z_T_turn (N L : Nat) (r : sh_S) (x : Int32) (y : Int32) : sh_S := if kF N x then s_T_turn N L r x.toNatClampNeg y else s_T_turn_o N L r x y
theorem cc_T_turn {B : sh_B} {Z : mx_Z} {N L : Nat} {cI cR cZ : ClassId} (hb : wB B Z N L cI cR cZ) {c r : sh_S} {x : Int32} {y : Int32} (hy : vp_nar .boolean y = y) : sc B Z y_T_turn b_T_turn 3 (some (.boolean)) (rmm 1 21) [.ref (B.2.1 20 0), .int x, .int y] (jn c r) (qe (some (.int (u_T_turn N L r x y))) (jn c (z_T_turn N L r x y))) := by
  unfold u_T_turn z_T_turn
  by_cases h : kF N x
  · rw [if_pos h, if_pos h]
    have h1 := c_T_turn hb (c := c) (r := r) (kF_lt h hb.2.2.2.1.2).1 (y := y) hy
    rw [← kF_nI h] at h1
    exact h1
  · rw [if_neg h, if_neg h]
    exact c_T_turn_o hb h
def u_T_replica (N L : Nat) (r : sh_S) (x : Int32) (y : Int32) : Int32 := if kF N x then v_T_replica N L r x.toNatClampNeg y else v_T_replica_o N L r x y
def z_T_replica (N L : Nat) (r : sh_S) (x : Int32) (y : Int32) : sh_S := if kF N x then s_T_replica N L r x.toNatClampNeg y else s_T_replica_o N L r x y
theorem cc_T_replica {B : sh_B} {Z : mx_Z} {N L : Nat} {cI cR cZ : ClassId} (hb : wB B Z N L cI cR cZ) {c r : sh_S} {x : Int32} {y : Int32}  : sc B Z y_T_replica b_T_replica 3 (some (.int)) (rmm 1 21) [.ref (B.2.1 20 0), .int x, .int y] (jn c r) (qe (some (.int (u_T_replica N L r x y))) (jn c (z_T_replica N L r x y))) := by
  unfold u_T_replica z_T_replica
  by_cases h : kF N x
  · rw [if_pos h, if_pos h]
    have h1 := c_T_replica hb (c := c) (r := r) (kF_lt h hb.2.2.2.1.2).1 (y := y)
    rw [← kF_nI h] at h1
    exact h1
  · rw [if_neg h, if_neg h]
    exact c_T_replica_o hb h
def u_T_slot (N L : Nat) (r : sh_S) (x : Int32) (y : Int32) : Int32 := if kF N x then v_T_slot N L r x.toNatClampNeg y else v_T_slot_o N L r x y
def z_T_slot (N L : Nat) (r : sh_S) (x : Int32) (y : Int32) : sh_S := if kF N x then s_T_slot N L r x.toNatClampNeg y else s_T_slot_o N L r x y
theorem cc_T_slot {B : sh_B} {Z : mx_Z} {N L : Nat} {cI cR cZ : ClassId} (hb : wB B Z N L cI cR cZ) {c r : sh_S} {x : Int32} {y : Int32} (hc : rK N r) : sc B Z y_T_slot b_T_slot 4 (some (.int)) (rmm 1 21) [.ref (B.2.1 20 0), .int x, .int y] (jn c r) (qe (some (.int (u_T_slot N L r x y))) (jn c (z_T_slot N L r x y))) := by
  unfold u_T_slot z_T_slot
  by_cases h : kF N x
  · rw [if_pos h, if_pos h]
    have h1 := c_T_slot hb (c := c) (r := r) (kF_lt h hb.2.2.2.1.2).1 (y := y) hc
    rw [← kF_nI h] at h1
    exact h1
  · rw [if_neg h, if_neg h]
    exact c_T_slot_o hb h
def u_T_waiting (N L : Nat) (r : sh_S) (x : Int32) (y : Int32) : Int32 := if kF N x then v_T_waiting N L r x.toNatClampNeg y else v_T_waiting_o N L r x y
def z_T_waiting (N L : Nat) (r : sh_S) (x : Int32) (y : Int32) : sh_S := if kF N x then s_T_waiting N L r x.toNatClampNeg y else s_T_waiting_o N L r x y
theorem cc_T_waiting {B : sh_B} {Z : mx_Z} {N L : Nat} {cI cR cZ : ClassId} (hb : wB B Z N L cI cR cZ) {c r : sh_S} {x : Int32} {y : Int32} (hc : rK N r) : sc B Z y_T_waiting b_T_waiting 3 (some (.int)) (rmm 2 42) [.ref (B.2.1 20 0), .int x, .int y] (jn c r) (qe (some (.int (u_T_waiting N L r x y))) (jn c (z_T_waiting N L r x y))) := by
  unfold u_T_waiting z_T_waiting
  by_cases h : kF N x
  · rw [if_pos h, if_pos h]
    have h1 := c_T_waiting hb (c := c) (r := r) (kF_lt h hb.2.2.2.1.2).1 (y := y) hc
    rw [← kF_nI h] at h1
    exact h1
  · rw [if_neg h, if_neg h]
    exact c_T_waiting_o hb h
/-! rows of the law's own frame -/
def mx_scr (X : mx_C) (b L : Nat) (xs : Nat → Int32) : Prop := match X with
  | ((_, _, _, _, s, _, _, _, _, _), _, _, lo, _) => va_X b L xs s s.heap ∧ b < s.heap.size ∧ lo = s.heap.size
section LR
variable {X : mx_C} {Z : mx_Z} {own : String} {cc : ByteArray} {nL : Nat} {rm : Room} {n : Nat × Nat} {pc : Nat} {lv : List (Nat × Value)} {st : List Value} {ws : va_W} {b L : Nat} {xs : Nat → Int32}
theorem mr_sld (ok : mx_ok X Z own cc nL rm) (hs : mx_scr X b L xs) {x : Int32} {j : Nat} (hx : x = nI j) (hj : j < L) (hL : L ≤ 100000) (hd : decode cc pc = .ok (.iaload, 1)) (kk : mx X n (pc + 1) lv (.int (xs j) :: st) ws) : mx X n pc lv (.int x :: .ref b :: st) ws := by
  obtain ⟨⟨p, l, e, R, s, m, args, below, meth, c⟩, D, tys, lo, Q⟩ := X
  intro ls H locs hl hP hD hS
  obtain ⟨h1, h2, h3⟩ := hs
  subst hx
  refine va_sld ok.1 ok.2.1 h1 h2 (show ¬ lo ≤ b by omega) hS (vp_at hj hL).1 hd ?_
  rw [(vp_at hj hL).2]
  exact kk ls H locs hl hP hD hS
theorem mr_slen (ok : mx_ok X Z own cc nL rm) (hs : mx_scr X b L xs) (hd : decode cc pc = .ok (.arraylength, 1)) (kk : mx X n (pc + 1) lv (.int (nI L) :: st) ws) : mx X n pc lv (.ref b :: st) ws := by
  obtain ⟨⟨p, l, e, R, s, m, args, below, meth, c⟩, D, tys, lo, Q⟩ := X
  intro ls H locs hl hP hD hS
  obtain ⟨h1, h2, h3⟩ := hs
  exact va_slen ok.1 ok.2.1 h1 h2 (show ¬ lo ≤ b by omega) hS hd (kk ls H locs hl hP hD hS)
end LR
def cv (L : Nat) (xs : Nat → Int32) (j : Nat) : Int32 := if j < L then xs j else 0
set_option maxHeartbeats 4000000 in
set_option maxRecDepth 100000 in
theorem c_W_cell (l : Launch) {b L : Nat} {xs : Nat → Int32} {j : Nat} (hL : L ≤ 100000) (hj : j ≤ 100000) : Met l y_W_cell (Cond.code y_W_cell b_W_cell 2 (some .int) :: mx_tbl) (rmm 0 0) (va_Pc [.ref b, .int (nI j)] (fun U => va_X b L xs U U.heap ∧ b < U.heap.size)) (vp_Si (fun r => r = cv L xs j)) 0 0 (fun _ => False) := by
  refine Met.ofW (cc := b_W_cell) (maxL := 2) (ret := some .int) (by decide) rfl ?_
  intro p e s m args below meth c s₁ B hml hv
  obtain ⟨rfl, hX, hbl⟩ := hv
  have hx := B.exec
  have hb := B.bytes
  have hr := B.returns
  have hlocks := B.notSynchronized
  have hl := lv_entry ([.ref b, .int (nI j)]) (n := 2) (Nat.le_of_ble_eq_true rfl)
  rw [lg_entry_eq]
  generalize (lg_sl ([.ref b, .int (nI j)]) ++ List.replicate (2 - (lg_sl ([.ref b, .int (nI j)])).length) Slot.unset).toArray = ls at hl ⊢
  have hl : lv_has ls 2 [(0, .ref b), (1, .int (nI j))] := hl
  have hS : va_S (fun _ => False) s.heap s.heap [] := va_S.rf
  refine lv_iload_n hx hb d_W_cell_0 rfl (lv_at hl 1 rfl) ?_
  refine lv_aload_n hx hb d_W_cell_1 rfl (lv_at hl 0 rfl) ?_
  refine va_slen hx hb hX hbl (fun z => z) hS d_W_cell_2 ?_
  refine lv_icmp_ge (tgt := 12) hx hb d_W_cell_3 (by decide) (fun h => ?_) (fun h => ?_)
  · refine lv_iconst (v := 0) hx hb d_W_cell_12 (by decide) ?_
    refine W.iret (v := 0) hx hb hr (fun t ht hW => ⟨0, rfl, ?_, ht⟩) (fun q hq => by cases hq) d_W_cell_13
    unfold cv
    rw [if_neg (fun z => absurd h (nI_ge z (by omega)))]
  · have hj2 : j < L := Nat.lt_of_not_le fun z => h (nI_le z (by omega))
    refine lv_aload_n hx hb d_W_cell_6 rfl (lv_at hl 0 rfl) ?_
    refine lv_iload_n hx hb d_W_cell_7 rfl (lv_at hl 1 rfl) ?_
    refine va_sld hx hb hX hbl (fun z => z) hS (vp_at hj2 hL).1 d_W_cell_8 ?_
    refine lv_goto (tgt := 13) hx hb d_W_cell_9 (by decide) ?_
    refine W.iret hx hb hr (fun t ht hW => ⟨_, rfl, ?_, ht⟩) (fun q hq => by cases hq) d_W_cell_13
    unfold cv
    rw [if_pos hj2, (vp_at hj2 hL).2]
theorem mr_cell {X : mx_C} {Z : mx_Z} {nL : Nat} {rm : Room} {n : Nat × Nat} {pc : Nat} {lv : List (Nat × Value)} {st : List Value} {ws : va_W} {b L : Nat} {xs : Nat → Int32} {cc : ByteArray} (ok : mx_ok X Z R_W cc nL rm) (hs : mx_scr X b L xs) {x : Int32} (j : Nat) (hx : x = nI j) (hL : L ≤ 100000) (hj : j ≤ 100000) (hst : (st.map fun v => v.category).sum ≤ 8) (hR : 1 ≤ rm.frames ∧ 8 + (2 + 11) + 0 ≤ rm.locals) (hn : n.1 ≤ rm.cells ∧ n.2 ≤ rm.slots) (hd : decode cc pc = .ok (.invokestatic 9, 3)) (kk : mx X n (pc + 3) lv (.int (cv L xs j) :: st) ws) : mx X n pc lv (.int x :: .ref b :: st) ws := by
  obtain ⟨⟨p, l, e, R, s, m, args, below, meth, c⟩, D, tys, lo, Q⟩ := X
  intro ls H locs hl hP hD hS
  obtain ⟨hX, h2, h3⟩ := hs
  obtain ⟨hx', hb, hml, hown, hw, hK, hlo, rfl, rfl⟩ := ok
  subst hx
  have hH : H[b]? = s.heap[b]? := hS.2.1 b h2 (show ¬ lo ≤ b by omega)
  refine vp_callSi (W.runS (As := [.ref b, .int (nI j)]) (rest := st) ⟨hx', hb, hml, hown, hw⟩ (c_W_cell l (b := b) (L := L) (xs := xs) hL hj) ⟨mx_callB (rm' := rmm 0 0) hw cb_W_9 hR, hw _ cs_W_cell⟩ ⟨?_, ?_⟩ rfl rfl (by rw [← hml]; exact hl.1.1) rfl (by show 2 * 0 + _ ≤ 8; omega) hd ⟨hn.1, hn.2⟩) (fun r hr => ?_)
  · intro a U g mk q
    exact ⟨q.1, q.2.1.moved (u := U) (U := U.calling g mk a) (Vm.Alike.refl U.vm), q.2.2⟩
  · intro U hU hW
    refine ⟨rfl, ?_, ?_⟩
    · rw [hU]
      exact (hX.kept hH).moved hW.alike
    · rw [hU]
      exact Nat.lt_of_lt_of_le h2 hS.1
  · rw [hr]
    exact kk ls H locs hl hP hD hS
