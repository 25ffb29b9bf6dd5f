/-! contracts that need one word of the nest besides -/
def mx_nw (X : mx_C) (w : Cond) : Prop := match X with
  | ((_, _, _, _, s, _, _, _, _, _), _, _, _, _) => va_Nw w s ∧ va_AO R_R s
def mx_wdN (w : Cond) (D : va_G) (tys : List (ClassId × FieldType)) (lo : Nat) (ws : va_W) (U : State) : Prop := mx_wd D tys lo ws U ∧ va_Nw w U ∧ va_AO R_R U
def mx_ctN (w : Cond) (Z : mx_Z) (y : MethodName) (b : ByteArray) (maxL : Nat) (ret : Option FieldType) (rm : Room) (av : List Value) (ws : va_W) (Qp : Option Value → va_W → Prop) : Prop :=
  ∀ lo : Nat, Met Z.1 y (Cond.code y b maxL ret :: mx_tbl) rm (va_Pc av (mx_wdN w Z.2.1 Z.2.2 lo ws)) (mx_qc Z.2.1 Z.2.2 lo Qp) rm.cells rm.slots (fun q => lo ≤ q)
theorem ct_ofN {w : Cond} {Z : mx_Z} {y : MethodName} {b : ByteArray} {maxL : Nat} {ret : Option FieldType} {rm : Room} {av : List Value} {ws : va_W} {Qp : Option Value → va_W → Prop} (hy : plainName y.cls = true) (hlen : (lg_sl av).length ≤ maxL) (hcat : ∀ v ∈ av, v.category = 1)
    (body : ∀ X : mx_C, mx_ok X Z y.cls b maxL rm → mx_end X ret rm Qp → mx_nm X y.name → mx_nw X w → mx X (0, 0) 0 (lv_args 0 av) [] ws) : mx_ctN w Z y b maxL ret rm av ws Qp := by
  intro lo
  obtain ⟨l, D, tys⟩ := Z
  refine Met.ofW (cc := b) (maxL := maxL) (ret := ret) hy rfl ?_
  intro p e s m args below meth c s₁ B hml hv
  obtain ⟨rfl, ⟨hlo, hP, hD, hK⟩, hnw⟩ := hv
  have hts := atoms_spec (ws := Cond.code y b maxL ret :: mx_tbl) B.pre
  have hown : s.vm.findClass y.cls = some m.cls := findClass_of_methodNamed B.named
  have hl := lv_entry av (n := maxL) hlen
  rw [lg_entry_eq]
  refine body ((p, l, e, rm, s, m, av.toArray, below, meth, c), D, tys, lo, MQ below (mx_qc D tys lo Qp) av.toArray s rm.cells rm.slots (fun q => lo ≤ q)) ⟨B.exec, B.bytes, hml, hown, fun w h => hts w (List.mem_cons_of_mem _ h), hK, hlo, rfl, rfl⟩ ⟨B.returns, B.notSynchronized, rfl⟩ (name_of_methodNamed B.named B.method).1 hnw _ s.heap [] ?_ hP hD va_S.rf
  rw [hml]
  exact ⟨⟨hl.1, hl.2.1, fun q hq => hl.2.2 q (mem_of_nz _ _ hq)⟩, fun q hq => hcat _ (lv_args_mem _ _ _ (mem_of_nz _ _ hq))⟩
section KN
variable {X : mx_C} {Z : mx_Z} {own : String} {cc : ByteArray} {nL : Nat} {rm : Room} {n : Nat × Nat} {pc : Nat} {lv : List (Nat × Value)} {st : List Value} {ws : va_W}
/-- a private constructor of a nest mate -/
theorem mr_callIN (ok : mx_ok X Z own cc nL rm) {idx k : Nat} {host : String} {y : MethodName} {b : ByteArray} {maxL : Nat} {rm' : Room} {a : Nat} {As : List Value} {Qp : Option Value → va_W → Prop} (hnw : mx_nw X (.methodLinkNest own idx y host)) (cb : Cond.initialized y.cls ∈ mx_tbl ∧ Cond.code y b maxL none ∈ mx_tbl ∧ (y.cls ≠ "java/lang/invoke/MethodHandle" ∧ y.cls ≠ "java/lang/invoke/VarHandle" ∧ (parseMethodDescriptor y.desc).map (fun d => d.parameters.length) = some k)) (ci : y.name = "<init>" ∧ Cond.instanceMethod y ∈ mx_tbl) (hC : mx_ct Z y b maxL none rm' (.ref a :: As) ws Qp) (hk : As.length = k) (hst : (st.map fun v => v.category).sum ≤ 8) (hR : rm'.frames + 1 ≤ rm.frames ∧ 8 + (maxL + 11) + rm'.locals ≤ rm.locals) (h1 : n.1 + rm'.cells ≤ rm.cells) (h2 : n.2 + rm'.slots ≤ rm.slots) (hd : decode cc pc = .ok (.invokespecial idx, 3)) {st0 : List Value} (hs0 : st0 = As.reverse ++ .ref a :: st)
    (kk : ∀ (v : Option Value) (ws' : va_W), Qp v ws' → mx X (n.1 + rm'.cells, n.2 + rm'.slots) (pc + 3) lv (v.toList ++ st) ws') : mx X n pc lv st0 ws := by
  obtain ⟨⟨p, l, e, R, s, m, args, below, meth, c⟩, D, tys, lo, Q⟩ := X
  intro ls H locs hl hP hD hS
  obtain ⟨hx, hb, hml, hown, hw, hK, hlo, rfl, rfl⟩ := ok
  subst hs0
  have hG : GoodIn mx_tbl (Cond.code y b maxL none :: mx_tbl) := mx_goodIn fun w h => by
    rcases List.mem_cons.mp h with h | h
    · rw [h]; exact cb.2.1
    · exact h
  refine mx_after (va_runIN (As := As) (rest := st) ⟨hx, hb, hml, hown, hw⟩ (hC lo) ⟨va_cnB k hw hG rfl rfl rfl hnw.1 (hw _ cb.1) cb.2.2 hR, ci.1, hw _ ci.2⟩ ⟨mx_blind, fun U hU hW => ⟨rfl, by rw [hU]; exact Nat.le_trans hlo hS.1, by rw [hU]; exact hP, hD, va_K.moved hW.alike hK⟩⟩ rfl hk (by rw [← hml]; exact hl.1.1) rfl (by show 2 * 0 + _ ≤ 8; omega) hd ⟨h1, h2⟩) hS (fun v ws' H1 locs1 hq hP1 hD1 hS1 => kk v ws' hq ls H1 locs1 hl hP1 hD1 hS1)
theorem mr_anewaN (ok : mx_ok X Z own cc nL rm) {w : Cond} (hnw : mx_nw X w) {x : Int32} (N : Nat) {idx : Nat} (t0 : Nat) {cA : ClassId} (ht : Z.2.2[t0]? = some (cA, .object R_R)) (hclk : Cond.classLink own idx R_R ∈ mx_tbl) (hx : ¬ x < 0) (hN : x.toNatClampNeg = N) (hb : N * 4 ≤ 536870912) (h1 : n.1 + 1 ≤ rm.cells) (h2 : n.2 + N ≤ rm.slots) (hd : decode cc pc = .ok (.anewarray idx, 3))
    (kk : ∀ q : Nat, mx X (n.1 + 1, n.2 + N) (pc + 3) lv (.ref q :: st) (ws ++ [(q, .inl (cA, N, .inr (.inr (.inr (.inr (fun _ => none))))))])) : mx X n pc lv (.int x :: st) ws := by
  obtain ⟨⟨p, l, e, R, s, m, args, below, meth, c⟩, D, tys, lo, Q⟩ := X
  intro ls H locs hl hP hD hS
  have hR := ok.2.2.2.2.2.2.2.1
  have hZ := ok.2.2.2.2.2.2.2.2
  subst hZ
  refine va_newq (N' := N) ok.1 ok.2.1 ok.2.2.2.1 (ok.2.2.2.2.1 _ hclk) hnw.2 ok.2.2.2.2.2.1 hP hD hS (fun q h => Nat.le_trans ok.2.2.2.2.2.2.1 h) hx hN hb (by rw [hR]; exact h1) (by rw [hR]; exact h2) hd (fun q cB H1 hK1 hP1 hD1 hS1 => ?_)
  have e1 := (ok.2.2.2.2.2.1.2 t0 _ ht).2
  have e2 := (hK1.2 tys.length (cB, .object R_R) (by simp)).2
  obtain ⟨_, _, _, _, _, e1⟩ := e1
  obtain ⟨_, _, _, _, _, e2⟩ := e2
  have e3 : cA = cB := Option.some.inj (Eq.trans (Eq.symm e1) e2)
  subst e3
  exact kk q ls H1 locs hl hP1 hD1 hS1
theorem mx_blindN {w : Cond} (hw : w.onTables = true) {D : va_G} {tys : List (ClassId × FieldType)} {lo : Nat} {ws : va_W} {av : List Value} : FrameBlind (va_Pc av (mx_wdN w D tys lo ws)) := fun a U g mk q => by
  obtain ⟨q0, ⟨q1, qP, qD, qK⟩, qN⟩ := q
  exact ⟨q0, ⟨q1, qP, qD, va_K.moved (u := U) (U := U.calling g mk a) (Vm.Alike.refl U.vm) qK⟩, va_Nw.same (u := U) (U := U.calling g mk a) hw rfl qN.1, va_AO.moved (u := U) (U := U.calling g mk a) (Vm.Alike.refl U.vm) qN.2⟩
/-- a constructor whose contract needs a word of the nest -/
theorem mr_callIw (ok : mx_ok X Z own cc nL rm) {idx k : Nat} {own' : String} {idx' : Nat} {y' : MethodName} {host' : String} {y : MethodName} {b : ByteArray} {maxL : Nat} {rm' : Room} {a : Nat} {As : List Value} {Qp : Option Value → va_W → Prop} (hnw : mx_nw X (.methodLinkNest own' idx' y' host')) (cb : mx_cB own idx y b maxL none k) (ci : y.name = "<init>" ∧ Cond.instanceMethod y ∈ mx_tbl) (hC : mx_ctN (.methodLinkNest own' idx' y' host') Z y b maxL none rm' (.ref a :: As) ws Qp) (hk : As.length = k) (hst : (st.map fun v => v.category).sum ≤ 8) (hR : rm'.frames + 1 ≤ rm.frames ∧ 8 + (maxL + 11) + rm'.locals ≤ rm.locals) (h1 : n.1 + rm'.cells ≤ rm.cells) (h2 : n.2 + rm'.slots ≤ rm.slots) (hd : decode cc pc = .ok (.invokespecial idx, 3)) {st0 : List Value} (hs0 : st0 = As.reverse ++ .ref a :: st)
    (kk : ∀ (v : Option Value) (ws' : va_W), Qp v ws' → mx X (n.1 + rm'.cells, n.2 + rm'.slots) (pc + 3) lv (v.toList ++ st) ws') : mx X n pc lv st0 ws := by
  obtain ⟨⟨p, l, e, R, s, m, args, below, meth, c⟩, D, tys, lo, Q⟩ := X
  intro ls H locs hl hP hD hS
  obtain ⟨hx, hb, hml, hown, hw, hK, hlo, rfl, rfl⟩ := ok
  subst hs0
  refine mx_after (va_runI (As := As) (rest := st) ⟨hx, hb, hml, hown, hw⟩ (hC lo) ⟨mx_callB hw cb hR, ci.1, hw _ ci.2⟩ ⟨mx_blindN rfl, fun U hU hW => ⟨rfl, ⟨by rw [hU]; exact Nat.le_trans hlo hS.1, by rw [hU]; exact hP, hD, va_K.moved hW.alike hK⟩, va_Nw.warmM hW hnw.1, va_AO.moved hW.alike hnw.2⟩⟩ rfl hk (by rw [← hml]; exact hl.1.1) rfl (by show 2 * 0 + _ ≤ 8; omega) hd ⟨h1, h2⟩) hS (fun v ws' H1 locs1 hq hP1 hD1 hS1 => kk v ws' hq ls H1 locs1 hl hP1 hD1 hS1)
end KN
theorem wl_set {ws : va_W} {q0 : Nat} {p e : Nat × va_E} (h : ws[q0]? = some p) : (ws.set q0 e)[q0]? = some e := List.getElem?_set_self (List.getElem?_eq_some_iff.mp h).1
theorem wl_app {ws l : va_W} {q0 : Nat} {p : Nat × va_E} (h : ws[q0]? = some p) : (ws ++ l)[q0]? = some p := by
  rw [List.getElem?_append_left (List.getElem?_eq_some_iff.mp h).1]
  exact h
theorem wl_sapp {ws l : va_W} {q0 : Nat} {p e : Nat × va_E} (h : ws[q0]? = some p) : (ws ++ l).set q0 e = ws.set q0 e ++ l := List.set_append_left _ _ (List.getElem?_eq_some_iff.mp h).1
theorem wl_end {ws : va_W} {c : Nat × va_E} : (ws ++ [c])[ws.length]? = some c := by simp
theorem wl_send {ws : va_W} {c e : Nat × va_E} : (ws ++ [c]).set ws.length e = ws ++ [e] := by simp
theorem wl_set2 {ws : va_W} {q0 : Nat} {e e' : Nat × va_E} : (ws.set q0 e).set q0 e' = ws.set q0 e' := List.set_set ..
theorem wl_len {ws : va_W} {q0 : Nat} {e : Nat × va_E} : (ws.set q0 e).length = ws.length := List.length_set
abbrev rmc (f k s l : Nat) : Room := { frames := f, cells := k, slots := s, locals := l }
set_option maxHeartbeats 4000000 in
set_option maxRecDepth 100000 in
theorem c_G_init {Z : mx_Z} {cI : ClassId} (hz : Z.2.2[0]? = some (cI, .int)) {ws : va_W} {q0 a : Nat} {x : Int32} (h0 : ws[q0]? = some (a, .inr (2, [.int 0, .null, .int 0, .int 0, .int 0]))) : mx_ct Z y_G_init b_G_init 2 none (rmc 1 1 32 20) [.ref a, .int x] ws (fun v ws' => v = none ∧ ∃ q : Nat, ws' = ws.set q0 (a, .inr (2, [.int x, .ref q, .int 0, .int 0, .int 0])) ++ [(q, .inl (cI, 32, .inl (fun _ => 0)))]) := by
  refine ct_of (by decide) (Nat.le_of_ble_eq_true rfl) (cat_of rfl) ?_
  intro X ok en hnm
  refine mr_lv [(0, .ref a), (1, .int x)] ⟨rfl, rfl, trivial⟩ ?_
  refine mr_aload_n ok (i := 0) d_G_init_0 rfl rfl ?_
  refine mr_objInit ok (mw 79 rfl rfl) (mw 59 rfl rfl) (mw 60 rfl rfl) (by decide) (Nat.le_of_ble_eq_true rfl) d_G_init_1 ?_
  refine mr_aload_n ok (i := 0) d_G_init_4 rfl rfl ?_
  refine mr_iload_n ok (i := 1) d_G_init_5 rfl rfl ?_
  refine mr_putF ok hnm fF_G_9 q0 h0 (by decide) rfl rfl d_G_init_6 ?_
  refine mr_aload_n ok (i := 0) d_G_init_9 rfl rfl ?_
  refine mr_bipush ok 32 d_G_init_10 (by decide) ?_
  refine mr_newa ok 32 0 hz (mw 99 rfl rfl) (by decide) (by decide) (by decide) (by decide) (by decide) rfl d_G_init_12 (fun q => ?_)
  refine mr_putF ok hnm fF_G_15 q0 (wl_app (wl_set h0)) (Nat.le_of_ble_eq_true rfl) rfl rfl d_G_init_14 ?_
  refine mr_vret ok en (by decide) (by decide) d_G_init_17 ⟨rfl, q, ?_⟩
  rw [wl_sapp (wl_set h0), wl_set2]
  rfl
set_option maxHeartbeats 4000000 in
set_option maxRecDepth 100000 in
theorem c_L_init {Z : mx_Z} {cI : ClassId} (hz : Z.2.2[0]? = some (cI, .int)) {ws : va_W} {q0 a : Nat} (h0 : ws[q0]? = some (a, .inr (1, [.null, .int 0]))) : mx_ct Z y_L_init b_L_init 1 none (rmc 1 1 8 20) [.ref a] ws (fun v ws' => v = none ∧ ∃ q : Nat, ws' = ws.set q0 (a, .inr (1, [.ref q, .int 0])) ++ [(q, .inl (cI, 8, .inl (fun _ => 0)))]) := by
  refine ct_of (by decide) (Nat.le_of_ble_eq_true rfl) (cat_of rfl) ?_
  intro X ok en hnm
  refine mr_lv [(0, .ref a)] ⟨rfl, trivial⟩ ?_
  refine mr_aload_n ok (i := 0) d_L_init_0 rfl rfl ?_
  refine mr_objInit ok (mw 105 rfl rfl) (mw 59 rfl rfl) (mw 60 rfl rfl) (by decide) (Nat.le_of_ble_eq_true rfl) d_L_init_1 ?_
  refine mr_aload_n ok (i := 0) d_L_init_4 rfl rfl ?_
  refine mr_bipush ok 8 d_L_init_5 (by decide) ?_
  refine mr_newa ok 8 0 hz (mw 99 rfl rfl) (by decide) (by decide) (by decide) (by decide) (by decide) rfl d_L_init_7 (fun q => ?_)
  refine mr_putF ok hnm fF_L_9 q0 (wl_app h0) (by decide) rfl rfl d_L_init_9 ?_
  refine mr_vret ok en (by decide) (by decide) d_L_init_12 ⟨rfl, q, ?_⟩
  rw [wl_sapp h0]
  rfl
set_option maxHeartbeats 4000000 in
set_option maxRecDepth 100000 in
theorem c_F_init {Z : mx_Z} {cI : ClassId} (hz : Z.2.2[0]? = some (cI, .int)) {ws : va_W} {q0 a : Nat} (h0 : ws[q0]? = some (a, .inr (0, [.null, .int 0, .int 0, .int 0]))) : mx_ct Z y_F_init b_F_init 1 none (rmc 1 1 1400 20) [.ref a] ws (fun v ws' => v = none ∧ ∃ q : Nat, ws' = ws.set q0 (a, .inr (0, [.ref q, .int 0, .int 0, .int 0])) ++ [(q, .inl (cI, 1400, .inl (fun _ => 0)))]) := by
  refine ct_of (by decide) (Nat.le_of_ble_eq_true rfl) (cat_of rfl) ?_
  intro X ok en hnm
  refine mr_lv [(0, .ref a)] ⟨rfl, trivial⟩ ?_
  refine mr_aload_n ok (i := 0) d_F_init_0 rfl rfl ?_
  refine mr_objInit ok (mw 177 rfl rfl) (mw 59 rfl rfl) (mw 60 rfl rfl) (by decide) (Nat.le_of_ble_eq_true rfl) d_F_init_1 ?_
  refine mr_aload_n ok (i := 0) d_F_init_4 rfl rfl ?_
  refine mr_sipush ok 1400 d_F_init_5 (by decide) ?_
  refine mr_newa ok 1400 0 hz (mw 99 rfl rfl) (by decide) (by decide) (by decide) (by decide) (by decide) rfl d_F_init_8 (fun q => ?_)
  refine mr_putF ok hnm fF_F_11 q0 (wl_app h0) (by decide) rfl rfl d_F_init_10 ?_
  refine mr_vret ok en (by decide) (by decide) d_F_init_13 ⟨rfl, q, ?_⟩
  rw [wl_sapp h0]
  rfl
set_option maxHeartbeats 4000000 in
set_option maxRecDepth 100000 in
theorem c_M_init {Z : mx_Z} {ws : va_W} {a : Nat} : mx_ct Z y_M_init b_M_init 1 none (rmc 1 0 0 20) [.ref a] ws (fun v ws' => v = none ∧ ws' = ws) := by
  refine ct_of (by decide) (Nat.le_of_ble_eq_true rfl) (cat_of rfl) ?_
  intro X ok en hnm
  refine mr_lv [(0, .ref a)] ⟨rfl, trivial⟩ ?_
  refine mr_aload_n ok (i := 0) d_M_init_0 rfl rfl ?_
  refine mr_objInit ok (mw 199 rfl rfl) (mw 59 rfl rfl) (mw 60 rfl rfl) (by decide) (Nat.le_of_ble_eq_true rfl) d_M_init_1 ?_
  refine mr_vret ok en (by decide) (by decide) d_M_init_4 ⟨rfl, rfl⟩
set_option maxHeartbeats 4000000 in
set_option maxRecDepth 100000 in
theorem c_R_init {Z : mx_Z} {cI : ClassId} (hz : Z.2.2[0]? = some (cI, .int)) {ws : va_W} {q0 a : Nat} {x y : Int32} (h0 : ws[q0]? = some (a, .inr (4, [.int 0, .null, .null, .int 0, .int 0, .int 0, .int 0, .int 0, .int 0, .int 0, .int 0, .int 0, .int 0, .int 0]))) : mx_ct Z y_R_init b_R_init 3 none (rmc 2 4 47 42) [.ref a, .int x, .int y] ws (fun v ws' => v = none ∧ ∃ q1 q2 q3 q4 : Nat, ws' = ws.set q0 (a, .inr (4, [.int x, .ref q1, .ref q3, .int 1, .int 0, .int 0, .int 0, .int 0, .int 0, .int 0, .int 0, .int 0, .int 0, .int 0])) ++ [(q1, .inr (2, [.int y, .ref q2, .int 0, .int 0, .int 0])), (q2, .inl (cI, 32, .inl (fun _ => 0))), (q3, .inr (1, [.ref q4, .int 0])), (q4, .inl (cI, 8, .inl (fun _ => 0)))]) := by
  refine ct_of (by decide) (Nat.le_of_ble_eq_true rfl) (cat_of rfl) ?_
  intro X ok en hnm
  refine mr_lv [(0, .ref a), (1, .int x), (2, .int y)] ⟨rfl, rfl, rfl, trivial⟩ ?_
  refine mr_aload_n ok (i := 0) d_R_init_0 rfl rfl ?_
  refine mr_objInit ok (mw 73 rfl rfl) (mw 59 rfl rfl) (mw 60 rfl rfl) (by decide) (Nat.le_of_ble_eq_true rfl) d_R_init_1 ?_
  refine mr_aload_n ok (i := 0) d_R_init_4 rfl rfl ?_
  refine mr_iload_n ok (i := 1) d_R_init_5 rfl rfl ?_
  refine mr_putF ok hnm fF_R_9 q0 h0 (by decide) rfl rfl d_R_init_6 ?_
  have h1 := wl_set (e := (a, .inr (4, [.int x, .null, .null, .int 0, .int 0, .int 0, .int 0, .int 0, .int 0, .int 0, .int 0, .int 0, .int 0, .int 0]))) h0
  refine mr_ws (ws' := ws.set q0 (a, .inr (4, [.int x, .null, .null, .int 0, .int 0, .int 0, .int 0, .int 0, .int 0, .int 0, .int 0, .int 0, .int 0, .int 0]))) rfl ?_
  generalize hw1 : ws.set q0 (a, .inr (4, [.int x, .null, .null, .int 0, .int 0, .int 0, .int 0, .int 0, .int 0, .int 0, .int 0, .int 0, .int 0, .int 0])) = w1 at h1 ⊢
  refine mr_aload_n ok (i := 0) d_R_init_9 rfl rfl ?_
  refine mr_new (ci := 2) ok rfl in_G tf_G ty_G (mw 74 rfl rfl) (mw 75 rfl rfl) (mw 46 rfl rfl) [.int 0, .null, .int 0, .int 0, .int 0] (fun j hj => by match j, hj with | 0, _ => rfl | 1, _ => rfl | 2, _ => rfl | 3, _ => rfl | 4, _ => rfl) (by decide) (by decide) d_R_init_10 (fun q1 => ?_)
  refine mr_dup ok d_R_init_13 rfl ?_
  refine mr_iload_n ok (i := 2) d_R_init_14 rfl rfl ?_
  refine mr_callI (As := [.int y]) ok cb_R_17 ci_G_init (c_G_init hz wl_end) rfl (Nat.le_of_ble_eq_true rfl) (by decide) (by decide) (by decide) d_R_init_15 rfl ?_
  rintro v _ ⟨rfl, q2, rfl⟩
  rw [wl_send]
  refine mr_putF ok hnm fF_R_20 q0 (wl_app (wl_app h1)) (Nat.le_of_ble_eq_true rfl) rfl rfl d_R_init_18 ?_
  rw [wl_sapp (wl_app h1), wl_sapp h1]
  have h2 := wl_set (e := (a, .inr (4, [.int x, .ref q1, .null, .int 0, .int 0, .int 0, .int 0, .int 0, .int 0, .int 0, .int 0, .int 0, .int 0, .int 0]))) h1
  refine mr_ws (ws' := w1.set q0 (a, .inr (4, [.int x, .ref q1, .null, .int 0, .int 0, .int 0, .int 0, .int 0, .int 0, .int 0, .int 0, .int 0, .int 0, .int 0])) ++ [(q1, .inr (2, [.int y, .ref q2, .int 0, .int 0, .int 0]))] ++ [(q2, .inl (cI, 32, .inl (fun _ => 0)))]) rfl ?_
  generalize hw2 : w1.set q0 (a, .inr (4, [.int x, .ref q1, .null, .int 0, .int 0, .int 0, .int 0, .int 0, .int 0, .int 0, .int 0, .int 0, .int 0, .int 0])) = w2 at h2 ⊢
  refine mr_aload_n ok (i := 0) d_R_init_21 rfl rfl ?_
  refine mr_new (ci := 1) ok rfl in_L tf_L ty_L (mw 100 rfl rfl) (mw 101 rfl rfl) (mw 47 rfl rfl) [.null, .int 0] (fun j hj => by match j, hj with | 0, _ => rfl | 1, _ => rfl) (by decide) (by decide) d_R_init_22 (fun q3 => ?_)
  refine mr_dup ok d_R_init_25 rfl ?_
  refine mr_callI (As := []) ok cb_R_26 ci_L_init (c_L_init hz wl_end) rfl (Nat.le_of_ble_eq_true rfl) (by decide) (by decide) (by decide) d_R_init_26 rfl ?_
  rintro v _ ⟨rfl, q4, rfl⟩
  rw [wl_send]
  refine mr_putF ok hnm fF_R_27 q0 (wl_app (wl_app (wl_app (wl_app h2)))) (Nat.le_of_ble_eq_true rfl) rfl rfl d_R_init_29 ?_
  rw [wl_sapp (wl_app (wl_app (wl_app h2))), wl_sapp (wl_app (wl_app h2)), wl_sapp (wl_app h2), wl_sapp h2]
  have h3 := wl_set (e := (a, .inr (4, [.int x, .ref q1, .ref q3, .int 0, .int 0, .int 0, .int 0, .int 0, .int 0, .int 0, .int 0, .int 0, .int 0, .int 0]))) h2
  refine mr_ws (ws' := w2.set q0 (a, .inr (4, [.int x, .ref q1, .ref q3, .int 0, .int 0, .int 0, .int 0, .int 0, .int 0, .int 0, .int 0, .int 0, .int 0, .int 0])) ++ [(q1, .inr (2, [.int y, .ref q2, .int 0, .int 0, .int 0]))] ++ [(q2, .inl (cI, 32, .inl (fun _ => 0)))] ++ [(q3, .inr (1, [.ref q4, .int 0]))] ++ [(q4, .inl (cI, 8, .inl (fun _ => 0)))]) rfl ?_
  generalize hw3 : w2.set q0 (a, .inr (4, [.int x, .ref q1, .ref q3, .int 0, .int 0, .int 0, .int 0, .int 0, .int 0, .int 0, .int 0, .int 0, .int 0, .int 0])) = w3 at h3 ⊢
  refine mr_aload_n ok (i := 0) d_R_init_32 rfl rfl ?_
  refine mr_iconst ok 1 d_R_init_33 (by decide) ?_
  refine mr_put ok fw_R_31 q0 (wl_app (wl_app (wl_app (wl_app h3)))) (Nat.le_of_ble_eq_true rfl) rfl rfl d_R_init_34 ?_
  rw [wl_sapp (wl_app (wl_app (wl_app h3))), wl_sapp (wl_app (wl_app h3)), wl_sapp (wl_app h3), wl_sapp h3]
  refine mr_vret ok en (by decide) (by decide) d_R_init_37 ⟨rfl, q1, q2, q3, q4, ?_⟩
  rw [← hw3, ← hw2, ← hw1, wl_set2, wl_set2, wl_set2]
  simp only [List.append_assoc, List.cons_append, List.nil_append]
  rfl
