/-! A WORLD OF FIXED SHAPE: addresses, references and lengths stay; the ints are one function S kind index place -/
abbrev sh_T : Type := (ClassId × Nat) ⊕ (ClassId × Nat × (Nat → Option Nat)) ⊕ (Nat × List (Option Value))
abbrev sh_S : Type := Nat → Nat → Nat → Int32
abbrev sh_L : Type := List (Nat × (Nat × Nat) × sh_T)
abbrev sh_B : Type := sh_L × (Nat → Nat → Nat) × (Nat → Nat → Option sh_T)
def sh_fs : List (Option Value) → (Nat → Int32) → Nat → List Value
  | [], _, _ => []
  | some v :: r, f, j => v :: sh_fs r f (j + 1)
  | none :: r, f, j => .int (f j) :: sh_fs r f (j + 1)
def sh_cell (t : sh_T) (f : Nat → Int32) : va_E := match t with
  | .inl (cA, n) => .inl (cA, n, .inl f)
  | .inr (.inl (cA, n, g)) => .inl (cA, n, .inr (.inr (.inr (.inr g))))
  | .inr (.inr (ci, tm)) => .inr (ci, sh_fs tm f 0)
def sh_ws (sh : sh_L) (S : sh_S) : va_W := sh.map (fun q => (q.1, sh_cell q.2.2 (S q.2.1.1 q.2.1.2)))
def sA (S : sh_S) (k i : Nat) (f : Nat → Int32) : sh_S := fun k' i' => bif Nat.beq k' k then (bif Nat.beq i' i then f else S k' i') else S k' i'
def sU (S : sh_S) (k i j : Nat) (v : Int32) : sh_S := fun k' i' j' => bif Nat.beq k' k then (bif Nat.beq j' j then (bif Nat.beq i' i then v else S k' i' j') else S k' i' j') else S k' i' j'
theorem sA_same (S : sh_S) (k i : Nat) (f : Nat → Int32) : sA S k i f k i = f := by
  unfold sA
  rw [Nat.beq_refl, Nat.beq_refl]
  rfl
theorem sA_ne (S : sh_S) {k i k' i' : Nat} (f : Nat → Int32) (h : ¬ (k' = k ∧ i' = i)) : sA S k i f k' i' = S k' i' := by
  unfold sA
  cases h1 : Nat.beq k' k with
  | false => rfl
  | true =>
    cases h2 : Nat.beq i' i with
    | false => rfl
    | true => exact absurd ⟨Nat.eq_of_beq_eq_true h1, Nat.eq_of_beq_eq_true h2⟩ h
theorem sU_sA (S : sh_S) (k i j : Nat) (v : Int32) : sA S k i (upd (S k i) j v) = sU S k i j v := by
  funext k' i' j'
  unfold sA sU upd
  cases h1 : Nat.beq k' k with
  | false => rfl
  | true =>
    cases h2 : Nat.beq i' i with
    | false =>
      simp only [cond_true, cond_false]
      cases Nat.beq j' j <;> rfl
    | true =>
      simp only [cond_true]
      have e1 := Nat.eq_of_beq_eq_true h1
      have e2 := Nat.eq_of_beq_eq_true h2
      subst e1; subst e2
      cases h3 : Nat.beq j' j with
      | true => simp [Nat.eq_of_beq_eq_true h3]
      | false =>
        have : ¬ j' = j := fun z => by rw [z, Nat.beq_refl] at h3; cases h3
        simp [this]
def sh_ok (sh : sh_L) : Prop := ∀ (q0 q1 : Nat) (e0 e1 : Nat × (Nat × Nat) × sh_T), sh[q0]? = some e0 → sh[q1]? = some e1 → e0.2.1 = e1.2.1 → q0 = q1
/-- the bundle: list, addresses, templates -/
def sh_F (B : sh_B) : Prop := sh_ok B.1 ∧ ∀ (k i : Nat) (t : sh_T), B.2.2 k i = some t → ∃ q0 : Nat, B.1[q0]? = some (B.2.1 k i, (k, i), t)
theorem sh_at {sh : sh_L} {S : sh_S} {q0 a k i : Nat} {t : sh_T} (h : sh[q0]? = some (a, (k, i), t)) : (sh_ws sh S)[q0]? = some (a, sh_cell t (S k i)) := by
  simp [sh_ws, h]
theorem sh_set {sh : sh_L} {S : sh_S} {q0 a k i : Nat} {t : sh_T} (ho : sh_ok sh) (h : sh[q0]? = some (a, (k, i), t)) (f : Nat → Int32) : (sh_ws sh S).set q0 (a, sh_cell t f) = sh_ws sh (sA S k i f) := by
  have hl : q0 < (sh_ws sh S).length := by
    have := (List.getElem?_eq_some_iff.mp h).1
    simpa [sh_ws] using this
  apply List.ext_getElem?
  intro j
  by_cases hj : j = q0
  · subst hj
    rw [List.getElem?_set_self hl, sh_at h, sA_same]
  · rw [List.getElem?_set_ne (Ne.symm hj)]
    simp only [sh_ws, List.getElem?_map]
    cases hx : sh[j]? with
    | none => rfl
    | some e =>
      have hne : ¬ (e.2.1.1 = k ∧ e.2.1.2 = i) := fun z => hj (ho j q0 e _ hx h (Prod.ext z.1 z.2))
      simp only [Option.map_some]
      rw [sA_ne S f hne]
theorem sh_fs_get : ∀ (tm : List (Option Value)) (f : Nat → Int32) (j k : Nat), (sh_fs tm f j)[k]? = (tm[k]?).map (fun o => o.getD (.int (f (j + k))))
  | [], f, j, k => by simp [sh_fs]
  | some v :: r, f, j, 0 => by simp [sh_fs]
  | none :: r, f, j, 0 => by simp [sh_fs]
  | some v :: r, f, j, k + 1 => by
    have := sh_fs_get r f (j + 1) k
    simp only [sh_fs, List.getElem?_cons_succ]
    rw [this, Nat.add_right_comm, Nat.add_assoc]
  | none :: r, f, j, k + 1 => by
    have := sh_fs_get r f (j + 1) k
    simp only [sh_fs, List.getElem?_cons_succ]
    rw [this, Nat.add_right_comm, Nat.add_assoc]
theorem sh_fs_len : ∀ (tm : List (Option Value)) (f : Nat → Int32) (j : Nat), (sh_fs tm f j).length = tm.length
  | [], f, j => rfl
  | some v :: r, f, j => by simp [sh_fs, sh_fs_len r f (j + 1)]
  | none :: r, f, j => by simp [sh_fs, sh_fs_len r f (j + 1)]
theorem sh_fs_set {tm : List (Option Value)} {k : Nat} (f : Nat → Int32) (x : Int32) (h : tm[k]? = some none) : (sh_fs tm f 0).set k (.int x) = sh_fs tm (upd f k x) 0 := by
  have hk := (List.getElem?_eq_some_iff.mp h).1
  apply List.ext_getElem?
  intro j
  by_cases hj : j = k
  · subst hj
    rw [List.getElem?_set_self (by rw [sh_fs_len]; exact hk), sh_fs_get, h]
    simp [upd]
  · rw [List.getElem?_set_ne (Ne.symm hj), sh_fs_get, sh_fs_get]
    simp [upd, hj]
abbrev sx (B : sh_B) (X : mx_C) (n : Nat × Nat) (pc : Nat) (lv : List (Nat × Value)) (st : List Value) (S : sh_S) : Prop := mx X n pc lv st (sh_ws B.1 S)
/-- a contract over the shape, and its end -/
def sx_q (B : sh_B) (Qs : Option Value → sh_S → Prop) : Option Value → va_W → Prop := fun v ws' => ∃ S' : sh_S, ws' = sh_ws B.1 S' ∧ Qs v S'
abbrev sc (B : sh_B) (Z : mx_Z) (y : MethodName) (b : ByteArray) (maxL : Nat) (ret : Option FieldType) (rm : Room) (av : List Value) (S : sh_S) (Qs : Option Value → sh_S → Prop) : Prop := mx_ct Z y b maxL ret rm av (sh_ws B.1 S) (sx_q B Qs)
abbrev sx_end (B : sh_B) (X : mx_C) (ret : Option FieldType) (rm : Room) (Qs : Option Value → sh_S → Prop) : Prop := mx_end X ret rm (sx_q B Qs)
theorem sx_geti {X : mx_C} {Z : mx_Z} {own : String} {cc : ByteArray} {nL : Nat} {rm : Room} {n : Nat × Nat} {pc : Nat} {lv : List (Nat × Value)} {st : List Value} {B : sh_B} {S : sh_S} (ok : mx_ok X Z own cc nL rm) (hB : sh_F B) {idx ci kf kd i : Nat} {tm : List (Option Value)} (fl : mx_fl own idx ci kf) (ht : B.2.2 kd i = some (.inr (.inr (ci, tm)))) (hk : tm[kf]? = some none) (hd : decode cc pc = .ok (.getfield idx, 3)) (kk : sx B X n (pc + 3) lv (.int (S kd i kf) :: st) S) : sx B X n pc lv (.ref (B.2.1 kd i) :: st) S := by
  obtain ⟨q0, h0⟩ := hB.2 kd i _ ht
  refine mr_get ok fl q0 (sh_at h0) (v := .int (S kd i kf)) ?_ hd kk
  rw [sh_fs_get, hk]
  simp
theorem sx_getr {X : mx_C} {Z : mx_Z} {own : String} {cc : ByteArray} {nL : Nat} {rm : Room} {n : Nat × Nat} {pc : Nat} {lv : List (Nat × Value)} {st : List Value} {B : sh_B} {S : sh_S} (ok : mx_ok X Z own cc nL rm) (hB : sh_F B) {idx ci kf kd i : Nat} {tm : List (Option Value)} {v : Value} (fl : mx_fl own idx ci kf) (ht : B.2.2 kd i = some (.inr (.inr (ci, tm)))) (hk : tm[kf]? = some (some v)) (hd : decode cc pc = .ok (.getfield idx, 3)) (kk : sx B X n (pc + 3) lv (v :: st) S) : sx B X n pc lv (.ref (B.2.1 kd i) :: st) S := by
  obtain ⟨q0, h0⟩ := hB.2 kd i _ ht
  refine mr_get ok fl q0 (sh_at h0) (v := v) ?_ hd kk
  rw [sh_fs_get, hk]
  simp
theorem sx_put {X : mx_C} {Z : mx_Z} {own : String} {cc : ByteArray} {nL : Nat} {rm : Room} {n : Nat × Nat} {pc : Nat} {lv : List (Nat × Value)} {st : List Value} {B : sh_B} {S : sh_S} (ok : mx_ok X Z own cc nL rm) (hB : sh_F B) {idx ci kf kd i : Nat} {tm : List (Option Value)} {ty : FieldType} {x : Int32} (fl : mx_fw own idx ci kf ty) (ht : B.2.2 kd i = some (.inr (.inr (ci, tm)))) (hk : tm[kf]? = some none) (hn : narrow ty (.int x) = .int x) (hf : fits ty (.int x) = true) (hd : decode cc pc = .ok (.putfield idx, 3)) (kk : sx B X n (pc + 3) lv st (sU S kd i kf x)) : sx B X n pc lv (.int x :: .ref (B.2.1 kd i) :: st) S := by
  obtain ⟨q0, h0⟩ := hB.2 kd i _ ht
  refine mr_put ok fl q0 (sh_at h0) (by rw [sh_fs_len]; exact (List.getElem?_eq_some_iff.mp hk).1) hn hf hd ?_
  rw [sh_fs_set _ _ hk]
  have e := sh_set (S := S) hB.1 h0 (upd (S kd i) kf x)
  rw [sU_sA] at e
  exact mr_ws e kk
theorem sx_iald {X : mx_C} {Z : mx_Z} {own : String} {cc : ByteArray} {nL : Nat} {rm : Room} {n : Nat × Nat} {pc : Nat} {lv : List (Nat × Value)} {st : List Value} {B : sh_B} {S : sh_S} (ok : mx_ok X Z own cc nL rm) (hB : sh_F B) {kd i t0 N : Nat} {cA : ClassId} {x : Int32} (ht : B.2.2 kd i = some (.inl (cA, N))) (hty : Z.2.2[t0]? = some (cA, .int)) (hin : vp_in x N) (hd : decode cc pc = .ok (.iaload, 1)) (kk : sx B X n (pc + 1) lv (.int (S kd i x.toNatClampNeg) :: st) S) : sx B X n pc lv (.int x :: .ref (B.2.1 kd i) :: st) S := by
  obtain ⟨q0, h0⟩ := hB.2 kd i _ ht
  exact mr_iald ok q0 t0 (sh_at h0) hty hin hd kk
theorem sx_iast {X : mx_C} {Z : mx_Z} {own : String} {cc : ByteArray} {nL : Nat} {rm : Room} {n : Nat × Nat} {pc : Nat} {lv : List (Nat × Value)} {st : List Value} {B : sh_B} {S : sh_S} (ok : mx_ok X Z own cc nL rm) (hB : sh_F B) {kd i t0 N : Nat} {cA : ClassId} {x v : Int32} (ht : B.2.2 kd i = some (.inl (cA, N))) (hty : Z.2.2[t0]? = some (cA, .int)) (hin : vp_in x N) (hd : decode cc pc = .ok (.iastore, 1)) (kk : sx B X n (pc + 1) lv st (sU S kd i x.toNatClampNeg v)) : sx B X n pc lv (.int v :: .int x :: .ref (B.2.1 kd i) :: st) S := by
  obtain ⟨q0, h0⟩ := hB.2 kd i _ ht
  refine mr_iast ok q0 t0 (sh_at h0) hty hin hd ?_
  have e := sh_set (S := S) hB.1 h0 (upd (S kd i) x.toNatClampNeg v)
  rw [sU_sA] at e
  exact mr_ws e kk
theorem sx_aald {X : mx_C} {Z : mx_Z} {own : String} {cc : ByteArray} {nL : Nat} {rm : Room} {n : Nat × Nat} {pc : Nat} {lv : List (Nat × Value)} {st : List Value} {B : sh_B} {S : sh_S} (ok : mx_ok X Z own cc nL rm) (hB : sh_F B) {kd i t0 N : Nat} {cA : ClassId} {C : String} {g : Nat → Option Nat} {x : Int32} (ht : B.2.2 kd i = some (.inr (.inl (cA, N, g)))) (hty : Z.2.2[t0]? = some (cA, .object C)) (hin : vp_in x N) (hd : decode cc pc = .ok (.aaload, 1)) (kk : sx B X n (pc + 1) lv (va_rf (g x.toNatClampNeg) :: st) S) : sx B X n pc lv (.int x :: .ref (B.2.1 kd i) :: st) S := by
  obtain ⟨q0, h0⟩ := hB.2 kd i _ ht
  exact mr_aald ok q0 t0 (sh_at h0) hty hin hd kk
theorem sx_alen {X : mx_C} {Z : mx_Z} {own : String} {cc : ByteArray} {nL : Nat} {rm : Room} {n : Nat × Nat} {pc : Nat} {lv : List (Nat × Value)} {st : List Value} {B : sh_B} {S : sh_S} (ok : mx_ok X Z own cc nL rm) (hB : sh_F B) {kd i t0 N : Nat} {cA : ClassId} (ht : B.2.2 kd i = some (.inl (cA, N))) (hty : Z.2.2[t0]? = some (cA, .int)) (hd : decode cc pc = .ok (.arraylength, 1)) (kk : sx B X n (pc + 1) lv (.int (nI N) :: st) S) : sx B X n pc lv (.ref (B.2.1 kd i) :: st) S := by
  obtain ⟨q0, h0⟩ := hB.2 kd i _ ht
  exact mr_alen ok q0 t0 (sh_at h0) hty (nI N) rfl hd kk
theorem sx_copy {X : mx_C} {Z : mx_Z} {own : String} {cc : ByteArray} {nL : Nat} {rm : Room} {n : Nat × Nat} {pc : Nat} {lv : List (Nat × Value)} {st : List Value} {B : sh_B} {S : sh_S} (ok : mx_ok X Z own cc nL rm) (hB : sh_F B) {idx : Nat} (cw : Cond.methodLink own idx arraycopyName ∈ mx_tbl ∧ Cond.native arraycopyName ∈ mx_tbl ∧ Cond.static arraycopyName ∈ mx_tbl ∧ Cond.initialized "java/lang/System" ∈ mx_tbl) {kd i kd' i' t0 N N' : Nat} {cA : ClassId} {sp dp k : Int32} (ht : B.2.2 kd i = some (.inl (cA, N))) (ht' : B.2.2 kd' i' = some (.inl (cA, N'))) (hty : Z.2.2[t0]? = some (cA, .int)) (h1 : ¬ sp < 0) (h2 : ¬ dp < 0) (h3 : ¬ k < 0) (h4 : sp.toNatClampNeg + k.toNatClampNeg ≤ N) (h5 : dp.toNatClampNeg + k.toNatClampNeg ≤ N') (hf : 1 ≤ rm.frames) (hlo : (st.map fun v => v.category).sum + (nativeFrameWords "java/lang/System" "arraycopy" 5 + 11) ≤ rm.locals) (hd : decode cc pc = .ok (.invokestatic idx, 3))
    (kk : sx B X n (pc + 3) lv st (sA S kd' i' (va_cpy (S kd i) (S kd' i') sp.toNatClampNeg dp.toNatClampNeg k.toNatClampNeg))) : sx B X n pc lv (.int k :: .int dp :: .ref (B.2.1 kd' i') :: .int sp :: .ref (B.2.1 kd i) :: st) S := by
  obtain ⟨q0, h0⟩ := hB.2 kd i _ ht
  obtain ⟨q1, h6⟩ := hB.2 kd' i' _ ht'
  refine mr_copy ok cw.1 cw.2.1 cw.2.2.1 cw.2.2.2 q0 q1 t0 t0 (sh_at h0) (sh_at h6) hty hty h1 h2 h3 h4 h5 hf hlo hd ?_
  have e := sh_set (S := S) hB.1 h6 (va_cpy (S kd i) (S kd' i') sp.toNatClampNeg dp.toNatClampNeg k.toNatClampNeg)
  exact mr_ws e kk
theorem sx_iret {X : mx_C} {Z : mx_Z} {own : String} {cc : ByteArray} {nL : Nat} {rm : Room} {n : Nat × Nat} {pc : Nat} {lv : List (Nat × Value)} {B : sh_B} {S : sh_S} {Qs : Option Value → sh_S → Prop} {rm' : Room} {v : Int32} (ok : mx_ok X Z own cc nL rm) (en : sx_end B X (some .int) rm' Qs) (h1 : n.1 ≤ rm'.cells) (h2 : n.2 ≤ rm'.slots) (hd : decode cc pc = .ok (.ireturn, 1)) (hq : Qs (some (.int v)) S) : sx B X n pc lv [.int v] S := mr_iret ok en h1 h2 hd ⟨S, rfl, hq⟩
theorem sx_zret {X : mx_C} {Z : mx_Z} {own : String} {cc : ByteArray} {nL : Nat} {rm : Room} {n : Nat × Nat} {pc : Nat} {lv : List (Nat × Value)} {B : sh_B} {S : sh_S} {Qs : Option Value → sh_S → Prop} {rm' : Room} {v : Int32} {ty : FieldType} (hnw : narrow ty (.int v) = .int v) (ok : mx_ok X Z own cc nL rm) (en : sx_end B X (some ty) rm' Qs) (h1 : n.1 ≤ rm'.cells) (h2 : n.2 ≤ rm'.slots) (hd : decode cc pc = .ok (.ireturn, 1)) (hq : Qs (some (.int v)) S) : sx B X n pc lv [.int v] S := mr_zret hnw ok en h1 h2 hd ⟨S, rfl, hq⟩
theorem sx_vret {X : mx_C} {Z : mx_Z} {own : String} {cc : ByteArray} {nL : Nat} {rm : Room} {n : Nat × Nat} {pc : Nat} {lv : List (Nat × Value)} {B : sh_B} {S : sh_S} {Qs : Option Value → sh_S → Prop} {rm' : Room} (ok : mx_ok X Z own cc nL rm) (en : sx_end B X none rm' Qs) (h1 : n.1 ≤ rm'.cells) (h2 : n.2 ≤ rm'.slots) (hd : decode cc pc = .ok (.return_, 1)) (hq : Qs none S) : sx B X n pc lv [] S := mr_vret ok en h1 h2 hd ⟨S, rfl, hq⟩
theorem sx_aret {X : mx_C} {Z : mx_Z} {own : String} {cc : ByteArray} {nL : Nat} {rm : Room} {n : Nat × Nat} {pc : Nat} {lv : List (Nat × Value)} {B : sh_B} {S : sh_S} {Qs : Option Value → sh_S → Prop} {rm' : Room} {C : String} {v : Value} (ok : mx_ok X Z own cc nL rm) (en : sx_end B X (some (.object C)) rm' Qs) (h1 : n.1 ≤ rm'.cells) (h2 : n.2 ≤ rm'.slots) (hv : v = .null ∨ ∃ a, v = .ref a) (hd : decode cc pc = .ok (.areturn, 1)) (hq : Qs (some v) S) : sx B X n pc lv [v] S := mr_aret ok en h1 h2 hv hd ⟨S, rfl, hq⟩
theorem sx_callV {X : mx_C} {Z : mx_Z} {own : String} {cc : ByteArray} {nL : Nat} {rm : Room} {n : Nat × Nat} {pc : Nat} {lv : List (Nat × Value)} {st : List Value} {B : sh_B} {S : sh_S} (ok : mx_ok X Z own cc nL rm) (hB : sh_F B) {idx k : Nat} {y : MethodName} {b : ByteArray} {maxL : Nat} {ret : Option FieldType} {rm' : Room} {As : List Value} {Qs : Option Value → sh_S → Prop} {kd i ci : Nat} {r : vw_C} {tm : List (Option Value)} (cb : mx_cB own idx y b maxL ret k) (cv : mx_cV y) (hC : sc B Z y b maxL ret rm' (.ref (B.2.1 kd i) :: As) S Qs) (ht : B.2.2 kd i = some (.inr (.inr (ci, tm)))) (hc : vwCl[ci]? = some r) (hy : r.1 = y.cls) (hk : As.length = k) (hst : (st.map fun v => v.category).sum ≤ 8) (hR : rm'.frames + 1 ≤ rm.frames ∧ 8 + (maxL + 11) + rm'.locals ≤ rm.locals) (h1 : n.1 + rm'.cells ≤ rm.cells) (h2 : n.2 + rm'.slots ≤ rm.slots) (hd : decode cc pc = .ok (.invokevirtual idx, 3)) {st0 : List Value} (hs0 : st0 = As.reverse ++ .ref (B.2.1 kd i) :: st)
    (kk : ∀ (v : Option Value) (S' : sh_S), Qs v S' → sx B X (n.1 + rm'.cells, n.2 + rm'.slots) (pc + 3) lv (v.toList ++ st) S') : sx B X n pc lv st0 S := by
  obtain ⟨q0, h0⟩ := hB.2 kd i _ ht
  refine mr_callV ok cb cv hC q0 ci (sh_at h0) hc hy hk hst hR h1 h2 hd hs0 (fun v ws' hq => ?_)
  obtain ⟨S', rfl, hq⟩ := hq
  exact kk v S' hq
theorem sx_callS {X : mx_C} {Z : mx_Z} {own : String} {cc : ByteArray} {nL : Nat} {rm : Room} {n : Nat × Nat} {pc : Nat} {lv : List (Nat × Value)} {st : List Value} {B : sh_B} {S : sh_S} (ok : mx_ok X Z own cc nL rm) {idx k : Nat} {y : MethodName} {b : ByteArray} {maxL : Nat} {ret : Option FieldType} {rm' : Room} {As : List Value} {Qs : Option Value → sh_S → Prop} (cb : mx_cB own idx y b maxL ret k) (cs : Cond.static y ∈ mx_tbl) (hC : sc B Z y b maxL ret rm' As S Qs) (hk : As.length = k) (hst : (st.map fun v => v.category).sum ≤ 8) (hR : rm'.frames + 1 ≤ rm.frames ∧ 8 + (maxL + 11) + rm'.locals ≤ rm.locals) (h1 : n.1 + rm'.cells ≤ rm.cells) (h2 : n.2 + rm'.slots ≤ rm.slots) (hd : decode cc pc = .ok (.invokestatic idx, 3)) {st0 : List Value} (hs0 : st0 = As.reverse ++ st)
    (kk : ∀ (v : Option Value) (S' : sh_S), Qs v S' → sx B X (n.1 + rm'.cells, n.2 + rm'.slots) (pc + 3) lv (v.toList ++ st) S') : sx B X n pc lv st0 S := by
  refine mr_callS ok cb cs hC hk hst hR h1 h2 hd hs0 (fun v ws' hq => ?_)
  obtain ⟨S', rfl, hq⟩ := hq
  exact kk v S' hq
theorem vp_at {j N : Nat} (hj : j < N) (hN : N ≤ 100000) : vp_in (nI j) N ∧ (nI j).toNatClampNeg = j := ⟨vp_in_nI hj (by omega), nI_clamp (by omega)⟩
/-- two halves: kinds below 20 are the class's, the others the reference's -/
def jn (c r : sh_S) : sh_S := fun k => bif Nat.blt k 20 then c k else r k
theorem jn_c {c r : sh_S} {k : Nat} (h : Nat.blt k 20 = true) : jn c r k = c k := by unfold jn; rw [h]; rfl
theorem jn_r {c r : sh_S} {k : Nat} (h : Nat.blt k 20 = false) : jn c r k = r k := by unfold jn; rw [h]; rfl
theorem sA_c {c r : sh_S} {k i : Nat} {f : Nat → Int32} (h : Nat.blt k 20 = true) : sA (jn c r) k i f = jn (sA c k i f) r := by
  funext k' i'
  cases hb : Nat.blt k' 20 with
  | true => rw [jn_c hb]; unfold sA; rw [jn_c hb]
  | false =>
    rw [jn_r hb]
    have : ¬ (k' = k ∧ i' = i) := fun z => by rw [z.1, h] at hb; cases hb
    rw [sA_ne _ _ this, jn_r hb]
theorem sA_r {c r : sh_S} {k i : Nat} {f : Nat → Int32} (h : Nat.blt k 20 = false) : sA (jn c r) k i f = jn c (sA r k i f) := by
  funext k' i'
  cases hb : Nat.blt k' 20 with
  | false => rw [jn_r hb]; unfold sA; rw [jn_r hb]
  | true =>
    rw [jn_c hb]
    have : ¬ (k' = k ∧ i' = i) := fun z => by rw [z.1, h] at hb; cases hb
    rw [sA_ne _ _ this, jn_c hb]
theorem sU_c {c r : sh_S} {k i j : Nat} {v : Int32} (h : Nat.blt k 20 = true) : sU (jn c r) k i j v = jn (sU c k i j v) r := by
  rw [← sU_sA, ← sU_sA, jn_c h, sA_c h]
theorem sU_r {c r : sh_S} {k i j : Nat} {v : Int32} (h : Nat.blt k 20 = false) : sU (jn c r) k i j v = jn c (sU r k i j v) := by
  rw [← sU_sA, ← sU_sA, jn_r h, sA_r h]
theorem sx_S {B : sh_B} {X : mx_C} {n : Nat × Nat} {pc : Nat} {lv : List (Nat × Value)} {st : List Value} {S S' : sh_S} (h : S = S') (kk : sx B X n pc lv st S') : sx B X n pc lv st S := h ▸ kk
def tm_ (N L : Nat) (cI cR cZ : ClassId) (ad : Nat → Nat → Nat) (k i : Nat) : Option sh_T := match k with
  | 0 => if i < N then some (.inr (.inr (4, [some (.int (nI i)), some (.ref (ad 1 i)), some (.ref (ad 3 i)), none, none, none, none, none, none, none, none, none, none, none]))) else none
  | 1 => if i < N then some (.inr (.inr (2, [some (.int (nI L)), some (.ref (ad 2 i)), none, none, none]))) else none
  | 2 => if i < N then some (.inl (cI, 32)) else none
  | 3 => if i < N then some (.inr (.inr (1, [some (.ref (ad 4 i)), none]))) else none
  | 4 => if i < N then some (.inl (cI, 8)) else none
  | 5 => if i = 0 then some (.inr (.inr (0, [some (.ref (ad 6 0)), none, none, none]))) else none
  | 6 => if i = 0 then some (.inl (cI, 1400)) else none
  | 7 => if i = 0 then some (.inr (.inr (3, [none, none, none, none, none, none, none]))) else none
  | 8 => if i = 0 then some (.inr (.inr (5, [some (.int (nI N)), some (.int (nI L)), some (.ref (ad 9 0)), some (.ref (ad 5 0)), some (.ref (ad 7 0))]))) else none
  | 9 => if i = 0 then some (.inr (.inl (cR, N, fun j => some (ad 0 j)))) else none
  | 20 => if i = 0 then some (.inr (.inr (6, [none, some (.int (nI N)), some (.int (nI L)), some (.ref (ad 23 0)), some (.ref (ad 24 0)), some (.ref (ad 25 0)), some (.ref (ad 26 0)), some (.ref (ad 27 0)), some (.ref (ad 28 0)), some (.ref (ad 29 0)), some (.ref (ad 30 0)), some (.ref (ad 31 0)), some (.ref (ad 32 0)), some (.ref (ad 33 0)), some (.ref (ad 34 0)), some (.ref (ad 35 0)), some (.ref (ad 36 0)), some (.ref (ad 37 0)), some (.ref (ad 38 0)), some (.ref (ad 39 0)), some (.ref (ad 40 0)), none, none, none]))) else none
  | 23 => if i = 0 then some (.inl (cZ, 5)) else none
  | 24 => if i = 0 then some (.inl (cI, 5)) else none
  | 25 => if i = 0 then some (.inl (cI, 5)) else none
  | 26 => if i = 0 then some (.inl (cI, 5)) else none
  | 27 => if i = 0 then some (.inl (cI, 5)) else none
  | 28 => if i = 0 then some (.inl (cI, 5)) else none
  | 29 => if i = 0 then some (.inl (cI, 5)) else none
  | 30 => if i = 0 then some (.inl (cI, 200)) else none
  | 31 => if i = 0 then some (.inl (cI, 5)) else none
  | 32 => if i = 0 then some (.inl (cI, 5)) else none
  | 33 => if i = 0 then some (.inl (cI, 5)) else none
  | 34 => if i = 0 then some (.inl (cI, 5)) else none
  | 35 => if i = 0 then some (.inl (cI, 5)) else none
  | 36 => if i = 0 then some (.inl (cI, 5)) else none
  | 37 => if i = 0 then some (.inl (cI, 5)) else none
  | 38 => if i = 0 then some (.inl (cI, 40)) else none
  | 39 => if i = 0 then some (.inl (cI, 5)) else none
  | 40 => if i = 0 then some (.inl (cI, 1407)) else none
  | _ => none
/-- the bundle of this system -/
def wB (B : sh_B) (Z : mx_Z) (N L : Nat) (cI cR cZ : ClassId) : Prop := sh_F B ∧ (∀ k i, B.2.2 k i = tm_ N L cI cR cZ B.2.1 k i) ∧ Z.2.2 = [(cI, .int), (cR, .object R_R), (cZ, .boolean)] ∧ (3 ≤ N ∧ N ≤ 5) ∧ (1 ≤ L ∧ L ≤ 32)
section TM
variable {B : sh_B} {Z : mx_Z} {N L : Nat} {cI cR cZ : ClassId}
theorem ty_0 (hb : wB B Z N L cI cR cZ) : Z.2.2[0]? = some (cI, .int) := by rw [hb.2.2.1]; rfl
theorem ty_1 (hb : wB B Z N L cI cR cZ) : Z.2.2[1]? = some (cR, .object R_R) := by rw [hb.2.2.1]; rfl
theorem ty_2 (hb : wB B Z N L cI cR cZ) : Z.2.2[2]? = some (cZ, .boolean) := by rw [hb.2.2.1]; rfl
theorem tm_0 (hb : wB B Z N L cI cR cZ) {i : Nat} (hi : i < N) : B.2.2 0 i = some (.inr (.inr (4, [some (.int (nI i)), some (.ref (B.2.1 1 i)), some (.ref (B.2.1 3 i)), none, none, none, none, none, none, none, none, none, none, none]))) := by rw [hb.2.1]; exact if_pos hi
theorem tm_1 (hb : wB B Z N L cI cR cZ) {i : Nat} (hi : i < N) : B.2.2 1 i = some (.inr (.inr (2, [some (.int (nI L)), some (.ref (B.2.1 2 i)), none, none, none]))) := by rw [hb.2.1]; exact if_pos hi
theorem tm_2 (hb : wB B Z N L cI cR cZ) {i : Nat} (hi : i < N) : B.2.2 2 i = some (.inl (cI, 32)) := by rw [hb.2.1]; exact if_pos hi
theorem tm_3 (hb : wB B Z N L cI cR cZ) {i : Nat} (hi : i < N) : B.2.2 3 i = some (.inr (.inr (1, [some (.ref (B.2.1 4 i)), none]))) := by rw [hb.2.1]; exact if_pos hi
theorem tm_4 (hb : wB B Z N L cI cR cZ) {i : Nat} (hi : i < N) : B.2.2 4 i = some (.inl (cI, 8)) := by rw [hb.2.1]; exact if_pos hi
theorem tm_5 (hb : wB B Z N L cI cR cZ) : B.2.2 5 0 = some (.inr (.inr (0, [some (.ref (B.2.1 6 0)), none, none, none]))) := by rw [hb.2.1]; rfl
theorem tm_6 (hb : wB B Z N L cI cR cZ) : B.2.2 6 0 = some (.inl (cI, 1400)) := by rw [hb.2.1]; rfl
theorem tm_7 (hb : wB B Z N L cI cR cZ) : B.2.2 7 0 = some (.inr (.inr (3, [none, none, none, none, none, none, none]))) := by rw [hb.2.1]; rfl
theorem tm_8 (hb : wB B Z N L cI cR cZ) : B.2.2 8 0 = some (.inr (.inr (5, [some (.int (nI N)), some (.int (nI L)), some (.ref (B.2.1 9 0)), some (.ref (B.2.1 5 0)), some (.ref (B.2.1 7 0))]))) := by rw [hb.2.1]; rfl
theorem tm_9 (hb : wB B Z N L cI cR cZ) : B.2.2 9 0 = some (.inr (.inl (cR, N, fun j => some (B.2.1 0 j)))) := by rw [hb.2.1]; rfl
theorem tm_20 (hb : wB B Z N L cI cR cZ) : B.2.2 20 0 = some (.inr (.inr (6, [none, some (.int (nI N)), some (.int (nI L)), some (.ref (B.2.1 23 0)), some (.ref (B.2.1 24 0)), some (.ref (B.2.1 25 0)), some (.ref (B.2.1 26 0)), some (.ref (B.2.1 27 0)), some (.ref (B.2.1 28 0)), some (.ref (B.2.1 29 0)), some (.ref (B.2.1 30 0)), some (.ref (B.2.1 31 0)), some (.ref (B.2.1 32 0)), some (.ref (B.2.1 33 0)), some (.ref (B.2.1 34 0)), some (.ref (B.2.1 35 0)), some (.ref (B.2.1 36 0)), some (.ref (B.2.1 37 0)), some (.ref (B.2.1 38 0)), some (.ref (B.2.1 39 0)), some (.ref (B.2.1 40 0)), none, none, none]))) := by rw [hb.2.1]; rfl
theorem tm_23 (hb : wB B Z N L cI cR cZ) : B.2.2 23 0 = some (.inl (cZ, 5)) := by rw [hb.2.1]; rfl
theorem tm_24 (hb : wB B Z N L cI cR cZ) : B.2.2 24 0 = some (.inl (cI, 5)) := by rw [hb.2.1]; rfl
theorem tm_25 (hb : wB B Z N L cI cR cZ) : B.2.2 25 0 = some (.inl (cI, 5)) := by rw [hb.2.1]; rfl
theorem tm_26 (hb : wB B Z N L cI cR cZ) : B.2.2 26 0 = some (.inl (cI, 5)) := by rw [hb.2.1]; rfl
theorem tm_27 (hb : wB B Z N L cI cR cZ) : B.2.2 27 0 = some (.inl (cI, 5)) := by rw [hb.2.1]; rfl
theorem tm_28 (hb : wB B Z N L cI cR cZ) : B.2.2 28 0 = some (.inl (cI, 5)) := by rw [hb.2.1]; rfl
theorem tm_29 (hb : wB B Z N L cI cR cZ) : B.2.2 29 0 = some (.inl (cI, 5)) := by rw [hb.2.1]; rfl
theorem tm_30 (hb : wB B Z N L cI cR cZ) : B.2.2 30 0 = some (.inl (cI, 200)) := by rw [hb.2.1]; rfl
theorem tm_31 (hb : wB B Z N L cI cR cZ) : B.2.2 31 0 = some (.inl (cI, 5)) := by rw [hb.2.1]; rfl
theorem tm_32 (hb : wB B Z N L cI cR cZ) : B.2.2 32 0 = some (.inl (cI, 5)) := by rw [hb.2.1]; rfl
theorem tm_33 (hb : wB B Z N L cI cR cZ) : B.2.2 33 0 = some (.inl (cI, 5)) := by rw [hb.2.1]; rfl
theorem tm_34 (hb : wB B Z N L cI cR cZ) : B.2.2 34 0 = some (.inl (cI, 5)) := by rw [hb.2.1]; rfl
theorem tm_35 (hb : wB B Z N L cI cR cZ) : B.2.2 35 0 = some (.inl (cI, 5)) := by rw [hb.2.1]; rfl
theorem tm_36 (hb : wB B Z N L cI cR cZ) : B.2.2 36 0 = some (.inl (cI, 5)) := by rw [hb.2.1]; rfl
theorem tm_37 (hb : wB B Z N L cI cR cZ) : B.2.2 37 0 = some (.inl (cI, 5)) := by rw [hb.2.1]; rfl
theorem tm_38 (hb : wB B Z N L cI cR cZ) : B.2.2 38 0 = some (.inl (cI, 40)) := by rw [hb.2.1]; rfl
theorem tm_39 (hb : wB B Z N L cI cR cZ) : B.2.2 39 0 = some (.inl (cI, 5)) := by rw [hb.2.1]; rfl
theorem tm_40 (hb : wB B Z N L cI cR cZ) : B.2.2 40 0 = some (.inl (cI, 1407)) := by rw [hb.2.1]; rfl
end TM
theorem cx_geti {X : mx_C} {Z : mx_Z} {own : String} {cc : ByteArray} {nL : Nat} {rm : Room} {n : Nat × Nat} {pc : Nat} {lv : List (Nat × Value)} {st : List Value} {B : sh_B} {c r : sh_S} (ok : mx_ok X Z own cc nL rm) (hB : sh_F B) {idx ci kf kd i : Nat} {tm : List (Option Value)} (hk0 : Nat.blt kd 20 = true) (fl : mx_fl own idx ci kf) (ht : B.2.2 kd i = some (.inr (.inr (ci, tm)))) (hk : tm[kf]? = some none) (hd : decode cc pc = .ok (.getfield idx, 3)) (kk : sx B X n (pc + 3) lv (.int (c kd i kf) :: st) (jn c r)) : sx B X n pc lv (.ref (B.2.1 kd i) :: st) (jn c r) :=
  sx_geti ok hB fl ht hk hd (by rw [jn_c hk0]; exact kk)
theorem cx_put {X : mx_C} {Z : mx_Z} {own : String} {cc : ByteArray} {nL : Nat} {rm : Room} {n : Nat × Nat} {pc : Nat} {lv : List (Nat × Value)} {st : List Value} {B : sh_B} {c r : sh_S} (ok : mx_ok X Z own cc nL rm) (hB : sh_F B) {idx ci kf kd i : Nat} {tm : List (Option Value)} {ty : FieldType} {x : Int32} (hk0 : Nat.blt kd 20 = true) (fl : mx_fw own idx ci kf ty) (ht : B.2.2 kd i = some (.inr (.inr (ci, tm)))) (hk : tm[kf]? = some none) (hn : narrow ty (.int x) = .int x) (hf : fits ty (.int x) = true) (hd : decode cc pc = .ok (.putfield idx, 3)) (kk : sx B X n (pc + 3) lv st (jn (sU c kd i kf x) r)) : sx B X n pc lv (.int x :: .ref (B.2.1 kd i) :: st) (jn c r) :=
  sx_put ok hB fl ht hk hn hf hd (sx_S (sU_c hk0) kk)
theorem cx_iald {X : mx_C} {Z : mx_Z} {own : String} {cc : ByteArray} {nL : Nat} {rm : Room} {n : Nat × Nat} {pc : Nat} {lv : List (Nat × Value)} {st : List Value} {B : sh_B} {c r : sh_S} (ok : mx_ok X Z own cc nL rm) (hB : sh_F B) {kd i j t0 N : Nat} {cA : ClassId} {x : Int32} (hk0 : Nat.blt kd 20 = true) (ht : B.2.2 kd i = some (.inl (cA, N))) (hty : Z.2.2[t0]? = some (cA, .int)) (hx : x = nI j) (hj : j < N) (hN : N ≤ 100000) (hd : decode cc pc = .ok (.iaload, 1)) (kk : sx B X n (pc + 1) lv (.int (c kd i j) :: st) (jn c r)) : sx B X n pc lv (.int x :: .ref (B.2.1 kd i) :: st) (jn c r) := by
  subst hx
  refine sx_iald ok hB ht hty (vp_at hj hN).1 hd ?_
  rw [(vp_at hj hN).2, jn_c hk0]
  exact kk
theorem cx_iast {X : mx_C} {Z : mx_Z} {own : String} {cc : ByteArray} {nL : Nat} {rm : Room} {n : Nat × Nat} {pc : Nat} {lv : List (Nat × Value)} {st : List Value} {B : sh_B} {c r : sh_S} (ok : mx_ok X Z own cc nL rm) (hB : sh_F B) {kd i j t0 N : Nat} {cA : ClassId} {x v : Int32} (hk0 : Nat.blt kd 20 = true) (ht : B.2.2 kd i = some (.inl (cA, N))) (hty : Z.2.2[t0]? = some (cA, .int)) (hx : x = nI j) (hj : j < N) (hN : N ≤ 100000) (hd : decode cc pc = .ok (.iastore, 1)) (kk : sx B X n (pc + 1) lv st (jn (sU c kd i j v) r)) : sx B X n pc lv (.int v :: .int x :: .ref (B.2.1 kd i) :: st) (jn c r) := by
  subst hx
  refine sx_iast ok hB ht hty (vp_at hj hN).1 hd ?_
  rw [(vp_at hj hN).2]
  exact sx_S (sU_c hk0) kk
theorem rx_geti {X : mx_C} {Z : mx_Z} {own : String} {cc : ByteArray} {nL : Nat} {rm : Room} {n : Nat × Nat} {pc : Nat} {lv : List (Nat × Value)} {st : List Value} {B : sh_B} {c r : sh_S} (ok : mx_ok X Z own cc nL rm) (hB : sh_F B) {idx ci kf kd i : Nat} {tm : List (Option Value)} (hk0 : Nat.blt kd 20 = false) (fl : mx_fl own idx ci kf) (ht : B.2.2 kd i = some (.inr (.inr (ci, tm)))) (hk : tm[kf]? = some none) (hd : decode cc pc = .ok (.getfield idx, 3)) (kk : sx B X n (pc + 3) lv (.int (r kd i kf) :: st) (jn c r)) : sx B X n pc lv (.ref (B.2.1 kd i) :: st) (jn c r) :=
  sx_geti ok hB fl ht hk hd (by rw [jn_r hk0]; exact kk)
theorem rx_put {X : mx_C} {Z : mx_Z} {own : String} {cc : ByteArray} {nL : Nat} {rm : Room} {n : Nat × Nat} {pc : Nat} {lv : List (Nat × Value)} {st : List Value} {B : sh_B} {c r : sh_S} (ok : mx_ok X Z own cc nL rm) (hB : sh_F B) {idx ci kf kd i : Nat} {tm : List (Option Value)} {ty : FieldType} {x : Int32} (hk0 : Nat.blt kd 20 = false) (fl : mx_fw own idx ci kf ty) (ht : B.2.2 kd i = some (.inr (.inr (ci, tm)))) (hk : tm[kf]? = some none) (hn : narrow ty (.int x) = .int x) (hf : fits ty (.int x) = true) (hd : decode cc pc = .ok (.putfield idx, 3)) (kk : sx B X n (pc + 3) lv st (jn c (sU r kd i kf x))) : sx B X n pc lv (.int x :: .ref (B.2.1 kd i) :: st) (jn c r) :=
  sx_put ok hB fl ht hk hn hf hd (sx_S (sU_r hk0) kk)
theorem rx_iald {X : mx_C} {Z : mx_Z} {own : String} {cc : ByteArray} {nL : Nat} {rm : Room} {n : Nat × Nat} {pc : Nat} {lv : List (Nat × Value)} {st : List Value} {B : sh_B} {c r : sh_S} (ok : mx_ok X Z own cc nL rm) (hB : sh_F B) {kd i j t0 N : Nat} {cA : ClassId} {x : Int32} (hk0 : Nat.blt kd 20 = false) (ht : B.2.2 kd i = some (.inl (cA, N))) (hty : Z.2.2[t0]? = some (cA, .int)) (hx : x = nI j) (hj : j < N) (hN : N ≤ 100000) (hd : decode cc pc = .ok (.iaload, 1)) (kk : sx B X n (pc + 1) lv (.int (r kd i j) :: st) (jn c r)) : sx B X n pc lv (.int x :: .ref (B.2.1 kd i) :: st) (jn c r) := by
  subst hx
  refine sx_iald ok hB ht hty (vp_at hj hN).1 hd ?_
  rw [(vp_at hj hN).2, jn_r hk0]
  exact kk
theorem rx_iast {X : mx_C} {Z : mx_Z} {own : String} {cc : ByteArray} {nL : Nat} {rm : Room} {n : Nat × Nat} {pc : Nat} {lv : List (Nat × Value)} {st : List Value} {B : sh_B} {c r : sh_S} (ok : mx_ok X Z own cc nL rm) (hB : sh_F B) {kd i j t0 N : Nat} {cA : ClassId} {x v : Int32} (hk0 : Nat.blt kd 20 = false) (ht : B.2.2 kd i = some (.inl (cA, N))) (hty : Z.2.2[t0]? = some (cA, .int)) (hx : x = nI j) (hj : j < N) (hN : N ≤ 100000) (hd : decode cc pc = .ok (.iastore, 1)) (kk : sx B X n (pc + 1) lv st (jn c (sU r kd i j v))) : sx B X n pc lv (.int v :: .int x :: .ref (B.2.1 kd i) :: st) (jn c r) := by
  subst hx
  refine sx_iast ok hB ht hty (vp_at hj hN).1 hd ?_
  rw [(vp_at hj hN).2]
  exact sx_S (sU_r hk0) kk
theorem rx_zald {X : mx_C} {Z : mx_Z} {own : String} {cc : ByteArray} {nL : Nat} {rm : Room} {n : Nat × Nat} {pc : Nat} {lv : List (Nat × Value)} {st : List Value} {B : sh_B} {c r : sh_S} (ok : mx_ok X Z own cc nL rm) (hB : sh_F B) {kd i j t0 N : Nat} {cA : ClassId} {x : Int32} (hk0 : Nat.blt kd 20 = false) (ht : B.2.2 kd i = some (.inl (cA, N))) (hty : Z.2.2[t0]? = some (cA, .boolean)) (hx : x = nI j) (hj : j < N) (hN : N ≤ 100000) (hd : decode cc pc = .ok (.baload, 1)) (kk : sx B X n (pc + 1) lv (.int (r kd i j) :: st) (jn c r)) : sx B X n pc lv (.int x :: .ref (B.2.1 kd i) :: st) (jn c r) := by
  subst hx
  obtain ⟨q0, h0⟩ := hB.2 kd i _ ht
  refine mr_zald ok q0 t0 (sh_at h0) hty (vp_at hj hN).1 hd ?_
  rw [(vp_at hj hN).2, jn_r hk0]
  exact kk
theorem rx_zast {X : mx_C} {Z : mx_Z} {own : String} {cc : ByteArray} {nL : Nat} {rm : Room} {n : Nat × Nat} {pc : Nat} {lv : List (Nat × Value)} {st : List Value} {B : sh_B} {c r : sh_S} (ok : mx_ok X Z own cc nL rm) (hB : sh_F B) {kd i j t0 N : Nat} {cA : ClassId} {x v : Int32} (hk0 : Nat.blt kd 20 = false) (ht : B.2.2 kd i = some (.inl (cA, N))) (hty : Z.2.2[t0]? = some (cA, .boolean)) (hx : x = nI j) (hj : j < N) (hN : N ≤ 100000) (hv : vp_nar .boolean v = v) (hd : decode cc pc = .ok (.bastore, 1)) (kk : sx B X n (pc + 1) lv st (jn c (sU r kd i j v))) : sx B X n pc lv (.int v :: .int x :: .ref (B.2.1 kd i) :: st) (jn c r) := by
  subst hx
  obtain ⟨q0, h0⟩ := hB.2 kd i _ ht
  refine mr_zast ok q0 t0 (sh_at h0) hty (vp_at hj hN).1 hd ?_
  rw [(vp_at hj hN).2, hv]
  have e := sh_set (S := jn c r) hB.1 h0 (upd (jn c r kd i) j v)
  rw [sU_sA, sU_r hk0] at e
  exact mr_ws e kk
theorem cx_copy {X : mx_C} {Z : mx_Z} {own : String} {cc : ByteArray} {nL : Nat} {rm : Room} {n : Nat × Nat} {pc : Nat} {lv : List (Nat × Value)} {st : List Value} {B : sh_B} {c r : sh_S} (ok : mx_ok X Z own cc nL rm) (hB : sh_F B) {idx : Nat} (cw : Cond.methodLink own idx arraycopyName ∈ mx_tbl ∧ Cond.native arraycopyName ∈ mx_tbl ∧ Cond.static arraycopyName ∈ mx_tbl ∧ Cond.initialized "java/lang/System" ∈ mx_tbl) {kd i t0 N sp dp k : Nat} {cA : ClassId} {xs xd xk : Int32} (hk0 : Nat.blt kd 20 = true) (ht : B.2.2 kd i = some (.inl (cA, N))) (hty : Z.2.2[t0]? = some (cA, .int)) (h1 : xs = nI sp) (h2 : xd = nI dp) (h3 : xk = nI k) (h4 : sp + k ≤ N) (h5 : dp + k ≤ N) (hN : N ≤ 100000) (hf : 1 ≤ rm.frames) (hlo : (st.map fun v => v.category).sum + (nativeFrameWords "java/lang/System" "arraycopy" 5 + 11) ≤ rm.locals) (hd : decode cc pc = .ok (.invokestatic idx, 3))
    (kk : sx B X n (pc + 3) lv st (jn (sA c kd i (va_cpy (c kd i) (c kd i) sp dp k)) r)) : sx B X n pc lv (.int xk :: .int xd :: .ref (B.2.1 kd i) :: .int xs :: .ref (B.2.1 kd i) :: st) (jn c r) := by
  subst h1; subst h2; subst h3
  have e1 : (nI sp).toNatClampNeg = sp := nI_clamp (by omega)
  have e2 : (nI dp).toNatClampNeg = dp := nI_clamp (by omega)
  have e3 : (nI k).toNatClampNeg = k := nI_clamp (by omega)
  refine sx_copy ok hB cw ht ht hty (nI_pos (by omega)) (nI_pos (by omega)) (nI_pos (by omega)) (by rw [e1, e3]; exact h4) (by rw [e2, e3]; exact h5) hf hlo hd ?_
  rw [e1, e2, e3]
  exact sx_S (by rw [jn_c hk0, sA_c hk0]) kk
/-- an exact end -/
abbrev qe (v0 : Option Value) (S0 : sh_S) : Option Value → sh_S → Prop := fun v S' => v = v0 ∧ S' = S0
abbrev rmm (f l : Nat) : Room := { frames := f, cells := 0, slots := 0, locals := l }
theorem cat_of {l : List Value} (h : l.all (fun v => Nat.beq v.category 1) = true) : ∀ v ∈ l, v.category = 1 := fun v hv => Nat.eq_of_beq_eq_true (List.all_eq_true.mp h v hv)
theorem and31 (x : Int32) : x &&& 31 = nI (x &&& 31).toNatClampNeg ∧ (x &&& 31).toNatClampNeg < 32 := by
  obtain ⟨j, hj, e⟩ := pk_andE x (m := 31) 5 (by decide)
  have h32 : (2 : Nat) ^ 5 = 32 := by decide
  rw [h32] at hj
  rw [e, nI_clamp (by omega)]
  exact ⟨rfl, hj⟩
theorem sx_cVi {X : mx_C} {Z : mx_Z} {own : String} {cc : ByteArray} {nL : Nat} {rm : Room} {n : Nat × Nat} {pc : Nat} {lv : List (Nat × Value)} {st : List Value} {B : sh_B} {S : sh_S} (ok : mx_ok X Z own cc nL rm) (hB : sh_F B) {idx k : Nat} {y : MethodName} {b : ByteArray} {maxL : Nat} {ret : Option FieldType} {f l : Nat} (As : List Value) {w : Value} {S' : sh_S} {kd i ci : Nat} {rc : vw_C} {tm : List (Option Value)} {st0 : List Value} (hs0 : st0 = As.reverse ++ .ref (B.2.1 kd i) :: st) (cb : mx_cB own idx y b maxL ret k) (cv : mx_cV y) (ht : B.2.2 kd i = some (.inr (.inr (ci, tm)))) (hc : vwCl[ci]? = some rc) (hy : rc.1 = y.cls) (hC : sc B Z y b maxL ret (rmm f l) (.ref (B.2.1 kd i) :: As) S (qe (some w) S')) (hk : As.length = k) (hst : (st.map fun v => v.category).sum ≤ 8) (hR : f + 1 ≤ rm.frames ∧ 8 + (maxL + 11) + l ≤ rm.locals) (hn : n.1 ≤ rm.cells ∧ n.2 ≤ rm.slots) (hd : decode cc pc = .ok (.invokevirtual idx, 3))
    (kk : sx B X n (pc + 3) lv (w :: st) S') : sx B X n pc lv st0 S := by
  refine sx_callV ok hB cb cv hC ht hc hy hk hst hR hn.1 hn.2 hd hs0 ?_
  rintro _ _ ⟨rfl, rfl⟩
  exact kk
theorem sx_cSi {X : mx_C} {Z : mx_Z} {own : String} {cc : ByteArray} {nL : Nat} {rm : Room} {n : Nat × Nat} {pc : Nat} {lv : List (Nat × Value)} {st : List Value} {B : sh_B} {S : sh_S} (ok : mx_ok X Z own cc nL rm) {idx k : Nat} {y : MethodName} {b : ByteArray} {maxL : Nat} {ret : Option FieldType} {f l : Nat} (As : List Value) {w : Value} {S' : sh_S} {st0 : List Value} (hs0 : st0 = As.reverse ++ st) (cb : mx_cB own idx y b maxL ret k) (cs : Cond.static y ∈ mx_tbl) (hC : sc B Z y b maxL ret (rmm f l) As S (qe (some w) S')) (hk : As.length = k) (hst : (st.map fun v => v.category).sum ≤ 8) (hR : f + 1 ≤ rm.frames ∧ 8 + (maxL + 11) + l ≤ rm.locals) (hn : n.1 ≤ rm.cells ∧ n.2 ≤ rm.slots) (hd : decode cc pc = .ok (.invokestatic idx, 3))
    (kk : sx B X n (pc + 3) lv (w :: st) S') : sx B X n pc lv st0 S := by
  refine sx_callS ok cb cs hC hk hst hR hn.1 hn.2 hd hs0 ?_
  rintro _ _ ⟨rfl, rfl⟩
  exact kk
theorem sx_cVv {X : mx_C} {Z : mx_Z} {own : String} {cc : ByteArray} {nL : Nat} {rm : Room} {n : Nat × Nat} {pc : Nat} {lv : List (Nat × Value)} {st : List Value} {B : sh_B} {S : sh_S} (ok : mx_ok X Z own cc nL rm) (hB : sh_F B) {idx k : Nat} {y : MethodName} {b : ByteArray} {maxL : Nat} {ret : Option FieldType} {f l : Nat} (As : List Value) {S' : sh_S} {kd i ci : Nat} {rc : vw_C} {tm : List (Option Value)} {st0 : List Value} (hs0 : st0 = As.reverse ++ .ref (B.2.1 kd i) :: st) (cb : mx_cB own idx y b maxL ret k) (cv : mx_cV y) (ht : B.2.2 kd i = some (.inr (.inr (ci, tm)))) (hc : vwCl[ci]? = some rc) (hy : rc.1 = y.cls) (hC : sc B Z y b maxL ret (rmm f l) (.ref (B.2.1 kd i) :: As) S (qe none S')) (hk : As.length = k) (hst : (st.map fun v => v.category).sum ≤ 8) (hR : f + 1 ≤ rm.frames ∧ 8 + (maxL + 11) + l ≤ rm.locals) (hn : n.1 ≤ rm.cells ∧ n.2 ≤ rm.slots) (hd : decode cc pc = .ok (.invokevirtual idx, 3))
    (kk : sx B X n (pc + 3) lv (st) S') : sx B X n pc lv st0 S := by
  refine sx_callV ok hB cb cv hC ht hc hy hk hst hR hn.1 hn.2 hd hs0 ?_
  rintro _ _ ⟨rfl, rfl⟩
  exact kk
theorem sx_cSv {X : mx_C} {Z : mx_Z} {own : String} {cc : ByteArray} {nL : Nat} {rm : Room} {n : Nat × Nat} {pc : Nat} {lv : List (Nat × Value)} {st : List Value} {B : sh_B} {S : sh_S} (ok : mx_ok X Z own cc nL rm) {idx k : Nat} {y : MethodName} {b : ByteArray} {maxL : Nat} {ret : Option FieldType} {f l : Nat} (As : List Value) {S' : sh_S} {st0 : List Value} (hs0 : st0 = As.reverse ++ st) (cb : mx_cB own idx y b maxL ret k) (cs : Cond.static y ∈ mx_tbl) (hC : sc B Z y b maxL ret (rmm f l) As S (qe none S')) (hk : As.length = k) (hst : (st.map fun v => v.category).sum ≤ 8) (hR : f + 1 ≤ rm.frames ∧ 8 + (maxL + 11) + l ≤ rm.locals) (hn : n.1 ≤ rm.cells ∧ n.2 ≤ rm.slots) (hd : decode cc pc = .ok (.invokestatic idx, 3))
    (kk : sx B X n (pc + 3) lv (st) S') : sx B X n pc lv st0 S := by
  refine sx_callS ok cb cs hC hk hst hR hn.1 hn.2 hd hs0 ?_
  rintro _ _ ⟨rfl, rfl⟩
  exact kk
