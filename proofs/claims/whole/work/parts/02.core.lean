/-! THE ENGINE: the kit's one-instruction rows, over a bundled context -/
def lq : List (Nat × Value) → Nat → Option Value
  | [], _ => none
  | (j, v) :: r, i => bif Nat.beq j i then some v else lq r i
def nz : List (Nat × Value) → List (Nat × Value)
  | [] => []
  | q :: r => q :: (nz r).filter (fun x => !(Nat.beq q.1 x.1))
theorem nz_of_lq : ∀ (lv : List (Nat × Value)) (i : Nat) (v : Value), lq lv i = some v → (i, v) ∈ nz lv
  | [], i, v, h => by simp [lq] at h
  | (j, x) :: r, i, v, h => by
    unfold lq at h
    unfold nz
    cases hb : Nat.beq j i with
    | true =>
      rw [hb] at h
      simp only [cond_true, Option.some.injEq] at h
      rw [Nat.eq_of_beq_eq_true hb, h]
      exact List.mem_cons_self
    | false =>
      rw [hb] at h
      simp only [cond_false] at h
      refine List.mem_cons_of_mem _ (List.mem_filter.mpr ⟨nz_of_lq r i v h, ?_⟩)
      simp [hb]
theorem lq_of_nz : ∀ (lv : List (Nat × Value)) (i : Nat) (v : Value), (i, v) ∈ nz lv → lq lv i = some v
  | [], i, v, h => by simp [nz] at h
  | (j, x) :: r, i, v, h => by
    unfold nz at h
    unfold lq
    rcases List.mem_cons.mp h with h | h
    · cases h
      simp [Nat.beq_refl]
    · obtain ⟨h1, h2⟩ := List.mem_filter.mp h
      have hb : Nat.beq j i = false := by simpa using h2
      rw [hb]
      simp only [cond_false]
      exact lq_of_nz r i v h1
theorem mem_of_nz : ∀ (lv : List (Nat × Value)) (q : Nat × Value), q ∈ nz lv → q ∈ lv
  | [], q, h => by simp [nz] at h
  | y :: r, q, h => by
    unfold nz at h
    rcases List.mem_cons.mp h with h | h
    · rw [h]; exact List.mem_cons_self
    · exact List.mem_cons_of_mem _ (mem_of_nz r q (List.mem_filter.mp h).1)
/-- the locals hold what the list says -/
def lw_h (ls : Array Slot) (nL : Nat) (lv : List (Nat × Value)) : Prop := lv_has ls nL (nz lv) ∧ ∀ q ∈ nz lv, q.2.category = 1
theorem lw_h.at {ls : Array Slot} {nL : Nat} {lv : List (Nat × Value)} (h : lw_h ls nL lv) {i : Nat} {v : Value} (hq : lq lv i = some v) : ls[i]? = some (.val v) := h.1.2.2 (i, v) (nz_of_lq lv i v hq)
theorem lw_h.put {ls ls' : Array Slot} {nL : Nat} {lv : List (Nat × Value)} {i : Nat} {v : Value} (h : lw_h ls nL lv) (hv : v.category = 1) (h' : lv_has ls' nL ((i, v) :: (nz lv).filter (fun q => !(q.1 == i) && !(q.1 + 1 == i && q.2.category == 2)))) : lw_h ls' nL ((i, v) :: lv) := by
  refine ⟨⟨h'.1, h'.2.1, fun q hq => ?_⟩, fun q hq => ?_⟩
  · unfold nz at hq
    rcases List.mem_cons.mp hq with hq | hq
    · rw [hq]; exact h'.2.2 _ List.mem_cons_self
    · obtain ⟨h1, h2⟩ := List.mem_filter.mp hq
      refine h'.2.2 q (List.mem_cons_of_mem _ (List.mem_filter.mpr ⟨h1, ?_⟩))
      have hc := h.2 q h1
      have hb : Nat.beq i q.1 = false := by simpa using h2
      have hne : ¬ q.1 = i := fun e => by rw [e, Nat.beq_refl] at hb; cases hb
      simp [hc, hne]
  · unfold nz at hq
    rcases List.mem_cons.mp hq with hq | hq
    · rw [hq]; exact hv
    · exact h.2 q (List.mem_filter.mp hq).1
def lw_sub (lv : List (Nat × Value)) : List (Nat × Value) → Prop
  | [] => True
  | q :: r => lq lv q.1 = some q.2 ∧ lw_sub lv r
theorem lw_sub_mem (lv : List (Nat × Value)) : ∀ l' : List (Nat × Value), lw_sub lv l' → ∀ q ∈ l', lq lv q.1 = some q.2
  | [], _, q, h => by cases h
  | y :: r, h0, q, h => by
    rcases List.mem_cons.mp h with h | h
    · rw [h]; exact h0.1
    · exact lw_sub_mem lv r h0.2 q h
theorem lw_h.sub {ls : Array Slot} {nL : Nat} {lv lv' : List (Nat × Value)} (h : lw_h ls nL lv) (hs : lw_sub lv lv') : lw_h ls nL lv' :=
  ⟨⟨h.1.1, h.1.2.1, fun q hq => h.1.2.2 q (nz_of_lq _ _ _ (lw_sub_mem lv lv' hs q (mem_of_nz _ _ hq)))⟩, fun q hq => h.2 q (nz_of_lq _ _ _ (lw_sub_mem lv lv' hs q (mem_of_nz _ _ hq)))⟩
abbrev mx_Z : Type := Launch × va_G × List (ClassId × FieldType)
abbrev mx_C : Type := (Program × Launch × Env × Room × State × MethodId × Array Value × List Frame × Method × Code) × va_G × List (ClassId × FieldType) × Nat × (State → Prop)
/-- the machine at pc with locals lv, stack st, world ws comes to the end that the context names; n: cells and slots made so far -/
def mx (X : mx_C) (n : Nat × Nat) (pc : Nat) (lv : List (Nat × Value)) (st : List Value) (ws : va_W) : Prop := match X with
  | ((p, l, e, R, s, m, args, below, meth, c), D, _, lo, Q) => ∀ (ls : Array Slot) (H : Heap) (locs : List Loc), lw_h ls c.maxLocals lv → va_P D vwCl ws H → va_D (fun q => lo ≤ q) ws → va_S (fun q => lo ≤ q) s.heap H locs → W p l e R s m args below meth c H locs n.1 n.2 Q (F0 m pc ls st)
/-- what a context knows: the machine, the method's class, code, number of locals, room; the words; the tables -/
def mx_ok (X : mx_C) (Z : mx_Z) (own : String) (cc : ByteArray) (nL : Nat) (rm : Room) : Prop := match X with
  | ((p, l, _, R, s, m, args, _, _, c), D, tys, lo, _) => p.tables.exec = Jvm.exec ∧ c.code = cc ∧ c.maxLocals = nL ∧ s.vm.findClass own = some m.cls ∧ (∀ w ∈ mx_tbl, w.before args s = true) ∧ va_K D vwCl tys s ∧ lo ≤ s.heap.size ∧ R = rm ∧ Z = (l, D, tys)
theorem mr_lv {X : mx_C} {n : Nat × Nat} {pc : Nat} {lv : List (Nat × Value)} {st : List Value} {ws : va_W} (lv' : List (Nat × Value)) (h : lw_sub lv lv') (kk : mx X n pc lv' st ws) : mx X n pc lv st ws := by
  obtain ⟨⟨p, l, e, R, s, m, args, below, meth, c⟩, D, tys, lo, Q⟩ := X
  intro ls H locs hl hP hD hS
  exact kk ls H locs (hl.sub h) hP hD hS
theorem mr_ws {X : mx_C} {n : Nat × Nat} {pc : Nat} {lv : List (Nat × Value)} {st : List Value} {ws : va_W} {ws' : va_W} (h : ws = ws') (kk : mx X n pc lv st ws') : mx X n pc lv st ws := h ▸ kk
theorem mr_iconst {X : mx_C} {Z : mx_Z} {own : String} {cc : ByteArray} {nL : Nat} {rm : Room} {n : Nat × Nat} {pc : Nat} {lv : List (Nat × Value)} {st : List Value} {ws : va_W} (ok : mx_ok X Z own cc nL rm) {k : Int} (v : Int32) (hd : decode cc pc = .ok (.iconst k, 1)) (hv : Int32.ofInt k = v) (kk : mx X n (pc + 1) lv (.int v :: st) ws) : mx X n pc lv st ws := by
  obtain ⟨⟨p, l, e, R, s, m, args, below, meth, c⟩, D, tys, lo, Q⟩ := X
  intro ls H locs hl hP hD hS
  exact lv_iconst ok.1 ok.2.1 hd hv (kk ls H locs hl hP hD hS)
theorem mr_bipush {X : mx_C} {Z : mx_Z} {own : String} {cc : ByteArray} {nL : Nat} {rm : Room} {n : Nat × Nat} {pc : Nat} {lv : List (Nat × Value)} {st : List Value} {ws : va_W} (ok : mx_ok X Z own cc nL rm) {k : Int} (v : Int32) (hd : decode cc pc = .ok (.bipush k, 2)) (hv : (Int8.ofInt k).toInt32 = v) (kk : mx X n (pc + 2) lv (.int v :: st) ws) : mx X n pc lv st ws := by
  obtain ⟨⟨p, l, e, R, s, m, args, below, meth, c⟩, D, tys, lo, Q⟩ := X
  intro ls H locs hl hP hD hS
  exact lv_bipush ok.1 ok.2.1 hd hv (kk ls H locs hl hP hD hS)
theorem mr_sipush {X : mx_C} {Z : mx_Z} {own : String} {cc : ByteArray} {nL : Nat} {rm : Room} {n : Nat × Nat} {pc : Nat} {lv : List (Nat × Value)} {st : List Value} {ws : va_W} (ok : mx_ok X Z own cc nL rm) {k : Int} (v : Int32) (hd : decode cc pc = .ok (.sipush k, 3)) (hv : (Int16.ofInt k).toInt32 = v) (kk : mx X n (pc + 3) lv (.int v :: st) ws) : mx X n pc lv st ws := by
  obtain ⟨⟨p, l, e, R, s, m, args, below, meth, c⟩, D, tys, lo, Q⟩ := X
  intro ls H locs hl hP hD hS
  exact lv_sipush ok.1 ok.2.1 hd hv (kk ls H locs hl hP hD hS)
theorem mr_iload_n {X : mx_C} {Z : mx_Z} {own : String} {cc : ByteArray} {nL : Nat} {rm : Room} {n : Nat × Nat} {pc : Nat} {lv : List (Nat × Value)} {st : List Value} {ws : va_W} (ok : mx_ok X Z own cc nL rm) {k : Fin 4} {i : Nat} {x : Int32} (hd : decode cc pc = .ok (.iload_n k, 1)) (hi : (k : Nat) = i) (hq : lq lv i = some (.int x)) (kk : mx X n (pc + 1) lv (.int x :: st) ws) : mx X n pc lv st ws := by
  obtain ⟨⟨p, l, e, R, s, m, args, below, meth, c⟩, D, tys, lo, Q⟩ := X
  intro ls H locs hl hP hD hS
  exact lv_iload_n ok.1 ok.2.1 hd hi (hl.at hq) (kk ls H locs hl hP hD hS)
theorem mr_iload {X : mx_C} {Z : mx_Z} {own : String} {cc : ByteArray} {nL : Nat} {rm : Room} {n : Nat × Nat} {pc : Nat} {lv : List (Nat × Value)} {st : List Value} {ws : va_W} (ok : mx_ok X Z own cc nL rm) {i : Nat} {x : Int32} (hd : decode cc pc = .ok (.iload i, 2)) (hq : lq lv i = some (.int x)) (kk : mx X n (pc + 2) lv (.int x :: st) ws) : mx X n pc lv st ws := by
  obtain ⟨⟨p, l, e, R, s, m, args, below, meth, c⟩, D, tys, lo, Q⟩ := X
  intro ls H locs hl hP hD hS
  exact lv_iload ok.1 ok.2.1 hd (hl.at hq) (kk ls H locs hl hP hD hS)
theorem mr_aload_n {X : mx_C} {Z : mx_Z} {own : String} {cc : ByteArray} {nL : Nat} {rm : Room} {n : Nat × Nat} {pc : Nat} {lv : List (Nat × Value)} {st : List Value} {ws : va_W} (ok : mx_ok X Z own cc nL rm) {k : Fin 4} {i : Nat} {x : Nat} (hd : decode cc pc = .ok (.aload_n k, 1)) (hi : (k : Nat) = i) (hq : lq lv i = some (.ref x)) (kk : mx X n (pc + 1) lv (.ref x :: st) ws) : mx X n pc lv st ws := by
  obtain ⟨⟨p, l, e, R, s, m, args, below, meth, c⟩, D, tys, lo, Q⟩ := X
  intro ls H locs hl hP hD hS
  exact lv_aload_n ok.1 ok.2.1 hd hi (hl.at hq) (kk ls H locs hl hP hD hS)
theorem mr_aload {X : mx_C} {Z : mx_Z} {own : String} {cc : ByteArray} {nL : Nat} {rm : Room} {n : Nat × Nat} {pc : Nat} {lv : List (Nat × Value)} {st : List Value} {ws : va_W} (ok : mx_ok X Z own cc nL rm) {i : Nat} {x : Nat} (hd : decode cc pc = .ok (.aload i, 2)) (hq : lq lv i = some (.ref x)) (kk : mx X n (pc + 2) lv (.ref x :: st) ws) : mx X n pc lv st ws := by
  obtain ⟨⟨p, l, e, R, s, m, args, below, meth, c⟩, D, tys, lo, Q⟩ := X
  intro ls H locs hl hP hD hS
  exact lv_aload ok.1 ok.2.1 hd (hl.at hq) (kk ls H locs hl hP hD hS)
theorem mr_aload_nN {X : mx_C} {Z : mx_Z} {own : String} {cc : ByteArray} {nL : Nat} {rm : Room} {n : Nat × Nat} {pc : Nat} {lv : List (Nat × Value)} {st : List Value} {ws : va_W} (ok : mx_ok X Z own cc nL rm) {k : Fin 4} {i : Nat} (hd : decode cc pc = .ok (.aload_n k, 1)) (hi : (k : Nat) = i) (hq : lq lv i = some .null) (kk : mx X n (pc + 1) lv (.null :: st) ws) : mx X n pc lv st ws := by
  obtain ⟨⟨p, l, e, R, s, m, args, below, meth, c⟩, D, tys, lo, Q⟩ := X
  intro ls H locs hl hP hD hS
  exact lv_aload_nN ok.1 ok.2.1 hd hi (hl.at hq) (kk ls H locs hl hP hD hS)
theorem mr_istore_n {X : mx_C} {Z : mx_Z} {own : String} {cc : ByteArray} {nL : Nat} {rm : Room} {n : Nat × Nat} {pc : Nat} {lv : List (Nat × Value)} {st : List Value} {ws : va_W} (ok : mx_ok X Z own cc nL rm) {k : Fin 4} {i : Nat} {x : Int32} (hd : decode cc pc = .ok (.istore_n k, 1)) (hi : (k : Nat) = i) (hn : i < nL) (kk : mx X n (pc + 1) ((i, Value.int x) :: lv) st ws) : mx X n pc lv (.int x :: st) ws := by
  obtain ⟨⟨p, l, e, R, s, m, args, below, meth, c⟩, D, tys, lo, Q⟩ := X
  intro ls H locs hl hP hD hS
  exact lv_istore_n ok.1 ok.2.1 hd hi hl.1 (by rw [ok.2.2.1]; exact hn) rfl (fun ls h' => kk ls H locs (hl.put rfl h') hP hD hS)
theorem mr_istore {X : mx_C} {Z : mx_Z} {own : String} {cc : ByteArray} {nL : Nat} {rm : Room} {n : Nat × Nat} {pc : Nat} {lv : List (Nat × Value)} {st : List Value} {ws : va_W} (ok : mx_ok X Z own cc nL rm) {i : Nat} {x : Int32} (hd : decode cc pc = .ok (.istore i, 2)) (hn : i < nL) (kk : mx X n (pc + 2) ((i, Value.int x) :: lv) st ws) : mx X n pc lv (.int x :: st) ws := by
  obtain ⟨⟨p, l, e, R, s, m, args, below, meth, c⟩, D, tys, lo, Q⟩ := X
  intro ls H locs hl hP hD hS
  exact lv_istore ok.1 ok.2.1 hd hl.1 (by rw [ok.2.2.1]; exact hn) rfl (fun ls h' => kk ls H locs (hl.put rfl h') hP hD hS)
theorem mr_astore_n {X : mx_C} {Z : mx_Z} {own : String} {cc : ByteArray} {nL : Nat} {rm : Room} {n : Nat × Nat} {pc : Nat} {lv : List (Nat × Value)} {st : List Value} {ws : va_W} (ok : mx_ok X Z own cc nL rm) {k : Fin 4} {i : Nat} {x : Nat} (hd : decode cc pc = .ok (.astore_n k, 1)) (hi : (k : Nat) = i) (hn : i < nL) (kk : mx X n (pc + 1) ((i, Value.ref x) :: lv) st ws) : mx X n pc lv (.ref x :: st) ws := by
  obtain ⟨⟨p, l, e, R, s, m, args, below, meth, c⟩, D, tys, lo, Q⟩ := X
  intro ls H locs hl hP hD hS
  exact lv_astore_n ok.1 ok.2.1 hd hi hl.1 (by rw [ok.2.2.1]; exact hn) rfl (fun ls h' => kk ls H locs (hl.put rfl h') hP hD hS)
theorem mr_astore {X : mx_C} {Z : mx_Z} {own : String} {cc : ByteArray} {nL : Nat} {rm : Room} {n : Nat × Nat} {pc : Nat} {lv : List (Nat × Value)} {st : List Value} {ws : va_W} (ok : mx_ok X Z own cc nL rm) {i : Nat} {x : Nat} (hd : decode cc pc = .ok (.astore i, 2)) (hn : i < nL) (kk : mx X n (pc + 2) ((i, Value.ref x) :: lv) st ws) : mx X n pc lv (.ref x :: st) ws := by
  obtain ⟨⟨p, l, e, R, s, m, args, below, meth, c⟩, D, tys, lo, Q⟩ := X
  intro ls H locs hl hP hD hS
  exact lv_astore ok.1 ok.2.1 hd hl.1 (by rw [ok.2.2.1]; exact hn) rfl (fun ls h' => kk ls H locs (hl.put rfl h') hP hD hS)
theorem mr_astore_nN {X : mx_C} {Z : mx_Z} {own : String} {cc : ByteArray} {nL : Nat} {rm : Room} {n : Nat × Nat} {pc : Nat} {lv : List (Nat × Value)} {st : List Value} {ws : va_W} (ok : mx_ok X Z own cc nL rm) {k : Fin 4} {i : Nat} (hd : decode cc pc = .ok (.astore_n k, 1)) (hi : (k : Nat) = i) (hn : i < nL) (kk : mx X n (pc + 1) ((i, Value.null) :: lv) st ws) : mx X n pc lv (.null :: st) ws := by
  obtain ⟨⟨p, l, e, R, s, m, args, below, meth, c⟩, D, tys, lo, Q⟩ := X
  intro ls H locs hl hP hD hS
  exact lv_astore_nN ok.1 ok.2.1 hd hi hl.1 (by rw [ok.2.2.1]; exact hn) rfl (fun ls h' => kk ls H locs (hl.put rfl h') hP hD hS)
theorem mr_astoreN {X : mx_C} {Z : mx_Z} {own : String} {cc : ByteArray} {nL : Nat} {rm : Room} {n : Nat × Nat} {pc : Nat} {lv : List (Nat × Value)} {st : List Value} {ws : va_W} (ok : mx_ok X Z own cc nL rm) {i : Nat} (hd : decode cc pc = .ok (.astore i, 2)) (hn : i < nL) (kk : mx X n (pc + 2) ((i, Value.null) :: lv) st ws) : mx X n pc lv (.null :: st) ws := by
  obtain ⟨⟨p, l, e, R, s, m, args, below, meth, c⟩, D, tys, lo, Q⟩ := X
  intro ls H locs hl hP hD hS
  exact lv_astoreN ok.1 ok.2.1 hd hl.1 (by rw [ok.2.2.1]; exact hn) rfl (fun ls h' => kk ls H locs (hl.put rfl h') hP hD hS)
theorem mr_iinc {X : mx_C} {Z : mx_Z} {own : String} {cc : ByteArray} {nL : Nat} {rm : Room} {n : Nat × Nat} {pc : Nat} {lv : List (Nat × Value)} {st : List Value} {ws : va_W} (ok : mx_ok X Z own cc nL rm) {i : Nat} {k : Int} {x : Int32} (v : Int32) (hd : decode cc pc = .ok (.iinc i k, 3)) (hq : lq lv i = some (.int x)) (hv : x + Int32.ofInt k = v) (hn : i < nL) (kk : mx X n (pc + 3) ((i, Value.int v) :: lv) st ws) : mx X n pc lv st ws := by
  obtain ⟨⟨p, l, e, R, s, m, args, below, meth, c⟩, D, tys, lo, Q⟩ := X
  intro ls H locs hl hP hD hS
  obtain ⟨q, hq⟩ := List.getElem?_of_mem (nz_of_lq lv i _ hq)
  exact lv_iinc ok.1 ok.2.1 hd hl.1 hq hv (by rw [ok.2.2.1]; exact hn) rfl (fun ls h' => kk ls H locs (hl.put rfl h') hP hD hS)
theorem mr_iadd {X : mx_C} {Z : mx_Z} {own : String} {cc : ByteArray} {nL : Nat} {rm : Room} {n : Nat × Nat} {pc : Nat} {lv : List (Nat × Value)} {st : List Value} {ws : va_W} (ok : mx_ok X Z own cc nL rm) {x y : Int32} (hd : decode cc pc = .ok (.iadd, 1)) (kk : mx X n (pc + 1) lv (.int (x + y) :: st) ws) : mx X n pc lv (.int y :: .int x :: st) ws := by
  obtain ⟨⟨p, l, e, R, s, m, args, below, meth, c⟩, D, tys, lo, Q⟩ := X
  intro ls H locs hl hP hD hS
  exact lv_iadd ok.1 ok.2.1 hd (kk ls H locs hl hP hD hS)
theorem mr_isub {X : mx_C} {Z : mx_Z} {own : String} {cc : ByteArray} {nL : Nat} {rm : Room} {n : Nat × Nat} {pc : Nat} {lv : List (Nat × Value)} {st : List Value} {ws : va_W} (ok : mx_ok X Z own cc nL rm) {x y : Int32} (hd : decode cc pc = .ok (.isub, 1)) (kk : mx X n (pc + 1) lv (.int (x - y) :: st) ws) : mx X n pc lv (.int y :: .int x :: st) ws := by
  obtain ⟨⟨p, l, e, R, s, m, args, below, meth, c⟩, D, tys, lo, Q⟩ := X
  intro ls H locs hl hP hD hS
  exact lv_isub ok.1 ok.2.1 hd (kk ls H locs hl hP hD hS)
theorem mr_imul {X : mx_C} {Z : mx_Z} {own : String} {cc : ByteArray} {nL : Nat} {rm : Room} {n : Nat × Nat} {pc : Nat} {lv : List (Nat × Value)} {st : List Value} {ws : va_W} (ok : mx_ok X Z own cc nL rm) {x y : Int32} (hd : decode cc pc = .ok (.imul, 1)) (kk : mx X n (pc + 1) lv (.int (x * y) :: st) ws) : mx X n pc lv (.int y :: .int x :: st) ws := by
  obtain ⟨⟨p, l, e, R, s, m, args, below, meth, c⟩, D, tys, lo, Q⟩ := X
  intro ls H locs hl hP hD hS
  exact lv_imul ok.1 ok.2.1 hd (kk ls H locs hl hP hD hS)
theorem mr_iand {X : mx_C} {Z : mx_Z} {own : String} {cc : ByteArray} {nL : Nat} {rm : Room} {n : Nat × Nat} {pc : Nat} {lv : List (Nat × Value)} {st : List Value} {ws : va_W} (ok : mx_ok X Z own cc nL rm) {x y : Int32} (hd : decode cc pc = .ok (.iand, 1)) (kk : mx X n (pc + 1) lv (.int (x &&& y) :: st) ws) : mx X n pc lv (.int y :: .int x :: st) ws := by
  obtain ⟨⟨p, l, e, R, s, m, args, below, meth, c⟩, D, tys, lo, Q⟩ := X
  intro ls H locs hl hP hD hS
  exact lv_iand ok.1 ok.2.1 hd (kk ls H locs hl hP hD hS)
theorem mr_ior {X : mx_C} {Z : mx_Z} {own : String} {cc : ByteArray} {nL : Nat} {rm : Room} {n : Nat × Nat} {pc : Nat} {lv : List (Nat × Value)} {st : List Value} {ws : va_W} (ok : mx_ok X Z own cc nL rm) {x y : Int32} (hd : decode cc pc = .ok (.ior, 1)) (kk : mx X n (pc + 1) lv (.int (x ||| y) :: st) ws) : mx X n pc lv (.int y :: .int x :: st) ws := by
  obtain ⟨⟨p, l, e, R, s, m, args, below, meth, c⟩, D, tys, lo, Q⟩ := X
  intro ls H locs hl hP hD hS
  exact lv_ior ok.1 ok.2.1 hd (kk ls H locs hl hP hD hS)
theorem mr_ixor {X : mx_C} {Z : mx_Z} {own : String} {cc : ByteArray} {nL : Nat} {rm : Room} {n : Nat × Nat} {pc : Nat} {lv : List (Nat × Value)} {st : List Value} {ws : va_W} (ok : mx_ok X Z own cc nL rm) {x y : Int32} (hd : decode cc pc = .ok (.ixor, 1)) (kk : mx X n (pc + 1) lv (.int (x ^^^ y) :: st) ws) : mx X n pc lv (.int y :: .int x :: st) ws := by
  obtain ⟨⟨p, l, e, R, s, m, args, below, meth, c⟩, D, tys, lo, Q⟩ := X
  intro ls H locs hl hP hD hS
  exact lv_ixor ok.1 ok.2.1 hd (kk ls H locs hl hP hD hS)
theorem mr_ishl {X : mx_C} {Z : mx_Z} {own : String} {cc : ByteArray} {nL : Nat} {rm : Room} {n : Nat × Nat} {pc : Nat} {lv : List (Nat × Value)} {st : List Value} {ws : va_W} (ok : mx_ok X Z own cc nL rm) {x y : Int32} (hd : decode cc pc = .ok (.ishl, 1)) (kk : mx X n (pc + 1) lv (.int (x <<< (y &&& 31)) :: st) ws) : mx X n pc lv (.int y :: .int x :: st) ws := by
  obtain ⟨⟨p, l, e, R, s, m, args, below, meth, c⟩, D, tys, lo, Q⟩ := X
  intro ls H locs hl hP hD hS
  exact lv_ishl ok.1 ok.2.1 hd (kk ls H locs hl hP hD hS)
theorem mr_ishr {X : mx_C} {Z : mx_Z} {own : String} {cc : ByteArray} {nL : Nat} {rm : Room} {n : Nat × Nat} {pc : Nat} {lv : List (Nat × Value)} {st : List Value} {ws : va_W} (ok : mx_ok X Z own cc nL rm) {x y : Int32} (hd : decode cc pc = .ok (.ishr, 1)) (kk : mx X n (pc + 1) lv (.int (x >>> (y &&& 31)) :: st) ws) : mx X n pc lv (.int y :: .int x :: st) ws := by
  obtain ⟨⟨p, l, e, R, s, m, args, below, meth, c⟩, D, tys, lo, Q⟩ := X
  intro ls H locs hl hP hD hS
  exact lv_ishr ok.1 ok.2.1 hd (kk ls H locs hl hP hD hS)
theorem mr_iushr {X : mx_C} {Z : mx_Z} {own : String} {cc : ByteArray} {nL : Nat} {rm : Room} {n : Nat × Nat} {pc : Nat} {lv : List (Nat × Value)} {st : List Value} {ws : va_W} (ok : mx_ok X Z own cc nL rm) {x y : Int32} (hd : decode cc pc = .ok (.iushr, 1)) (kk : mx X n (pc + 1) lv (.int ((x.toUInt32 >>> (y.toUInt32 &&& Int32.toUInt32 31)).toInt32) :: st) ws) : mx X n pc lv (.int y :: .int x :: st) ws := by
  obtain ⟨⟨p, l, e, R, s, m, args, below, meth, c⟩, D, tys, lo, Q⟩ := X
  intro ls H locs hl hP hD hS
  exact lv_iushr ok.1 ok.2.1 hd rfl (kk ls H locs hl hP hD hS)
theorem mr_ineg {X : mx_C} {Z : mx_Z} {own : String} {cc : ByteArray} {nL : Nat} {rm : Room} {n : Nat × Nat} {pc : Nat} {lv : List (Nat × Value)} {st : List Value} {ws : va_W} (ok : mx_ok X Z own cc nL rm) {x : Int32} (hd : decode cc pc = .ok (.ineg, 1)) (kk : mx X n (pc + 1) lv (.int (-x) :: st) ws) : mx X n pc lv (.int x :: st) ws := by
  obtain ⟨⟨p, l, e, R, s, m, args, below, meth, c⟩, D, tys, lo, Q⟩ := X
  intro ls H locs hl hP hD hS
  exact lv_ineg ok.1 ok.2.1 hd (kk ls H locs hl hP hD hS)
theorem mr_idiv {X : mx_C} {Z : mx_Z} {own : String} {cc : ByteArray} {nL : Nat} {rm : Room} {n : Nat × Nat} {pc : Nat} {lv : List (Nat × Value)} {st : List Value} {ws : va_W} (ok : mx_ok X Z own cc nL rm) {x y : Int32} (hd : decode cc pc = .ok (.idiv, 1)) (hne : ¬ y = 0) (kk : mx X n (pc + 1) lv (.int (x / y) :: st) ws) : mx X n pc lv (.int y :: .int x :: st) ws := by
  obtain ⟨⟨p, l, e, R, s, m, args, below, meth, c⟩, D, tys, lo, Q⟩ := X
  intro ls H locs hl hP hD hS
  exact lv_idiv ok.1 ok.2.1 hd hne (kk ls H locs hl hP hD hS)
theorem mr_irem {X : mx_C} {Z : mx_Z} {own : String} {cc : ByteArray} {nL : Nat} {rm : Room} {n : Nat × Nat} {pc : Nat} {lv : List (Nat × Value)} {st : List Value} {ws : va_W} (ok : mx_ok X Z own cc nL rm) {x y : Int32} (hd : decode cc pc = .ok (.irem, 1)) (hne : ¬ y = 0) (kk : mx X n (pc + 1) lv (.int (x - x / y * y) :: st) ws) : mx X n pc lv (.int y :: .int x :: st) ws := by
  obtain ⟨⟨p, l, e, R, s, m, args, below, meth, c⟩, D, tys, lo, Q⟩ := X
  intro ls H locs hl hP hD hS
  exact lv_irem ok.1 ok.2.1 hd hne (kk ls H locs hl hP hD hS)
theorem mr_if_eq {X : mx_C} {Z : mx_Z} {own : String} {cc : ByteArray} {nL : Nat} {rm : Room} {n : Nat × Nat} {pc : Nat} {lv : List (Nat × Value)} {st : List Value} {ws : va_W} (ok : mx_ok X Z own cc nL rm) {x : Int32} {off : Int} (tgt : Nat) (hd : decode cc pc = .ok (.ifCond .eq off, 3)) (ht : (pc : Int) + off = (tgt : Int)) (kt : x = 0 → mx X n tgt lv st ws) (kf : ¬ x = 0 → mx X n (pc + 3) lv st ws) : mx X n pc lv (.int x :: st) ws := by
  obtain ⟨⟨p, l, e, R, s, m, args, below, meth, c⟩, D, tys, lo, Q⟩ := X
  intro ls H locs hl hP hD hS
  exact lv_if_eq ok.1 ok.2.1 hd ht (fun h => kt h ls H locs hl hP hD hS) (fun h => kf h ls H locs hl hP hD hS)
theorem mr_if_ne {X : mx_C} {Z : mx_Z} {own : String} {cc : ByteArray} {nL : Nat} {rm : Room} {n : Nat × Nat} {pc : Nat} {lv : List (Nat × Value)} {st : List Value} {ws : va_W} (ok : mx_ok X Z own cc nL rm) {x : Int32} {off : Int} (tgt : Nat) (hd : decode cc pc = .ok (.ifCond .ne off, 3)) (ht : (pc : Int) + off = (tgt : Int)) (kt : ¬ x = 0 → mx X n tgt lv st ws) (kf : x = 0 → mx X n (pc + 3) lv st ws) : mx X n pc lv (.int x :: st) ws := by
  obtain ⟨⟨p, l, e, R, s, m, args, below, meth, c⟩, D, tys, lo, Q⟩ := X
  intro ls H locs hl hP hD hS
  exact lv_if_ne ok.1 ok.2.1 hd ht (fun h => kt h ls H locs hl hP hD hS) (fun h => kf h ls H locs hl hP hD hS)
theorem mr_if_lt {X : mx_C} {Z : mx_Z} {own : String} {cc : ByteArray} {nL : Nat} {rm : Room} {n : Nat × Nat} {pc : Nat} {lv : List (Nat × Value)} {st : List Value} {ws : va_W} (ok : mx_ok X Z own cc nL rm) {x : Int32} {off : Int} (tgt : Nat) (hd : decode cc pc = .ok (.ifCond .lt off, 3)) (ht : (pc : Int) + off = (tgt : Int)) (kt : x < 0 → mx X n tgt lv st ws) (kf : ¬ x < 0 → mx X n (pc + 3) lv st ws) : mx X n pc lv (.int x :: st) ws := by
  obtain ⟨⟨p, l, e, R, s, m, args, below, meth, c⟩, D, tys, lo, Q⟩ := X
  intro ls H locs hl hP hD hS
  exact lv_if_lt ok.1 ok.2.1 hd ht (fun h => kt h ls H locs hl hP hD hS) (fun h => kf h ls H locs hl hP hD hS)
theorem mr_if_ge {X : mx_C} {Z : mx_Z} {own : String} {cc : ByteArray} {nL : Nat} {rm : Room} {n : Nat × Nat} {pc : Nat} {lv : List (Nat × Value)} {st : List Value} {ws : va_W} (ok : mx_ok X Z own cc nL rm) {x : Int32} {off : Int} (tgt : Nat) (hd : decode cc pc = .ok (.ifCond .ge off, 3)) (ht : (pc : Int) + off = (tgt : Int)) (kt : 0 ≤ x → mx X n tgt lv st ws) (kf : ¬ 0 ≤ x → mx X n (pc + 3) lv st ws) : mx X n pc lv (.int x :: st) ws := by
  obtain ⟨⟨p, l, e, R, s, m, args, below, meth, c⟩, D, tys, lo, Q⟩ := X
  intro ls H locs hl hP hD hS
  exact lv_if_ge ok.1 ok.2.1 hd ht (fun h => kt h ls H locs hl hP hD hS) (fun h => kf h ls H locs hl hP hD hS)
theorem mr_if_gt {X : mx_C} {Z : mx_Z} {own : String} {cc : ByteArray} {nL : Nat} {rm : Room} {n : Nat × Nat} {pc : Nat} {lv : List (Nat × Value)} {st : List Value} {ws : va_W} (ok : mx_ok X Z own cc nL rm) {x : Int32} {off : Int} (tgt : Nat) (hd : decode cc pc = .ok (.ifCond .gt off, 3)) (ht : (pc : Int) + off = (tgt : Int)) (kt : 0 < x → mx X n tgt lv st ws) (kf : ¬ 0 < x → mx X n (pc + 3) lv st ws) : mx X n pc lv (.int x :: st) ws := by
  obtain ⟨⟨p, l, e, R, s, m, args, below, meth, c⟩, D, tys, lo, Q⟩ := X
  intro ls H locs hl hP hD hS
  exact lv_if_gt ok.1 ok.2.1 hd ht (fun h => kt h ls H locs hl hP hD hS) (fun h => kf h ls H locs hl hP hD hS)
theorem mr_if_le {X : mx_C} {Z : mx_Z} {own : String} {cc : ByteArray} {nL : Nat} {rm : Room} {n : Nat × Nat} {pc : Nat} {lv : List (Nat × Value)} {st : List Value} {ws : va_W} (ok : mx_ok X Z own cc nL rm) {x : Int32} {off : Int} (tgt : Nat) (hd : decode cc pc = .ok (.ifCond .le off, 3)) (ht : (pc : Int) + off = (tgt : Int)) (kt : x ≤ 0 → mx X n tgt lv st ws) (kf : ¬ x ≤ 0 → mx X n (pc + 3) lv st ws) : mx X n pc lv (.int x :: st) ws := by
  obtain ⟨⟨p, l, e, R, s, m, args, below, meth, c⟩, D, tys, lo, Q⟩ := X
  intro ls H locs hl hP hD hS
  exact lv_if_le ok.1 ok.2.1 hd ht (fun h => kt h ls H locs hl hP hD hS) (fun h => kf h ls H locs hl hP hD hS)
theorem mr_icmp_eq {X : mx_C} {Z : mx_Z} {own : String} {cc : ByteArray} {nL : Nat} {rm : Room} {n : Nat × Nat} {pc : Nat} {lv : List (Nat × Value)} {st : List Value} {ws : va_W} (ok : mx_ok X Z own cc nL rm) {x y : Int32} {off : Int} (tgt : Nat) (hd : decode cc pc = .ok (.if_icmp .eq off, 3)) (ht : (pc : Int) + off = (tgt : Int)) (kt : x = y → mx X n tgt lv st ws) (kf : ¬ x = y → mx X n (pc + 3) lv st ws) : mx X n pc lv (.int y :: .int x :: st) ws := by
  obtain ⟨⟨p, l, e, R, s, m, args, below, meth, c⟩, D, tys, lo, Q⟩ := X
  intro ls H locs hl hP hD hS
  exact lv_icmp_eq ok.1 ok.2.1 hd ht (fun h => kt h ls H locs hl hP hD hS) (fun h => kf h ls H locs hl hP hD hS)
theorem mr_icmp_ne {X : mx_C} {Z : mx_Z} {own : String} {cc : ByteArray} {nL : Nat} {rm : Room} {n : Nat × Nat} {pc : Nat} {lv : List (Nat × Value)} {st : List Value} {ws : va_W} (ok : mx_ok X Z own cc nL rm) {x y : Int32} {off : Int} (tgt : Nat) (hd : decode cc pc = .ok (.if_icmp .ne off, 3)) (ht : (pc : Int) + off = (tgt : Int)) (kt : ¬ x = y → mx X n tgt lv st ws) (kf : x = y → mx X n (pc + 3) lv st ws) : mx X n pc lv (.int y :: .int x :: st) ws := by
  obtain ⟨⟨p, l, e, R, s, m, args, below, meth, c⟩, D, tys, lo, Q⟩ := X
  intro ls H locs hl hP hD hS
  exact lv_icmp_ne ok.1 ok.2.1 hd ht (fun h => kt h ls H locs hl hP hD hS) (fun h => kf h ls H locs hl hP hD hS)
theorem mr_icmp_lt {X : mx_C} {Z : mx_Z} {own : String} {cc : ByteArray} {nL : Nat} {rm : Room} {n : Nat × Nat} {pc : Nat} {lv : List (Nat × Value)} {st : List Value} {ws : va_W} (ok : mx_ok X Z own cc nL rm) {x y : Int32} {off : Int} (tgt : Nat) (hd : decode cc pc = .ok (.if_icmp .lt off, 3)) (ht : (pc : Int) + off = (tgt : Int)) (kt : x < y → mx X n tgt lv st ws) (kf : ¬ x < y → mx X n (pc + 3) lv st ws) : mx X n pc lv (.int y :: .int x :: st) ws := by
  obtain ⟨⟨p, l, e, R, s, m, args, below, meth, c⟩, D, tys, lo, Q⟩ := X
  intro ls H locs hl hP hD hS
  exact lv_icmp_lt ok.1 ok.2.1 hd ht (fun h => kt h ls H locs hl hP hD hS) (fun h => kf h ls H locs hl hP hD hS)
theorem mr_icmp_ge {X : mx_C} {Z : mx_Z} {own : String} {cc : ByteArray} {nL : Nat} {rm : Room} {n : Nat × Nat} {pc : Nat} {lv : List (Nat × Value)} {st : List Value} {ws : va_W} (ok : mx_ok X Z own cc nL rm) {x y : Int32} {off : Int} (tgt : Nat) (hd : decode cc pc = .ok (.if_icmp .ge off, 3)) (ht : (pc : Int) + off = (tgt : Int)) (kt : y ≤ x → mx X n tgt lv st ws) (kf : ¬ y ≤ x → mx X n (pc + 3) lv st ws) : mx X n pc lv (.int y :: .int x :: st) ws := by
  obtain ⟨⟨p, l, e, R, s, m, args, below, meth, c⟩, D, tys, lo, Q⟩ := X
  intro ls H locs hl hP hD hS
  exact lv_icmp_ge ok.1 ok.2.1 hd ht (fun h => kt h ls H locs hl hP hD hS) (fun h => kf h ls H locs hl hP hD hS)
theorem mr_icmp_gt {X : mx_C} {Z : mx_Z} {own : String} {cc : ByteArray} {nL : Nat} {rm : Room} {n : Nat × Nat} {pc : Nat} {lv : List (Nat × Value)} {st : List Value} {ws : va_W} (ok : mx_ok X Z own cc nL rm) {x y : Int32} {off : Int} (tgt : Nat) (hd : decode cc pc = .ok (.if_icmp .gt off, 3)) (ht : (pc : Int) + off = (tgt : Int)) (kt : y < x → mx X n tgt lv st ws) (kf : ¬ y < x → mx X n (pc + 3) lv st ws) : mx X n pc lv (.int y :: .int x :: st) ws := by
  obtain ⟨⟨p, l, e, R, s, m, args, below, meth, c⟩, D, tys, lo, Q⟩ := X
  intro ls H locs hl hP hD hS
  exact lv_icmp_gt ok.1 ok.2.1 hd ht (fun h => kt h ls H locs hl hP hD hS) (fun h => kf h ls H locs hl hP hD hS)
theorem mr_icmp_le {X : mx_C} {Z : mx_Z} {own : String} {cc : ByteArray} {nL : Nat} {rm : Room} {n : Nat × Nat} {pc : Nat} {lv : List (Nat × Value)} {st : List Value} {ws : va_W} (ok : mx_ok X Z own cc nL rm) {x y : Int32} {off : Int} (tgt : Nat) (hd : decode cc pc = .ok (.if_icmp .le off, 3)) (ht : (pc : Int) + off = (tgt : Int)) (kt : x ≤ y → mx X n tgt lv st ws) (kf : ¬ x ≤ y → mx X n (pc + 3) lv st ws) : mx X n pc lv (.int y :: .int x :: st) ws := by
  obtain ⟨⟨p, l, e, R, s, m, args, below, meth, c⟩, D, tys, lo, Q⟩ := X
  intro ls H locs hl hP hD hS
  exact lv_icmp_le ok.1 ok.2.1 hd ht (fun h => kt h ls H locs hl hP hD hS) (fun h => kf h ls H locs hl hP hD hS)
theorem mr_goto {X : mx_C} {Z : mx_Z} {own : String} {cc : ByteArray} {nL : Nat} {rm : Room} {n : Nat × Nat} {pc : Nat} {lv : List (Nat × Value)} {st : List Value} {ws : va_W} (ok : mx_ok X Z own cc nL rm) {off : Int} (tgt : Nat) (hd : decode cc pc = .ok (.goto off, 3)) (ht : (pc : Int) + off = (tgt : Int)) (kk : mx X n tgt lv st ws) : mx X n pc lv st ws := by
  obtain ⟨⟨p, l, e, R, s, m, args, below, meth, c⟩, D, tys, lo, Q⟩ := X
  intro ls H locs hl hP hD hS
  exact lv_goto ok.1 ok.2.1 hd ht (kk ls H locs hl hP hD hS)
theorem mr_ifnull {X : mx_C} {Z : mx_Z} {own : String} {cc : ByteArray} {nL : Nat} {rm : Room} {n : Nat × Nat} {pc : Nat} {lv : List (Nat × Value)} {st : List Value} {ws : va_W} (ok : mx_ok X Z own cc nL rm) {x : Nat} {off : Int} (hd : decode cc pc = .ok (.ifnull off, 3)) (kk : mx X n (pc + 3) lv st ws) : mx X n pc lv (.ref x :: st) ws := by
  obtain ⟨⟨p, l, e, R, s, m, args, below, meth, c⟩, D, tys, lo, Q⟩ := X
  intro ls H locs hl hP hD hS
  exact lv_ifnull ok.1 ok.2.1 hd (kk ls H locs hl hP hD hS)
theorem mr_ifnonnullN {X : mx_C} {Z : mx_Z} {own : String} {cc : ByteArray} {nL : Nat} {rm : Room} {n : Nat × Nat} {pc : Nat} {lv : List (Nat × Value)} {st : List Value} {ws : va_W} (ok : mx_ok X Z own cc nL rm) {off : Int} (hd : decode cc pc = .ok (.ifnonnull off, 3)) (kk : mx X n (pc + 3) lv st ws) : mx X n pc lv (.null :: st) ws := by
  obtain ⟨⟨p, l, e, R, s, m, args, below, meth, c⟩, D, tys, lo, Q⟩ := X
  intro ls H locs hl hP hD hS
  exact lv_ifnonnullN ok.1 ok.2.1 hd (kk ls H locs hl hP hD hS)
theorem mr_ifnonnull {X : mx_C} {Z : mx_Z} {own : String} {cc : ByteArray} {nL : Nat} {rm : Room} {n : Nat × Nat} {pc : Nat} {lv : List (Nat × Value)} {st : List Value} {ws : va_W} (ok : mx_ok X Z own cc nL rm) {x : Nat} {off : Int} (tgt : Nat) (hd : decode cc pc = .ok (.ifnonnull off, 3)) (ht : (pc : Int) + off = (tgt : Int)) (kk : mx X n tgt lv st ws) : mx X n pc lv (.ref x :: st) ws := by
  obtain ⟨⟨p, l, e, R, s, m, args, below, meth, c⟩, D, tys, lo, Q⟩ := X
  intro ls H locs hl hP hD hS
  exact lv_ifnonnull ok.1 ok.2.1 hd ht (kk ls H locs hl hP hD hS)
theorem mr_ifnullN {X : mx_C} {Z : mx_Z} {own : String} {cc : ByteArray} {nL : Nat} {rm : Room} {n : Nat × Nat} {pc : Nat} {lv : List (Nat × Value)} {st : List Value} {ws : va_W} (ok : mx_ok X Z own cc nL rm) {off : Int} (tgt : Nat) (hd : decode cc pc = .ok (.ifnull off, 3)) (ht : (pc : Int) + off = (tgt : Int)) (kk : mx X n tgt lv st ws) : mx X n pc lv (.null :: st) ws := by
  obtain ⟨⟨p, l, e, R, s, m, args, below, meth, c⟩, D, tys, lo, Q⟩ := X
  intro ls H locs hl hP hD hS
  exact lv_ifnullN ok.1 ok.2.1 hd ht (kk ls H locs hl hP hD hS)
theorem mr_null {X : mx_C} {Z : mx_Z} {own : String} {cc : ByteArray} {nL : Nat} {rm : Room} {n : Nat × Nat} {pc : Nat} {lv : List (Nat × Value)} {st : List Value} {ws : va_W} (ok : mx_ok X Z own cc nL rm) (hd : decode cc pc = .ok (.aconst_null, 1)) (kk : mx X n (pc + 1) lv (.null :: st) ws) : mx X n pc lv st ws := by
  obtain ⟨⟨p, l, e, R, s, m, args, below, meth, c⟩, D, tys, lo, Q⟩ := X
  intro ls H locs hl hP hD hS
  exact lv_null ok.1 ok.2.1 hd (kk ls H locs hl hP hD hS)
theorem mr_dup {X : mx_C} {Z : mx_Z} {own : String} {cc : ByteArray} {nL : Nat} {rm : Room} {n : Nat × Nat} {pc : Nat} {lv : List (Nat × Value)} {st : List Value} {ws : va_W} (ok : mx_ok X Z own cc nL rm) {va : Value} (hd : decode cc pc = .ok (.dup, 1)) (hc : va.category = 1) (kk : mx X n (pc + 1) lv (va :: va :: st) ws) : mx X n pc lv (va :: st) ws := by
  obtain ⟨⟨p, l, e, R, s, m, args, below, meth, c⟩, D, tys, lo, Q⟩ := X
  intro ls H locs hl hP hD hS
  exact lv_dup ok.1 ok.2.1 hd hc (kk ls H locs hl hP hD hS)
theorem mr_pop {X : mx_C} {Z : mx_Z} {own : String} {cc : ByteArray} {nL : Nat} {rm : Room} {n : Nat × Nat} {pc : Nat} {lv : List (Nat × Value)} {st : List Value} {ws : va_W} (ok : mx_ok X Z own cc nL rm) {va : Value} (hd : decode cc pc = .ok (.pop, 1)) (hc : va.category = 1) (kk : mx X n (pc + 1) lv st ws) : mx X n pc lv (va :: st) ws := by
  obtain ⟨⟨p, l, e, R, s, m, args, below, meth, c⟩, D, tys, lo, Q⟩ := X
  intro ls H locs hl hP hD hS
  exact lv_pop ok.1 ok.2.1 hd hc (kk ls H locs hl hP hD hS)
theorem mr_dup_x1 {X : mx_C} {Z : mx_Z} {own : String} {cc : ByteArray} {nL : Nat} {rm : Room} {n : Nat × Nat} {pc : Nat} {lv : List (Nat × Value)} {st : List Value} {ws : va_W} (ok : mx_ok X Z own cc nL rm) {va vb : Value} (hd : decode cc pc = .ok (.dup_x1, 1)) (hc : va.category = 1) (hc2 : vb.category = 1) (kk : mx X n (pc + 1) lv (va :: vb :: va :: st) ws) : mx X n pc lv (va :: vb :: st) ws := by
  obtain ⟨⟨p, l, e, R, s, m, args, below, meth, c⟩, D, tys, lo, Q⟩ := X
  intro ls H locs hl hP hD hS
  exact lv_dup_x1 ok.1 ok.2.1 hd hc hc2 (kk ls H locs hl hP hD hS)
theorem mr_dup2 {X : mx_C} {Z : mx_Z} {own : String} {cc : ByteArray} {nL : Nat} {rm : Room} {n : Nat × Nat} {pc : Nat} {lv : List (Nat × Value)} {st : List Value} {ws : va_W} (ok : mx_ok X Z own cc nL rm) {va vb : Value} (hd : decode cc pc = .ok (.dup2, 1)) (hc : va.category = 1) (hc2 : vb.category = 1) (kk : mx X n (pc + 1) lv (va :: vb :: va :: vb :: st) ws) : mx X n pc lv (va :: vb :: st) ws := by
  obtain ⟨⟨p, l, e, R, s, m, args, below, meth, c⟩, D, tys, lo, Q⟩ := X
  intro ls H locs hl hP hD hS
  exact lv_dup2_11 ok.1 ok.2.1 hd hc hc2 (kk ls H locs hl hP hD hS)
theorem mr_lookup {X : mx_C} {Z : mx_Z} {own : String} {cc : ByteArray} {nL : Nat} {rm : Room} {n : Nat × Nat} {pc : Nat} {lv : List (Nat × Value)} {st : List Value} {ws : va_W} (ok : mx_ok X Z own cc nL rm) {dflt : Int} {ps : Array (Int × Int)} {len : Nat} {x : Int32} {off : Int} (tgt : Nat) (hd : decode cc pc = .ok (.lookupswitch dflt ps, len)) (hp : (ps.toList.zip (ps.toList.drop 1)).all (fun (a, next) => a.1 < next.1) = true) (ho : Op.lookupswitch.offset ps.toList dflt x.toInt = off) (ht : (pc : Int) + off = (tgt : Int)) (kk : mx X n tgt lv st ws) : mx X n pc lv (.int x :: st) ws := by
  obtain ⟨⟨p, l, e, R, s, m, args, below, meth, c⟩, D, tys, lo, Q⟩ := X
  intro ls H locs hl hP hD hS
  exact lv_lookup ok.1 ok.2.1 hd hp ho ht (kk ls H locs hl hP hD hS)
theorem mr_tableOut {X : mx_C} {Z : mx_Z} {own : String} {cc : ByteArray} {nL : Nat} {rm : Room} {n : Nat × Nat} {pc : Nat} {lv : List (Nat × Value)} {st : List Value} {ws : va_W} (ok : mx_ok X Z own cc nL rm) {dflt tlo thi : Int} {offs : Array Int} {len : Nat} {x : Int32} (tgt : Nat) (hd : decode cc pc = .ok (.tableswitch dflt tlo thi offs, len)) (h : x.toInt < tlo ∨ thi < x.toInt) (ht : (pc : Int) + dflt = (tgt : Int)) (kk : mx X n tgt lv st ws) : mx X n pc lv (.int x :: st) ws := by
  obtain ⟨⟨p, l, e, R, s, m, args, below, meth, c⟩, D, tys, lo, Q⟩ := X
  intro ls H locs hl hP hD hS
  exact lv_tableOut ok.1 ok.2.1 hd h ht (kk ls H locs hl hP hD hS)
theorem mr_tableIn {X : mx_C} {Z : mx_Z} {own : String} {cc : ByteArray} {nL : Nat} {rm : Room} {n : Nat × Nat} {pc : Nat} {lv : List (Nat × Value)} {st : List Value} {ws : va_W} (ok : mx_ok X Z own cc nL rm) {dflt tlo thi : Int} {offs : Array Int} {len : Nat} {x : Int32} {off : Int} (tgt : Nat) (hd : decode cc pc = .ok (.tableswitch dflt tlo thi offs, len)) (h1 : ¬ x.toInt < tlo) (h2 : ¬ thi < x.toInt) (ho : offs[(x.toInt - tlo).toNat]? = some off) (ht : (pc : Int) + off = (tgt : Int)) (kk : mx X n tgt lv st ws) : mx X n pc lv (.int x :: st) ws := by
  obtain ⟨⟨p, l, e, R, s, m, args, below, meth, c⟩, D, tys, lo, Q⟩ := X
  intro ls H locs hl hP hD hS
  exact lv_tableIn ok.1 ok.2.1 hd h1 h2 ho ht (kk ls H locs hl hP hD hS)
/-- a class's field by a pool index: class number ci in vwCl, field k -/
def mx_fl (own : String) (idx ci k : Nat) : Prop := ∃ (C : String) (T : u_T) (N : Nat), vwCl[ci]? = some (C, T, N) ∧ k < N ∧ Cond.fieldLink own idx (T k).1 (T k).2.1 (T k).2.2.1 ∈ mx_tbl ∧ ∀ w ∈ u_ws C T N, w ∈ mx_tbl
/-- .. that may be written from anywhere in the nest: its type, the class's types and names -/
def mx_fw (own : String) (idx ci k : Nat) (ty : FieldType) : Prop := ∃ (C : String) (T : u_T) (N : Nat) (t0 : Nat → FieldType), vwCl[ci]? = some (C, T, N) ∧ k < N ∧ Cond.fieldLink own idx (T k).1 (T k).2.1 (T k).2.2.1 ∈ mx_tbl ∧ (∀ w ∈ u_ws C T N, w ∈ mx_tbl) ∧ (∀ k, k < N → parseFieldDescriptor (T k).2.2.1 = some (t0 k)) ∧ (∀ a, a < N → ∀ b, b < N → a ≠ b → (T a).2.1 ≠ (T b).2.1) ∧ (T k).2.2.2 = false ∧ parseFieldDescriptor (T k).2.2.1 = some ty
theorem mr_get {X : mx_C} {Z : mx_Z} {own : String} {cc : ByteArray} {nL : Nat} {rm : Room} {n : Nat × Nat} {pc : Nat} {lv : List (Nat × Value)} {st : List Value} {ws : va_W} (ok : mx_ok X Z own cc nL rm) {idx ci k a : Nat} (fl : mx_fl own idx ci k) (q0 : Nat) {fs : List Value} {v : Value} (he : ws[q0]? = some (a, .inr (ci, fs))) (hv : fs[k]? = some v) (hd : decode cc pc = .ok (.getfield idx, 3)) (kk : mx X n (pc + 3) lv (v :: st) ws) : mx X n pc lv (.ref a :: st) ws := by
  obtain ⟨⟨p, l, e, R, s, m, args, below, meth, c⟩, D, tys, lo, Q⟩ := X
  intro ls H locs hl hP hD hS
  obtain ⟨C, T, N, hc, hk, hlk, hin⟩ := fl
  exact va_get ok.1 ok.2.1 ok.2.2.2.2.1 hin ok.2.2.2.1 ok.2.2.2.2.2.1 hP q0 he hc k hk (ok.2.2.2.2.1 _ hlk) (fun _ h9 => h9) hv hd (kk ls H locs hl hP hD hS)
theorem mr_put {X : mx_C} {Z : mx_Z} {own : String} {cc : ByteArray} {nL : Nat} {rm : Room} {n : Nat × Nat} {pc : Nat} {lv : List (Nat × Value)} {st : List Value} {ws : va_W} (ok : mx_ok X Z own cc nL rm) {idx ci k a : Nat} {ty : FieldType} (fl : mx_fw own idx ci k ty) (q0 : Nat) {fs : List Value} {v : Value} (he : ws[q0]? = some (a, .inr (ci, fs))) (hl0 : k < fs.length) (hn : narrow ty v = v) (hf : fits ty v = true) (hd : decode cc pc = .ok (.putfield idx, 3)) (kk : mx X n (pc + 3) lv st (ws.set q0 (a, .inr (ci, fs.set k v)))) : mx X n pc lv (v :: .ref a :: st) ws := by
  obtain ⟨⟨p, l, e, R, s, m, args, below, meth, c⟩, D, tys, lo, Q⟩ := X
  intro ls H locs hl hP hD hS
  obtain ⟨C, T, N, t0, hc, hk, hlk, hin, hty, hnm, hfin, hde⟩ := fl
  exact va_put ok.1 ok.2.1 ok.2.2.2.2.1 hin t0 hty hnm ok.2.2.2.1 ok.2.2.2.2.2.1 hP hD hS q0 he hc k hk (ok.2.2.2.2.1 _ hlk) (fun _ h9 => h9) hfin hde hn hf hl0 hd (fun H1 locs1 hP1 hD1 hS1 => kk ls H1 locs1 hl hP1 hD1 hS1)
theorem mr_iald {X : mx_C} {Z : mx_Z} {own : String} {cc : ByteArray} {nL : Nat} {rm : Room} {n : Nat × Nat} {pc : Nat} {lv : List (Nat × Value)} {st : List Value} {ws : va_W} (ok : mx_ok X Z own cc nL rm) {a : Nat} (q0 t0 : Nat) {cA : ClassId} {N : Nat} {f : Nat → Int32} (he : ws[q0]? = some (a, .inl (cA, N, .inl f))) (ht : Z.2.2[t0]? = some (cA, .int)) {i : Int32} (hin : vp_in i N) (hd : decode cc pc = .ok (.iaload, 1)) (kk : mx X n (pc + 1) lv (.int (f i.toNatClampNeg) :: st) ws) : mx X n pc lv (.int i :: .ref a :: st) ws := by
  obtain ⟨⟨p, l, e, R, s, m, args, below, meth, c⟩, D, tys, lo, Q⟩ := X
  intro ls H locs hl hP hD hS
  have hZ := ok.2.2.2.2.2.2.2.2
  subst hZ
  exact va_iald ok.1 ok.2.1 ok.2.2.2.2.2.1 hP q0 t0 he ht hin hd (kk ls H locs hl hP hD hS)
theorem mr_iast {X : mx_C} {Z : mx_Z} {own : String} {cc : ByteArray} {nL : Nat} {rm : Room} {n : Nat × Nat} {pc : Nat} {lv : List (Nat × Value)} {st : List Value} {ws : va_W} (ok : mx_ok X Z own cc nL rm) {a : Nat} (q0 t0 : Nat) {cA : ClassId} {N : Nat} {f : Nat → Int32} (he : ws[q0]? = some (a, .inl (cA, N, .inl f))) (ht : Z.2.2[t0]? = some (cA, .int)) {i x : Int32} (hin : vp_in i N) (hd : decode cc pc = .ok (.iastore, 1)) (kk : mx X n (pc + 1) lv st (ws.set q0 (a, .inl (cA, N, .inl (upd f i.toNatClampNeg x))))) : mx X n pc lv (.int x :: .int i :: .ref a :: st) ws := by
  obtain ⟨⟨p, l, e, R, s, m, args, below, meth, c⟩, D, tys, lo, Q⟩ := X
  intro ls H locs hl hP hD hS
  have hZ := ok.2.2.2.2.2.2.2.2
  subst hZ
  exact va_iast ok.1 ok.2.1 ok.2.2.2.2.2.1 hP hD hS q0 t0 he ht hin hd (fun H1 locs1 hP1 hD1 hS1 => kk ls H1 locs1 hl hP1 hD1 hS1)
theorem mr_aald {X : mx_C} {Z : mx_Z} {own : String} {cc : ByteArray} {nL : Nat} {rm : Room} {n : Nat × Nat} {pc : Nat} {lv : List (Nat × Value)} {st : List Value} {ws : va_W} (ok : mx_ok X Z own cc nL rm) {a : Nat} (q0 t0 : Nat) {cA : ClassId} {C : String} {N : Nat} {f : Nat → Option Nat} (he : ws[q0]? = some (a, .inl (cA, N, .inr (.inr (.inr (.inr f)))))) (ht : Z.2.2[t0]? = some (cA, .object C)) {i : Int32} (hin : vp_in i N) (hd : decode cc pc = .ok (.aaload, 1)) (kk : mx X n (pc + 1) lv (va_rf (f i.toNatClampNeg) :: st) ws) : mx X n pc lv (.int i :: .ref a :: st) ws := by
  obtain ⟨⟨p, l, e, R, s, m, args, below, meth, c⟩, D, tys, lo, Q⟩ := X
  intro ls H locs hl hP hD hS
  have hZ := ok.2.2.2.2.2.2.2.2
  subst hZ
  exact va_aldq ok.1 ok.2.1 ok.2.2.2.2.2.1 hP q0 t0 he ht hin hd (kk ls H locs hl hP hD hS)
theorem mr_alen {X : mx_C} {Z : mx_Z} {own : String} {cc : ByteArray} {nL : Nat} {rm : Room} {n : Nat × Nat} {pc : Nat} {lv : List (Nat × Value)} {st : List Value} {ws : va_W} (ok : mx_ok X Z own cc nL rm) {a : Nat} (q0 t0 : Nat) {cA : ClassId} {x : vp_A} (he : ws[q0]? = some (a, .inl (cA, x))) {ty : FieldType} (ht : Z.2.2[t0]? = some (cA, ty)) (v : Int32) (hv : Int32.ofNat x.1 = v) (hd : decode cc pc = .ok (.arraylength, 1)) (kk : mx X n (pc + 1) lv (.int v :: st) ws) : mx X n pc lv (.ref a :: st) ws := by
  obtain ⟨⟨p, l, e, R, s, m, args, below, meth, c⟩, D, tys, lo, Q⟩ := X
  intro ls H locs hl hP hD hS
  have hZ := ok.2.2.2.2.2.2.2.2
  subst hZ
  exact va_alen ok.1 ok.2.1 ok.2.2.2.2.2.1 hP q0 t0 he ht hv hd (kk ls H locs hl hP hD hS)
theorem mr_new {X : mx_C} {Z : mx_Z} {own : String} {cc : ByteArray} {nL : Nat} {rm : Room} {n : Nat × Nat} {pc : Nat} {lv : List (Nat × Value)} {st : List Value} {ws : va_W} (ok : mx_ok X Z own cc nL rm) {idx ci : Nat} {C : String} {T : u_T} {N : Nat} (hc : vwCl[ci]? = some (C, T, N)) (hin : ∀ w ∈ u_ws C T N, w ∈ mx_tbl) (ty : Nat → FieldType) (hty : ∀ k, k < N → parseFieldDescriptor (T k).2.2.1 = some (ty k)) (hcl : Cond.classLink own idx C ∈ mx_tbl) (hinst : Cond.instantiable C N ∈ mx_tbl) (hini : Cond.initialized C ∈ mx_tbl) (fs : List Value) (hfs : ∀ j, j < N → defaultValue (ty j) = vp_V fs j) (h1 : n.1 + 1 ≤ rm.cells) (h2 : n.2 + N ≤ rm.slots) (hd : decode cc pc = .ok (.new idx, 3))
    (kk : ∀ q : Nat, mx X (n.1 + 1, n.2 + N) (pc + 3) lv (.ref q :: st) (ws ++ [(q, .inr (ci, fs))])) : mx X n pc lv st ws := by
  obtain ⟨⟨p, l, e, R, s, m, args, below, meth, c⟩, D, tys, lo, Q⟩ := X
  intro ls H locs hl hP hD hS
  have hR := ok.2.2.2.2.2.2.2.1
  exact va_new ok.1 ok.2.1 ok.2.2.2.2.1 hin ty hty ok.2.2.2.1 (ok.2.2.2.2.1 _ hcl) (ok.2.2.2.2.1 _ hinst) (ok.2.2.2.2.1 _ hini) ok.2.2.2.2.2.1 hP hD hS (fun q h => Nat.le_trans ok.2.2.2.2.2.2.1 h) hc hfs (by rw [hR]; exact h1) (by rw [hR]; exact h2) hd (fun q H1 hP1 hD1 hS1 => kk q ls H1 locs hl hP1 hD1 hS1)
theorem mr_newa {X : mx_C} {Z : mx_Z} {own : String} {cc : ByteArray} {nL : Nat} {rm : Room} {n : Nat × Nat} {pc : Nat} {lv : List (Nat × Value)} {st : List Value} {ws : va_W} (ok : mx_ok X Z own cc nL rm) {x : Int32} (N : Nat) (t0 : Nat) {cA : ClassId} (ht : Z.2.2[t0]? = some (cA, .int)) (harr : Cond.arrayClass .int ∈ mx_tbl) (hx : ¬ x < 0) (hN : x.toNatClampNeg = N) (hb : N * 4 ≤ 536870912) (h1 : n.1 + 1 ≤ rm.cells) (h2 : n.2 + N ≤ rm.slots) {at_ : ArrayType} (hat : newarray.typeOf at_ = .int) (hd : decode cc pc = .ok (.newarray at_, 2))
    (kk : ∀ q : Nat, mx X (n.1 + 1, n.2 + N) (pc + 2) lv (.ref q :: st) (ws ++ [(q, .inl (cA, N, .inl (fun _ => 0)))])) : mx X n pc lv (.int x :: st) ws := by
  obtain ⟨⟨p, l, e, R, s, m, args, below, meth, c⟩, D, tys, lo, Q⟩ := X
  intro ls H locs hl hP hD hS
  have hR := ok.2.2.2.2.2.2.2.1
  have hZ := ok.2.2.2.2.2.2.2.2
  subst hZ
  refine va_newa (ty := .int) (N' := N) (a0 := (N, .inl (fun _ => 0))) ok.1 ok.2.1 (by rw [hat]; exact ok.2.2.2.2.1 _ harr) hat ok.2.2.2.2.2.1 hP hD hS (fun q h => Nat.le_trans ok.2.2.2.2.2.2.1 h) (fun cA => rfl) hx hN hb (by rw [hR]; exact h1) (by rw [hR]; exact h2) hd (fun q cB H1 hK1 hP1 hD1 hS1 => ?_)
  have e1 := (ok.2.2.2.2.2.1.2 t0 _ ht).2
  have e2 := (hK1.2 tys.length (cB, .int) (by simp)).2
  have e3 : cA = cB := Option.some.inj (Eq.trans (Eq.symm e1) e2)
  subst e3
  exact kk q ls H1 locs hl hP1 hD1 hS1
theorem mr_anewa {X : mx_C} {Z : mx_Z} {own : String} {cc : ByteArray} {nL : Nat} {rm : Room} {n : Nat × Nat} {pc : Nat} {lv : List (Nat × Value)} {st : List Value} {ws : va_W} (ok : mx_ok X Z own cc nL rm) {x : Int32} (N : Nat) {C : String} {idx : Nat} (t0 : Nat) {cA : ClassId} (ht : Z.2.2[t0]? = some (cA, .object C)) (hclk : Cond.classLink own idx C ∈ mx_tbl) (hover : Cond.arrayOver (.object C) ∈ mx_tbl) (hx : ¬ x < 0) (hN : x.toNatClampNeg = N) (hb : N * 4 ≤ 536870912) (h1 : n.1 + 1 ≤ rm.cells) (h2 : n.2 + N ≤ rm.slots) (hd : decode cc pc = .ok (.anewarray idx, 3))
    (kk : ∀ q : Nat, mx X (n.1 + 1, n.2 + N) (pc + 3) lv (.ref q :: st) (ws ++ [(q, .inl (cA, N, .inr (.inr (.inr (.inr (fun _ => none))))))])) : mx X n pc lv (.int x :: st) ws := by
  obtain ⟨⟨p, l, e, R, s, m, args, below, meth, c⟩, D, tys, lo, Q⟩ := X
  intro ls H locs hl hP hD hS
  have hR := ok.2.2.2.2.2.2.2.1
  have hZ := ok.2.2.2.2.2.2.2.2
  subst hZ
  refine va_newq (N' := N) ok.1 ok.2.1 ok.2.2.2.1 (ok.2.2.2.2.1 _ hclk) (va_AO.of (ok.2.2.2.2.1 _ hover)) ok.2.2.2.2.2.1 hP hD hS (fun q h => Nat.le_trans ok.2.2.2.2.2.2.1 h) hx hN hb (by rw [hR]; exact h1) (by rw [hR]; exact h2) hd (fun q cB H1 hK1 hP1 hD1 hS1 => ?_)
  have e1 := (ok.2.2.2.2.2.1.2 t0 _ ht).2
  have e2 := (hK1.2 tys.length (cB, .object C) (by simp)).2
  obtain ⟨_, _, _, _, _, e1⟩ := e1
  obtain ⟨_, _, _, _, _, e2⟩ := e2
  have e3 : cA = cB := Option.some.inj (Eq.trans (Eq.symm e1) e2)
  subst e3
  exact kk q ls H1 locs hl hP1 hD1 hS1
theorem mr_aast {X : mx_C} {Z : mx_Z} {own : String} {cc : ByteArray} {nL : Nat} {rm : Room} {n : Nat × Nat} {pc : Nat} {lv : List (Nat × Value)} {st : List Value} {ws : va_W} (ok : mx_ok X Z own cc nL rm) {a v : Nat} (q0 t0 qk ci : Nat) {cA : ClassId} {r : vw_C} {N : Nat} {vs : List Value} {f : Nat → Option Nat} (he : ws[q0]? = some (a, .inl (cA, N, .inr (.inr (.inr (.inr f)))))) (ht : Z.2.2[t0]? = some (cA, .object r.1)) (hv : ws[qk]? = some (v, .inr (ci, vs))) (hc : vwCl[ci]? = some r) {i : Int32} (hin : vp_in i N) (hd : decode cc pc = .ok (.aastore, 1)) (kk : mx X n (pc + 1) lv st (ws.set q0 (a, .inl (cA, N, .inr (.inr (.inr (.inr (va_up f i.toNatClampNeg (some v))))))))) : mx X n pc lv (.ref v :: .int i :: .ref a :: st) ws := by
  obtain ⟨⟨p, l, e, R, s, m, args, below, meth, c⟩, D, tys, lo, Q⟩ := X
  intro ls H locs hl hP hD hS
  have hZ := ok.2.2.2.2.2.2.2.2
  subst hZ
  exact va_astq ok.1 ok.2.1 ok.2.2.2.2.2.1 hP hD hS q0 t0 qk ci he ht hv hc hin hd (fun H1 locs1 hP1 hD1 hS1 => kk ls H1 locs1 hl hP1 hD1 hS1)
theorem mr_copy {X : mx_C} {Z : mx_Z} {own : String} {cc : ByteArray} {nL : Nat} {rm : Room} {n : Nat × Nat} {pc : Nat} {lv : List (Nat × Value)} {st : List Value} {ws : va_W} (ok : mx_ok X Z own cc nL rm) {idx : Nat} (hlk : Cond.methodLink own idx arraycopyName ∈ mx_tbl) (hnat : Cond.native arraycopyName ∈ mx_tbl) (hst : Cond.static arraycopyName ∈ mx_tbl) (hini : Cond.initialized "java/lang/System" ∈ mx_tbl) {a a0 : Nat} (q0 q1 t0 t1 : Nat) {c0 c1 : ClassId} {n0 n1 : Nat} {f g : Nat → Int32} (ha0 : ws[q0]? = some (a0, .inl (c0, n0, .inl f))) (ha1 : ws[q1]? = some (a, .inl (c1, n1, .inl g))) (ht0 : Z.2.2[t0]? = some (c0, .int)) (ht1 : Z.2.2[t1]? = some (c1, .int)) {sp dp k : Int32} (h1 : ¬ sp < 0) (h2 : ¬ dp < 0) (h3 : ¬ k < 0) (h4 : sp.toNatClampNeg + k.toNatClampNeg ≤ n0) (h5 : dp.toNatClampNeg + k.toNatClampNeg ≤ n1) (hf : 1 ≤ rm.frames) (hlo : (st.map fun v => v.category).sum + (nativeFrameWords "java/lang/System" "arraycopy" 5 + 11) ≤ rm.locals) (hd : decode cc pc = .ok (.invokestatic idx, 3))
    (kk : mx X n (pc + 3) lv st (ws.set q1 (a, .inl (c1, n1, .inl (va_cpy f g sp.toNatClampNeg dp.toNatClampNeg k.toNatClampNeg))))) : mx X n pc lv (.int k :: .int dp :: .ref a :: .int sp :: .ref a0 :: st) ws := by
  obtain ⟨⟨p, l, e, R, s, m, args, below, meth, c⟩, D, tys, lo, Q⟩ := X
  intro ls H locs hl hP hD hS
  have hR := ok.2.2.2.2.2.2.2.1
  have hZ := ok.2.2.2.2.2.2.2.2
  subst hZ
  have hw := ok.2.2.2.2.1
  exact va_copyi ok.1 ok.2.1 hl.1.1.symm ok.2.2.2.1 (hw _ hlk) (hw _ hnat) (hw _ hst) (hw _ hini) ok.2.2.2.2.2.1 hP hD hS q0 q1 t0 t1 ha0 ha1 ht0 ht1 rfl h1 h2 h3 h4 h5 (fun _ _ => rfl) (by rw [hR]; exact hf) (by rw [hR]; exact hlo) hd (fun H1 locs1 hP1 hD1 hS1 => kk ls H1 locs1 hl hP1 hD1 hS1)
theorem mr_max {X : mx_C} {Z : mx_Z} {own : String} {cc : ByteArray} {nL : Nat} {rm : Room} {n : Nat × Nat} {pc : Nat} {lv : List (Nat × Value)} {st : List Value} {ws : va_W} (ok : mx_ok X Z own cc nL rm) {idx : Nat} (hlk : Cond.methodLink own idx Lib.Math.max.name ∈ mx_tbl) (hst : Cond.static Lib.Math.max.name ∈ mx_tbl) (hini : Cond.initialized "java/lang/Math" ∈ mx_tbl) (hcd : Cond.code Lib.Math.max.name Lib.Math.max.code 2 (some .int) ∈ mx_tbl) (hf : 1 ≤ rm.frames) (hlo : (st.map fun v => v.category).sum + 13 ≤ rm.locals) (h1 : n.1 ≤ rm.cells) (h2 : n.2 ≤ rm.slots) {x y : Int32} (hd : decode cc pc = .ok (.invokestatic idx, 3)) (kk : mx X n (pc + 3) lv (.int (if x < y then y else x) :: st) ws) : mx X n pc lv (.int y :: .int x :: st) ws := by
  obtain ⟨⟨p, l, e, R, s, m, args, below, meth, c⟩, D, tys, lo, Q⟩ := X
  intro ls H locs hl hP hD hS
  have hR := ok.2.2.2.2.2.2.2.1
  have hw := ok.2.2.2.2.1
  exact va_mmax ok.1 ok.2.1 hl.1.1.symm ok.2.2.2.1 (hw _ hlk) (hw _ hst) (hw _ hini) (hw _ hcd) (by rw [hR]; exact hf) (by rw [hR]; exact hlo) (by rw [hR]; exact h1) (by rw [hR]; exact h2) hd (kk ls H locs hl hP hD hS)
theorem mr_min {X : mx_C} {Z : mx_Z} {own : String} {cc : ByteArray} {nL : Nat} {rm : Room} {n : Nat × Nat} {pc : Nat} {lv : List (Nat × Value)} {st : List Value} {ws : va_W} (ok : mx_ok X Z own cc nL rm) {idx : Nat} (hlk : Cond.methodLink own idx Lib.Math.min.name ∈ mx_tbl) (hst : Cond.static Lib.Math.min.name ∈ mx_tbl) (hini : Cond.initialized "java/lang/Math" ∈ mx_tbl) (hcd : Cond.code Lib.Math.min.name Lib.Math.min.code 2 (some .int) ∈ mx_tbl) (hf : 1 ≤ rm.frames) (hlo : (st.map fun v => v.category).sum + 13 ≤ rm.locals) (h1 : n.1 ≤ rm.cells) (h2 : n.2 ≤ rm.slots) {x y : Int32} (hd : decode cc pc = .ok (.invokestatic idx, 3)) (kk : mx X n (pc + 3) lv (.int (if y < x then y else x) :: st) ws) : mx X n pc lv (.int y :: .int x :: st) ws := by
  obtain ⟨⟨p, l, e, R, s, m, args, below, meth, c⟩, D, tys, lo, Q⟩ := X
  intro ls H locs hl hP hD hS
  have hR := ok.2.2.2.2.2.2.2.1
  have hw := ok.2.2.2.2.1
  exact va_mmin ok.1 ok.2.1 hl.1.1.symm ok.2.2.2.1 (hw _ hlk) (hw _ hst) (hw _ hini) (hw _ hcd) (by rw [hR]; exact hf) (by rw [hR]; exact hlo) (by rw [hR]; exact h1) (by rw [hR]; exact h2) hd (kk ls H locs hl hP hD hS)
theorem mr_objInit {X : mx_C} {Z : mx_Z} {own : String} {cc : ByteArray} {nL : Nat} {rm : Room} {n : Nat × Nat} {pc : Nat} {lv : List (Nat × Value)} {st : List Value} {ws : va_W} (ok : mx_ok X Z own cc nL rm) {idx : Nat} {a : Nat} (hlk : Cond.methodLink own idx objectInit ∈ mx_tbl) (hin : Cond.instanceMethod objectInit ∈ mx_tbl) (hcd : Cond.code objectInit ⟨#[0xb1]⟩ 1 none ∈ mx_tbl) (hf : 1 ≤ rm.frames) (hlo : 2 * 0 + (st.map fun v => v.category).sum + 12 ≤ rm.locals) (hd : decode cc pc = .ok (.invokespecial idx, 3)) (kk : mx X n (pc + 3) lv st ws) : mx X n pc lv (.ref a :: st) ws := by
  obtain ⟨⟨p, l, e, R, s, m, args, below, meth, c⟩, D, tys, lo, Q⟩ := X
  intro ls H locs hl hP hD hS
  have hR := ok.2.2.2.2.2.2.2.1
  have hw := ok.2.2.2.2.1
  exact W.objInit ok.1 ok.2.1 ok.2.2.2.1 (hw _ hlk) (hw _ hin) (hw _ hcd) rfl hl.1.1 rfl hd (by rw [hR]; exact hf) (by rw [hR]; exact hlo) (kk ls H locs hl hP hD hS)
def mx_fF (own : String) (idx ci k : Nat) (ty : FieldType) : Prop := ∃ (C : String) (T : u_T) (N : Nat) (t0 : Nat → FieldType), vwCl[ci]? = some (C, T, N) ∧ k < N ∧ Cond.fieldLink own idx (T k).1 (T k).2.1 (T k).2.2.1 ∈ mx_tbl ∧ (∀ w ∈ u_ws C T N, w ∈ mx_tbl) ∧ (∀ k, k < N → parseFieldDescriptor (T k).2.2.1 = some (t0 k)) ∧ (∀ a, a < N → ∀ b, b < N → a ≠ b → (T a).2.1 ≠ (T b).2.1) ∧ (T k).2.2.2 = true ∧ parseFieldDescriptor (T k).2.2.1 = some ty ∧ (T k).1 = own
def mx_nm (X : mx_C) (nm : String) : Prop := match X with
  | ((_, _, _, _, _, _, _, _, meth, _), _, _, _, _) => meth.name = nm
theorem mr_putF {X : mx_C} {Z : mx_Z} {own : String} {cc : ByteArray} {nL : Nat} {rm : Room} {n : Nat × Nat} {pc : Nat} {lv : List (Nat × Value)} {st : List Value} {ws : va_W} (ok : mx_ok X Z own cc nL rm) {idx ci k a : Nat} {ty : FieldType} (hnm : mx_nm X "<init>") (fl : mx_fF own idx ci k ty) (q0 : Nat) {fs : List Value} {v : Value} (he : ws[q0]? = some (a, .inr (ci, fs))) (hl0 : k < fs.length) (hn : narrow ty v = v) (hf : fits ty v = true) (hd : decode cc pc = .ok (.putfield idx, 3)) (kk : mx X n (pc + 3) lv st (ws.set q0 (a, .inr (ci, fs.set k v)))) : mx X n pc lv (v :: .ref a :: st) ws := by
  obtain ⟨⟨p, l, e, R, s, m, args, below, meth, c⟩, D, tys, lo, Q⟩ := X
  intro ls H locs hl hP hD hS
  obtain ⟨C, T, N, t0, hc, hk, hlk, hin, hty, hna, hfin, hde, hdc⟩ := fl
  exact va_putF ok.1 ok.2.1 ok.2.2.2.2.1 hin t0 hty hna ok.2.2.2.1 ok.2.2.2.2.2.1 hP hD hS q0 he hc k hk (ok.2.2.2.2.1 _ hlk) (fun _ h9 => h9) hfin hnm hdc hde hn hf hl0 hd (fun H1 locs1 hP1 hD1 hS1 => kk ls H1 locs1 hl hP1 hD1 hS1)
/-- the world of a state, the end of a method, a contract -/
def mx_wd (D : va_G) (tys : List (ClassId × FieldType)) (lo : Nat) (ws : va_W) (U : State) : Prop := lo ≤ U.heap.size ∧ va_P D vwCl ws U.heap ∧ va_D (fun q => lo ≤ q) ws ∧ va_K D vwCl tys U
def mx_qc (D : va_G) (tys : List (ClassId × FieldType)) (lo : Nat) (Qp : Option Value → va_W → Prop) : Array Value → State → Outcome → State → Prop := fun _ st o t => (∃ (v : Option Value) (ws' : va_W), o = .returned v ∧ Qp v ws' ∧ mx_wd D tys lo ws' t) ∧ va_F (fun q => lo ≤ q) st t
def mx_ct (Z : mx_Z) (y : MethodName) (b : ByteArray) (maxL : Nat) (ret : Option FieldType) (rm : Room) (av : List Value) (ws : va_W) (Qp : Option Value → va_W → Prop) : Prop :=
  ∀ lo : Nat, Met Z.1 y (Cond.code y b maxL ret :: mx_tbl) rm (va_Pc av (mx_wd Z.2.1 Z.2.2 lo ws)) (mx_qc Z.2.1 Z.2.2 lo Qp) rm.cells rm.slots (fun q => lo ≤ q)
def mx_end (X : mx_C) (ret : Option FieldType) (rm : Room) (Qp : Option Value → va_W → Prop) : Prop := match X with
  | ((_, _, _, _, s, _, args, below, meth, _), D, tys, lo, Q) => meth.sig.returnType = ret ∧ meth.locks = false ∧ Q = MQ below (mx_qc D tys lo Qp) args s rm.cells rm.slots (fun q => lo ≤ q)
theorem lv_args_mem : ∀ (av : List Value) (i : Nat) (q : Nat × Value), q ∈ lv_args i av → q.2 ∈ av
  | [], i, q, h => by simp [lv_args] at h
  | v :: vs, i, q, h => by
    unfold lv_args at h
    rcases List.mem_cons.mp h with h | h
    · rw [h]; exact List.mem_cons_self
    · exact List.mem_cons_of_mem _ (lv_args_mem vs _ q h)
theorem ct_of {Z : mx_Z} {y : MethodName} {b : ByteArray} {maxL : Nat} {ret : Option FieldType} {rm : Room} {av : List Value} {ws : va_W} {Qp : Option Value → va_W → Prop} (hy : plainName y.cls = true) (hlen : (lg_sl av).length ≤ maxL) (hcat : ∀ v ∈ av, v.category = 1)
    (body : ∀ X : mx_C, mx_ok X Z y.cls b maxL rm → mx_end X ret rm Qp → mx_nm X y.name → mx X (0, 0) 0 (lv_args 0 av) [] ws) : mx_ct Z y b maxL ret rm av ws Qp := by
  intro lo
  obtain ⟨l, D, tys⟩ := Z
  refine Met.ofW (cc := b) (maxL := maxL) (ret := ret) hy rfl ?_
  intro p e s m args below meth c s₁ B hml hv
  obtain ⟨rfl, hlo, hP, hD, hK⟩ := hv
  have hts := atoms_spec (ws := Cond.code y b maxL ret :: mx_tbl) B.pre
  have hown : s.vm.findClass y.cls = some m.cls := findClass_of_methodNamed B.named
  have hl := lv_entry av (n := maxL) hlen
  rw [lg_entry_eq]
  refine body ((p, l, e, rm, s, m, av.toArray, below, meth, c), D, tys, lo, MQ below (mx_qc D tys lo Qp) av.toArray s rm.cells rm.slots (fun q => lo ≤ q)) ⟨B.exec, B.bytes, hml, hown, fun w h => hts w (List.mem_cons_of_mem _ h), hK, hlo, rfl, rfl⟩ ⟨B.returns, B.notSynchronized, rfl⟩ (name_of_methodNamed B.named B.method).1 _ s.heap [] ?_ hP hD va_S.rf
  rw [hml]
  exact ⟨⟨hl.1, hl.2.1, fun q hq => hl.2.2 q (mem_of_nz _ _ hq)⟩, fun q hq => hcat _ (lv_args_mem _ _ _ (mem_of_nz _ _ hq))⟩
theorem mr_iret {X : mx_C} {Z : mx_Z} {own : String} {cc : ByteArray} {nL : Nat} {rm : Room} {n : Nat × Nat} {pc : Nat} {lv : List (Nat × Value)} {ws : va_W} {Qp : Option Value → va_W → Prop} {rm' : Room} {v : Int32} (ok : mx_ok X Z own cc nL rm) (en : mx_end X (some .int) rm' Qp) (h1 : n.1 ≤ rm'.cells) (h2 : n.2 ≤ rm'.slots) (hd : decode cc pc = .ok (.ireturn, 1)) (hq : Qp (some (.int v)) ws) : mx X n pc lv [.int v] ws := by
  obtain ⟨⟨p, l, e, R, s, m, args, below, meth, c⟩, D, tys, lo, Q⟩ := X
  intro ls H locs hl hP hD hS
  obtain ⟨hr, hlk, rfl⟩ := en
  refine W.widen h1 h2 ?_
  exact W.iret ok.1 ok.2.1 hr (fun t ht hW => ⟨⟨_, ws, rfl, hq, by rw [ht]; exact Nat.le_trans ok.2.2.2.2.2.2.1 hS.1, by rw [ht]; exact hP, hD, va_K.moved hW.alike ok.2.2.2.2.2.1⟩, hS.F ht⟩) hS.2.2 hd hlk
theorem mr_zret {X : mx_C} {Z : mx_Z} {own : String} {cc : ByteArray} {nL : Nat} {rm : Room} {n : Nat × Nat} {pc : Nat} {lv : List (Nat × Value)} {ws : va_W} {Qp : Option Value → va_W → Prop} {rm' : Room} {v : Int32} {ty : FieldType} (hnw : narrow ty (.int v) = .int v) (ok : mx_ok X Z own cc nL rm) (en : mx_end X (some ty) rm' Qp) (h1 : n.1 ≤ rm'.cells) (h2 : n.2 ≤ rm'.slots) (hd : decode cc pc = .ok (.ireturn, 1)) (hq : Qp (some (.int v)) ws) : mx X n pc lv [.int v] ws := by
  obtain ⟨⟨p, l, e, R, s, m, args, below, meth, c⟩, D, tys, lo, Q⟩ := X
  intro ls H locs hl hP hD hS
  obtain ⟨hr, hlk, rfl⟩ := en
  refine W.widen h1 h2 ?_
  exact W.zret ok.1 ok.2.1 hr hnw (fun t ht hW => ⟨⟨_, ws, rfl, hq, by rw [ht]; exact Nat.le_trans ok.2.2.2.2.2.2.1 hS.1, by rw [ht]; exact hP, hD, va_K.moved hW.alike ok.2.2.2.2.2.1⟩, hS.F ht⟩) hS.2.2 hd hlk
theorem mr_vret {X : mx_C} {Z : mx_Z} {own : String} {cc : ByteArray} {nL : Nat} {rm : Room} {n : Nat × Nat} {pc : Nat} {lv : List (Nat × Value)} {ws : va_W} {Qp : Option Value → va_W → Prop} {rm' : Room} (ok : mx_ok X Z own cc nL rm) (en : mx_end X none rm' Qp) (h1 : n.1 ≤ rm'.cells) (h2 : n.2 ≤ rm'.slots) (hd : decode cc pc = .ok (.return_, 1)) (hq : Qp none ws) : mx X n pc lv [] ws := by
  obtain ⟨⟨p, l, e, R, s, m, args, below, meth, c⟩, D, tys, lo, Q⟩ := X
  intro ls H locs hl hP hD hS
  obtain ⟨hr, hlk, rfl⟩ := en
  refine W.widen h1 h2 ?_
  exact W.vret ok.1 ok.2.1 hr (fun t ht hW => ⟨⟨_, ws, rfl, hq, by rw [ht]; exact Nat.le_trans ok.2.2.2.2.2.2.1 hS.1, by rw [ht]; exact hP, hD, va_K.moved hW.alike ok.2.2.2.2.2.1⟩, hS.F ht⟩) hS.2.2 hd hlk
theorem mr_aret {X : mx_C} {Z : mx_Z} {own : String} {cc : ByteArray} {nL : Nat} {rm : Room} {n : Nat × Nat} {pc : Nat} {lv : List (Nat × Value)} {ws : va_W} {Qp : Option Value → va_W → Prop} {rm' : Room} {C : String} {v : Value} (ok : mx_ok X Z own cc nL rm) (en : mx_end X (some (.object C)) rm' Qp) (h1 : n.1 ≤ rm'.cells) (h2 : n.2 ≤ rm'.slots) (hv : v = .null ∨ ∃ a, v = .ref a) (hd : decode cc pc = .ok (.areturn, 1)) (hq : Qp (some v) ws) : mx X n pc lv [v] ws := by
  obtain ⟨⟨p, l, e, R, s, m, args, below, meth, c⟩, D, tys, lo, Q⟩ := X
  intro ls H locs hl hP hD hS
  obtain ⟨hr, hlk, rfl⟩ := en
  refine W.widen h1 h2 ?_
  exact W.aret ok.1 ok.2.1 hr (Or.inl ⟨_, rfl⟩) hv (fun t ht hW => ⟨⟨_, ws, rfl, hq, by rw [ht]; exact Nat.le_trans ok.2.2.2.2.2.2.1 hS.1, by rw [ht]; exact hP, hD, va_K.moved hW.alike ok.2.2.2.2.2.1⟩, hS.F ht⟩) hS.2.2 hd hlk
theorem mx_blind {D : va_G} {tys : List (ClassId × FieldType)} {lo : Nat} {ws : va_W} {av : List Value} : FrameBlind (va_Pc av (mx_wd D tys lo ws)) := fun a U g mk q => by
  obtain ⟨q0, q1, qP, qD, qK⟩ := q
  exact ⟨q0, q1, qP, qD, va_K.moved (u := U) (U := U.calling g mk a) (Vm.Alike.refl U.vm) qK⟩
theorem mx_goodIn {ws : List Cond} (h : ∀ w ∈ ws, w ∈ mx_tbl) : GoodIn mx_tbl ws := fun w hw => ⟨h w hw, good_of_word (mx_good w (h w hw))⟩
theorem mx_after {p : Program} {l : Launch} {e : Env} {R : Room} {s : State} {m : MethodId} {args : Array Value} {below : List Frame} {meth : Method} {c : Code} {H : Heap} {locs : List Loc} {cells slots mc ms pc : Nat} {Q : State → Prop} {ls : Array Slot} {st0 rest : List Value} {D : va_G} {tys : List (ClassId × FieldType)} {lo : Nat} {Qp : Option Value → va_W → Prop} {a : Array Value}
    (hr : va_Run p l e R s m args below meth c H locs cells slots mc ms (F0 m pc ls st0) rest (mx_qc D tys lo Qp a) (fun q => lo ≤ q)) (hS : va_S (fun q => lo ≤ q) s.heap H locs)
    (kk : ∀ (v : Option Value) (ws' : va_W) (H1 : Heap) (locs1 : List Loc), Qp v ws' → va_P D vwCl ws' H1 → va_D (fun q => lo ≤ q) ws' → va_S (fun q => lo ≤ q) s.heap H1 locs1 → W p l e R s m args below meth c H1 locs1 (cells + mc) (slots + ms) Q (F0 m (pc + 3) ls (v.toList ++ rest))) : W p l e R s m args below meth c H locs cells slots Q (F0 m pc ls st0) := by
  intro T hT X
  obtain ⟨v, st₀, t, T', L, h0, X', hL, e1, e2, ⟨⟨v', ws', hv, hq, hlo, hP, hD, hK⟩, hz, hk⟩, stp⟩ := hr T hT X
  cases hv
  rw [h0] at hz hk
  obtain ⟨t2, a1, b1⟩ := kk v ws' T'.heap (locs ++ L) hq (by rw [e1]; exact hP) hD ⟨Nat.le_trans hS.1 (by rw [e1]; exact hz), fun q h1 h2 => by rw [e1, hk q (Nat.lt_of_lt_of_le h1 hS.1) h2]; exact hS.2.1 q h1 h2, fun q hq => by
      rcases List.mem_append.mp hq with h | h
      · exact hS.2.2 q h
      · exact hL q h⟩ T' rfl X'
  exact ⟨t2, stp t2 a1, b1⟩
/-- what a call by pool index idx needs of the tables -/
def mx_cB (own : String) (idx : Nat) (y : MethodName) (b : ByteArray) (maxL : Nat) (ret : Option FieldType) (k : Nat) : Prop := Cond.methodLink own idx y ∈ mx_tbl ∧ Cond.initialized y.cls ∈ mx_tbl ∧ Cond.code y b maxL ret ∈ mx_tbl ∧ (y.cls ≠ "java/lang/invoke/MethodHandle" ∧ y.cls ≠ "java/lang/invoke/VarHandle" ∧ (parseMethodDescriptor y.desc).map (fun d => d.parameters.length) = some k)
def mx_cV (y : MethodName) : Prop := Cond.instanceMethod y ∈ mx_tbl ∧ Cond.selects y.cls y y ∈ mx_tbl
theorem mx_callB {R : Room} {s : State} {args : Array Value} {own : String} {idx : Nat} {y : MethodName} {b : ByteArray} {maxL : Nat} {ret : Option FieldType} {k : Nat} {rm' : Room} (hw : ∀ w ∈ mx_tbl, w.before args s = true) (cb : mx_cB own idx y b maxL ret k) (hR : rm'.frames + 1 ≤ R.frames ∧ 8 + (maxL + 11) + rm'.locals ≤ R.locals) : CallB R s args own idx y b maxL ret (Cond.code y b maxL ret :: mx_tbl) rm' rm'.cells rm'.slots k :=
  callB_of k hw (mx_goodIn fun w h => by
    rcases List.mem_cons.mp h with h | h
    · rw [h]; exact cb.2.2.1
    · exact h) rfl rfl rfl (hw _ cb.2.1) (hw _ cb.1) cb.2.2.2 hR
theorem mr_callV {X : mx_C} {Z : mx_Z} {own : String} {cc : ByteArray} {nL : Nat} {rm : Room} {n : Nat × Nat} {pc : Nat} {lv : List (Nat × Value)} {st : List Value} {ws : va_W} (ok : mx_ok X Z own cc nL rm) {idx k : Nat} {y : MethodName} {b : ByteArray} {maxL : Nat} {ret : Option FieldType} {rm' : Room} {a : Nat} {As : List Value} {Qp : Option Value → va_W → Prop} (cb : mx_cB own idx y b maxL ret k) (cv : mx_cV y) (hC : mx_ct Z y b maxL ret rm' (.ref a :: As) ws Qp) (q0 ci : Nat) {r : vw_C} {fs : List Value} (he : ws[q0]? = some (a, .inr (ci, fs))) (hc : vwCl[ci]? = some r) (hy : r.1 = y.cls) (hk : As.length = k) (hst : (st.map fun v => v.category).sum ≤ 8) (hR : rm'.frames + 1 ≤ rm.frames ∧ 8 + (maxL + 11) + rm'.locals ≤ rm.locals) (h1 : n.1 + rm'.cells ≤ rm.cells) (h2 : n.2 + rm'.slots ≤ rm.slots) (hd : decode cc pc = .ok (.invokevirtual idx, 3)) {st0 : List Value} (hs0 : st0 = As.reverse ++ .ref a :: st)
    (kk : ∀ (v : Option Value) (ws' : va_W), Qp v ws' → mx X (n.1 + rm'.cells, n.2 + rm'.slots) (pc + 3) lv (v.toList ++ st) ws') : mx X n pc lv st0 ws := by
  obtain ⟨⟨p, l, e, R, s, m, args, below, meth, c⟩, D, tys, lo, Q⟩ := X
  intro ls H locs hl hP hD hS
  obtain ⟨hx, hb, hml, hown, hw, hK, hlo, rfl, rfl⟩ := ok
  subst hs0
  have hz := va_recv hK hP hc he
  rw [hy] at hz
  refine mx_after (va_runV (As := As) (rest := st) (C := y.cls) ⟨hx, hb, hml, hown, hw⟩ (hC lo) ⟨mx_callB hw cb hR, hw _ cv.1, hw _ cv.2⟩ ⟨mx_blind, hz, fun U hU hW => ⟨rfl, by rw [hU]; exact Nat.le_trans hlo hS.1, by rw [hU]; exact hP, hD, va_K.moved hW.alike hK⟩⟩ rfl hk (by rw [← hml]; exact hl.1.1) rfl (by show 2 * 0 + _ ≤ 8; omega) hd ⟨h1, h2⟩) hS (fun v ws' H1 locs1 hq hP1 hD1 hS1 => kk v ws' hq ls H1 locs1 hl hP1 hD1 hS1)
theorem mr_callS {X : mx_C} {Z : mx_Z} {own : String} {cc : ByteArray} {nL : Nat} {rm : Room} {n : Nat × Nat} {pc : Nat} {lv : List (Nat × Value)} {st : List Value} {ws : va_W} (ok : mx_ok X Z own cc nL rm) {idx k : Nat} {y : MethodName} {b : ByteArray} {maxL : Nat} {ret : Option FieldType} {rm' : Room} {As : List Value} {Qp : Option Value → va_W → Prop} (cb : mx_cB own idx y b maxL ret k) (cs : Cond.static y ∈ mx_tbl) (hC : mx_ct Z y b maxL ret rm' As ws Qp) (hk : As.length = k) (hst : (st.map fun v => v.category).sum ≤ 8) (hR : rm'.frames + 1 ≤ rm.frames ∧ 8 + (maxL + 11) + rm'.locals ≤ rm.locals) (h1 : n.1 + rm'.cells ≤ rm.cells) (h2 : n.2 + rm'.slots ≤ rm.slots) (hd : decode cc pc = .ok (.invokestatic idx, 3)) {st0 : List Value} (hs0 : st0 = As.reverse ++ st)
    (kk : ∀ (v : Option Value) (ws' : va_W), Qp v ws' → mx X (n.1 + rm'.cells, n.2 + rm'.slots) (pc + 3) lv (v.toList ++ st) ws') : mx X n pc lv st0 ws := by
  obtain ⟨⟨p, l, e, R, s, m, args, below, meth, c⟩, D, tys, lo, Q⟩ := X
  intro ls H locs hl hP hD hS
  obtain ⟨hx, hb, hml, hown, hw, hK, hlo, rfl, rfl⟩ := ok
  subst hs0
  refine mx_after (va_runS (As := As) (rest := st) ⟨hx, hb, hml, hown, hw⟩ (hC lo) ⟨mx_callB hw cb hR, hw _ cs⟩ ⟨mx_blind, fun U hU hW => ⟨rfl, by rw [hU]; exact Nat.le_trans hlo hS.1, by rw [hU]; exact hP, hD, va_K.moved hW.alike hK⟩⟩ rfl hk (by rw [← hml]; exact hl.1.1) rfl (by show 2 * 0 + _ ≤ 8; omega) hd ⟨h1, h2⟩) hS (fun v ws' H1 locs1 hq hP1 hD1 hS1 => kk v ws' hq ls H1 locs1 hl hP1 hD1 hS1)
theorem mr_callI {X : mx_C} {Z : mx_Z} {own : String} {cc : ByteArray} {nL : Nat} {rm : Room} {n : Nat × Nat} {pc : Nat} {lv : List (Nat × Value)} {st : List Value} {ws : va_W} (ok : mx_ok X Z own cc nL rm) {idx k : Nat} {y : MethodName} {b : ByteArray} {maxL : Nat} {rm' : Room} {a : Nat} {As : List Value} {Qp : Option Value → va_W → Prop} (cb : mx_cB own idx y b maxL none k) (ci : y.name = "<init>" ∧ Cond.instanceMethod y ∈ mx_tbl) (hC : mx_ct Z y b maxL none rm' (.ref a :: As) ws Qp) (hk : As.length = k) (hst : (st.map fun v => v.category).sum ≤ 8) (hR : rm'.frames + 1 ≤ rm.frames ∧ 8 + (maxL + 11) + rm'.locals ≤ rm.locals) (h1 : n.1 + rm'.cells ≤ rm.cells) (h2 : n.2 + rm'.slots ≤ rm.slots) (hd : decode cc pc = .ok (.invokespecial idx, 3)) {st0 : List Value} (hs0 : st0 = As.reverse ++ .ref a :: st)
    (kk : ∀ (v : Option Value) (ws' : va_W), Qp v ws' → mx X (n.1 + rm'.cells, n.2 + rm'.slots) (pc + 3) lv (v.toList ++ st) ws') : mx X n pc lv st0 ws := by
  obtain ⟨⟨p, l, e, R, s, m, args, below, meth, c⟩, D, tys, lo, Q⟩ := X
  intro ls H locs hl hP hD hS
  obtain ⟨hx, hb, hml, hown, hw, hK, hlo, rfl, rfl⟩ := ok
  subst hs0
  refine mx_after (va_runI (As := As) (rest := st) ⟨hx, hb, hml, hown, hw⟩ (hC lo) ⟨mx_callB hw cb hR, ci.1, hw _ ci.2⟩ ⟨mx_blind, fun U hU hW => ⟨rfl, by rw [hU]; exact Nat.le_trans hlo hS.1, by rw [hU]; exact hP, hD, va_K.moved hW.alike hK⟩⟩ rfl hk (by rw [← hml]; exact hl.1.1) rfl (by show 2 * 0 + _ ≤ 8; omega) hd ⟨h1, h2⟩) hS (fun v ws' H1 locs1 hq hP1 hD1 hS1 => kk v ws' hq ls H1 locs1 hl hP1 hD1 hS1)
theorem mr_zald {X : mx_C} {Z : mx_Z} {own : String} {cc : ByteArray} {nL : Nat} {rm : Room} {n : Nat × Nat} {pc : Nat} {lv : List (Nat × Value)} {st : List Value} {ws : va_W} (ok : mx_ok X Z own cc nL rm) {a : Nat} (q0 t0 : Nat) {cA : ClassId} {N : Nat} {f : Nat → Int32} (he : ws[q0]? = some (a, .inl (cA, N, .inl f))) (ht : Z.2.2[t0]? = some (cA, .boolean)) {i : Int32} (hin : vp_in i N) (hd : decode cc pc = .ok (.baload, 1)) (kk : mx X n (pc + 1) lv (.int (f i.toNatClampNeg) :: st) ws) : mx X n pc lv (.int i :: .ref a :: st) ws := by
  obtain ⟨⟨p, l, e, R, s, m, args, below, meth, c⟩, D, tys, lo, Q⟩ := X
  intro ls H locs hl hP hD hS
  have hZ := ok.2.2.2.2.2.2.2.2
  subst hZ
  exact va_zald ok.1 ok.2.1 ok.2.2.2.2.2.1 hP q0 t0 he ht hin hd (kk ls H locs hl hP hD hS)
theorem mr_zast {X : mx_C} {Z : mx_Z} {own : String} {cc : ByteArray} {nL : Nat} {rm : Room} {n : Nat × Nat} {pc : Nat} {lv : List (Nat × Value)} {st : List Value} {ws : va_W} (ok : mx_ok X Z own cc nL rm) {a : Nat} (q0 t0 : Nat) {cA : ClassId} {N : Nat} {f : Nat → Int32} (he : ws[q0]? = some (a, .inl (cA, N, .inl f))) (ht : Z.2.2[t0]? = some (cA, .boolean)) {i x : Int32} (hin : vp_in i N) (hd : decode cc pc = .ok (.bastore, 1)) (kk : mx X n (pc + 1) lv st (ws.set q0 (a, .inl (cA, N, .inl (upd f i.toNatClampNeg (vp_nar .boolean x)))))) : mx X n pc lv (.int x :: .int i :: .ref a :: st) ws := by
  obtain ⟨⟨p, l, e, R, s, m, args, below, meth, c⟩, D, tys, lo, Q⟩ := X
  intro ls H locs hl hP hD hS
  have hZ := ok.2.2.2.2.2.2.2.2
  subst hZ
  exact va_zast ok.1 ok.2.1 ok.2.2.2.2.2.1 hP hD hS q0 t0 he ht hin hd (fun H1 locs1 hP1 hD1 hS1 => kk ls H1 locs1 hl hP1 hD1 hS1)
theorem mr_ldcw {X : mx_C} {Z : mx_Z} {own : String} {cc : ByteArray} {nL : Nat} {rm : Room} {n : Nat × Nat} {pc : Nat} {lv : List (Nat × Value)} {st : List Value} {ws : va_W} (ok : mx_ok X Z own cc nL rm) {idx : Nat} (v : Int32) (hc : Cond.constant own idx v ∈ mx_tbl) (hd : decode cc pc = .ok (.ldc_w idx, 3)) (kk : mx X n (pc + 3) lv (.int v :: st) ws) : mx X n pc lv st ws := by
  obtain ⟨⟨p, l, e, R, s, m, args, below, meth, c⟩, D, tys, lo, Q⟩ := X
  intro ls H locs hl hP hD hS
  exact lv_ldcw ok.1 ok.2.1 ok.2.2.2.1 (ok.2.2.2.2.1 _ hc) hd (kk ls H locs hl hP hD hS)
