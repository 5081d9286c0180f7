/-! ===== bV: a walk over a world alone. The four judgements of the heap (va_P, va_D, va_S, the locals) are bundled; a method's world is its caller's whole world; a contract speaks of what comes back: a value, or the class of what was thrown ===== -/
-- the tables' words that stay true under warmer tables: one list for all methods
def bw_ok (w : Cond) : Bool := (w.onTables && w.keepsFace) || (match w with | .arrayClass _ => true | _ => false)
def bw : List Cond := lw_tbl.filter bw_ok
theorem bw_of {w : Cond} (h : w ∈ lw_tbl) (ho : bw_ok w = true) : w ∈ bw := List.mem_filter.mpr ⟨h, ho⟩
theorem bw_good {w : Cond} (h : bw_ok w = true) : (w.onTables = true ∧ w.keepsFace = true) ∨ ∃ ty, w = .arrayClass ty := by
  unfold bw_ok at h
  cases hk : (w.onTables && w.keepsFace) with
  | true => exact Or.inl (by simpa using hk)
  | false =>
    rw [hk, Bool.false_or] at h
    refine Or.inr ?_
    split at h
    · exact ⟨_, rfl⟩
    · cases h
theorem bw_warm {w : Cond} (h : w ∈ bw) {a a' : Array Value} {s U : State} (hW : s.WarmedH U.vm) (hb : w.before a s = true) : w.before a' U = true := by
  rcases bw_good (List.mem_filter.mp h).2 with ⟨h1, h2⟩ | h1
  · have h3 : w.before a (s.setVm U.vm) = true := Cond.before_shiftedFace (State.Shifted.of_warmed hW) w h2 hb
    rw [Cond.onTables_vm (A := a) (A' := a') (U := s) (U' := U) U.vm w h1, State.setVm_self] at h3
    exact h3
  · exact word_at hW (Or.inr h1) hb
-- locals by their numbers
def bl_get : List (Nat × Value) → Nat → Option Value
  | [], _ => none
  | q :: r, i => if q.1 = i then some q.2 else bl_get r i
theorem bl_mem : ∀ (lv : List (Nat × Value)) (i : Nat) (v : Value), bl_get lv i = some v → (i, v) ∈ lv := by
  intro lv
  induction lv with
  | nil => intro i v h; cases h
  | cons q r ih =>
    intro i v h
    unfold bl_get at h
    by_cases hq : q.1 = i
    · rw [if_pos hq] at h
      have h2 : q = (i, v) := by
        obtain ⟨a, b⟩ := q
        cases h
        cases hq
        rfl
      rw [h2]
      exact List.mem_cons_self
    · rw [if_neg hq] at h
      exact List.mem_cons_of_mem _ (ih i v h)
theorem bl_at {ls : Array Slot} {nL : Nat} {lv : List (Nat × Value)} {i : Nat} {v : Value} (hl : lv_has ls nL lv) (h : bl_get lv i = some v) : ls[i]? = some (.val v) := hl.2.2 (i, v) (bl_mem lv i v h)
def bl_set (lv : List (Nat × Value)) (i : Nat) (v : Value) : List (Nat × Value) := if (lv.any (fun q => q.1 == i)) = true then lv.map (fun q => if q.1 = i then (i, v) else q) else lv ++ [(i, v)]
theorem bl_set_mem {lv : List (Nat × Value)} {i : Nat} {v : Value} {q : Nat × Value} (h : q ∈ bl_set lv i v) : q = (i, v) ∨ (q ∈ lv ∧ q.1 ≠ i) := by
  unfold bl_set at h
  split at h
  · obtain ⟨z, hz, rfl⟩ := List.mem_map.mp h
    by_cases hq : z.1 = i
    · exact Or.inl (if_pos hq)
    · rw [if_neg hq]; exact Or.inr ⟨hz, hq⟩
  · rename_i hn
    rcases List.mem_append.mp h with h | h
    · by_cases hq : q.1 = i
      · exact absurd (List.any_eq_true.mpr ⟨q, h, by simpa using hq⟩) hn
      · exact Or.inr ⟨h, hq⟩
    · exact Or.inl (List.mem_singleton.mp h)
theorem bl_put {ls : Array Slot} {nL : Nat} {lv lv' : List (Nat × Value)} {i : Nat} {v : Value} (h : lv_has ls nL ((i, v) :: lv.filter (fun q => !(q.1 == i) && !(q.1 + 1 == i && q.2.category == 2)))) (hc : lv.all (fun q => q.2.category == 1) = true) (he : bl_set lv i v = lv') : lv_has ls nL lv' := by
  subst he
  refine ⟨h.1, h.2.1, fun q hq => ?_⟩
  rcases bl_set_mem hq with rfl | ⟨h1, h2⟩
  · exact h.2.2 _ List.mem_cons_self
  · refine h.2.2 q (List.mem_cons_of_mem _ (List.mem_filter.mpr ⟨h1, ?_⟩))
    have h3 : q.2.category = 1 := by simpa using List.all_eq_true.mp hc q h1
    simp [h2, h3]
-- what lies outside of every world: the statics that a Throwable's constructor reads, the String constants, words that are no words of bw
def bZ (C n d : String) (U : State) : Prop := (Cond.laysStatic C n d).before #[] U = true ∧ (Cond.isRef (.static C n d)).before #[] U = true
theorem bZ.go {C n d : String} {s U : State} (hW : s.vm.Alike U.vm) (hk : ∀ (a : Nat) (cell : Cell), s.heap[a]? = some cell → cell.vm.isStatics = true → U.heap[a]? = some cell) (h : bZ C n d s) : bZ C n d U := by
  obtain ⟨h1, h2⟩ := h
  obtain ⟨c, k, i, f, a, cell, hc, hi, hst, ha, hcell, hs, hcls, hlt, hty⟩ := Cond.laysStatic_spec h1
  obtain ⟨k', hi', he⟩ := State.fieldFound?_setVm hW hi
  have hi2 : U.fieldFound? C n d = some (c, k', i, f) := hi'
  have hcell' := hk a cell hcell hs
  refine ⟨Cond.laysStatic_of (by rw [hW.findClass]; exact hc) hi2 hst (by rw [he]; exact ha) hcell' hs hcls hlt (by rw [he]; exact hty), ?_⟩
  cases hv : (Term.static C n d).eval #[] s none [] s with
  | none => simp [Cond.before, Cond.holds, Cond.value, hv] at h2
  | some v =>
    obtain ⟨-, a', cell2, ha', hcell2, -, hsl⟩ := Term.static_spec hi hv
    cases ha.symm.trans ha'
    cases hcell.symm.trans hcell2
    have hv2 : (Term.static C n d).eval #[] U none [] U = some v := Term.static_eval hi2 hst (by rw [he]; exact ha) hcell' hs hsl
    simp only [Cond.before, Cond.holds, Cond.value, hv] at h2
    simp only [Cond.before, Cond.holds, Cond.value, hv2]
    exact h2
def bX (U : State) : Prop := bZ Bundle.tN "UNASSIGNED_STACK" Bundle.steD U ∧ bZ Bundle.tN "SUPPRESSED_SENTINEL" Bundle.listD U ∧ (∀ q ∈ bstrs, ∃ a, vk_R q.1 q.2.1 q.2.2 a U) ∧ (∀ q ∈ bnots, va_Nc q.1 q.2 U) ∧ (∀ q ∈ bnests, va_Nw (.methodLinkNest q.1 q.2.1 q.2.2.1 q.2.2.2) U)
theorem bX.same {u U : State} (hv : U.vm = u.vm) (hh : U.heap = u.heap) (h : bX u) : bX U := by
  have hal : u.vm.Alike U.vm := by rw [hv]; exact Vm.Alike.refl _
  have hk : ∀ (a : Nat) (cell : Cell), u.heap[a]? = some cell → cell.vm.isStatics = true → U.heap[a]? = some cell := fun a cell h1 _ => by rw [hh]; exact h1
  obtain ⟨h1, h2, h3, h4, h5⟩ := h
  exact ⟨h1.go hal hk, h2.go hal hk, fun q hq => (h3 q hq).imp fun a ha => vk_R.same hv ha, fun q hq => (h4 q hq).moved hal, fun q hq => va_Nw.same rfl hv.symm (h5 q hq)⟩
theorem bX.go {s U : State} (hW : s.WarmedH U.vm) (hk : ∀ (a : Nat) (cell : Cell), s.heap[a]? = some cell → cell.vm.isStatics = true → U.heap[a]? = some cell) (h : bX s) : bX U := by
  obtain ⟨h1, h2, h3, h4, h5⟩ := h
  exact ⟨h1.go hW.alike hk, h2.go hW.alike hk, fun q hq => (h3 q hq).imp fun a ha => vk_R.warm hW ha, fun q hq => (h4 q hq).moved hW.alike, fun q hq => va_Nw.warmM hW (h5 q hq)⟩
-- a walk's fixed things
abbrev bCtx := Program × Launch × Env × Room × State × MethodId × Array Value × List Frame × Method × Code × (Nat → Prop) × (State → Prop)
abbrev bTb := List (Nat × Nat × Nat × Nat)
def bV (D : va_G) (cl : List vw_C) (Γ : bCtx) (nL : Nat) (ws : va_W) (k n pc : Nat) (lv : List (Nat × Value)) (st : List Value) : Prop := match Γ with
  | (p, l, e, R, s, m, args, below, meth, c, A, Q) => ∀ (H : Heap) (locs : List Loc) (ls : Array Slot), va_P D cl ws H → va_D A ws → va_S A s.heap H locs → lv_has ls nL lv → W p l e R s m args below meth c H locs k n Q (F0 m pc ls st)
-- .. and an exception of the class E comes out of the instruction at pc
def bT (D : va_G) (cl : List vw_C) (Γ : bCtx) (nL : Nat) (ws : va_W) (k n pc : Nat) (lv : List (Nat × Value)) (E : String) : Prop := match Γ with
  | (p, l, e, R, s, m, args, below, meth, c, A, Q) => ∀ (H : Heap) (locs : List Loc) (ls : Array Slot) (st : List Value) (a : Addr) (ce : Cell), va_P D cl ws H → va_D A ws → va_S A s.heap H locs → lv_has ls nL lv → s.heap.size ≤ a → H[a]? = some ce → ce.vm.isStatics = false → s.vm.findClass E = some ce.cls →
    ∀ T : State, T.heap = H → Stand p l e R s m args below meth c T locs k n → ∃ t, Steps p.tables e below ((T.setTop (F0 m pc ls st)).pushFrame (.throwing a)) t ∧ Q t
def bG (D : va_G) (cl : List vw_C) (tys : List (ClassId × FieldType)) (Γ : bCtx) (own : String) (cc : ByteArray) (nL : Nat) (ret : Option FieldType) (nm : String) (tb : bTb) (rm : Room) : Prop := match Γ with
  | (p, l, e, R, s, m, args, below, meth, c, A, Q) => p.tables.exec = Jvm.exec ∧ c.code = cc ∧ c.maxLocals = nL ∧ s.vm.findClass own = some m.cls ∧ (∀ w ∈ bw, w.before args s = true) ∧ va_K D cl tys s ∧ (∀ q, s.heap.size ≤ q → A q) ∧ (∀ (q : Nat) (cell : Cell), A q → s.heap[q]? = some cell → cell.vm.isStatics = false) ∧ bX s ∧
    meth.locks = false ∧ meth.sig.returnType = ret ∧ meth.name = nm ∧ c.exceptionTable.toList = tableOf tb ∧ R = rm ∧ l.stackTraces = false
-- what a method gives back
abbrev bo := Option Value ⊕ String
def bo_is (r : bo) (o : Outcome) (t : State) (sz : Nat) : Prop := match r with
  | .inl v => o = .returned v
  | .inr E => ∃ (a : Addr) (ce : Cell), o = .threw a ∧ sz ≤ a ∧ t.heap[a]? = some ce ∧ ce.vm.isStatics = false ∧ t.vm.findClass E = some ce.cls
def bq (D : va_G) (cl : List vw_C) (ws0 : va_W) (sz : Nat) (post : bo → va_W → Prop) : Array Value → State → Outcome → State → Prop := fun _ st o t =>
  ∃ (r : bo) (ws1 : va_W), bo_is r o t sz ∧ post r ws1 ∧ va_P D cl ws1 t.heap ∧ va_D (va_A ws0 sz) ws1 ∧ va_F (va_A ws0 sz) st t
def bEnd (st : State) (o : Outcome) (t : State) (L : List Loc) (k n : Nat) : Prop := ((∃ v, o = .returned v) ∨ ∃ a, o = .threw a) ∧ st.WarmedH t.vm ∧ st.sameButNew ({ t with vm := st.vm } : State) L k n
def bMQ (below : List Frame) (Qc : Array Value → State → Outcome → State → Prop) (a : Array Value) (s : State) (mc ms : Nat) (free : Addr → Prop) : State → Prop := fun t =>
  ∃ o, t.status = .running ∧ Ended t below o ∧ Qc a s o t ∧ ∃ L, bEnd s o t L mc ms ∧ ∀ q ∈ L, free q.base
def bMet (l : Launch) (y : MethodName) (S : Spec) (Pc : Array Value → State → Prop) (Qc : Array Value → State → Outcome → State → Prop) (mc ms : Nat) (free : Addr → Prop) : Prop :=
  MetFree l y S Pc (fun _ _ _ _ _ => True) (fun a st o t => Qc a st o t ∧ ∃ L, bEnd st o t L mc ms ∧ ∀ q ∈ L, free q.base)
def bP (D : va_G) (cl : List vw_C) (tys : List (ClassId × FieldType)) (ws : va_W) (sz : Nat) (av : List Value) : Array Value → State → Prop := fun v U =>
  v = av.toArray ∧ U.heap.size = sz ∧ va_P D cl ws U.heap ∧ va_K D cl tys U ∧ va_D (fun _ => True) ws ∧ bX U
/-- THE CONTRACT of y: from any heap that holds the world ws, at the arguments av, within the room rm: 'post' of what comes back and of the world behind it -/
def bC (D : va_G) (cl : List vw_C) (tys : List (ClassId × FieldType)) (y : MethodName) (rm : Room) (ws : va_W) (av : List Value) (post : bo → va_W → Prop) : Prop :=
  ∀ l : Launch, l.stackTraces = false → ∀ sz : Nat, bMet l y (headSpec bw rm) (bP D cl tys ws sz av) (bq D cl ws sz post) rm.cells rm.slots (va_A ws sz)
theorem bP.blind {D : va_G} {cl : List vw_C} {tys : List (ClassId × FieldType)} {ws : va_W} {sz : Nat} {av : List Value} : FrameBlind (bP D cl tys ws sz av) := by
  intro a U g mk h
  obtain ⟨h1, h2, h3, h4, h5, h6⟩ := h
  exact ⟨h1, h2, h3, va_K.moved (u := U) (U := U.calling g mk a) (Vm.Alike.refl U.vm) h4, h5, bX.same (u := U) (U := U.calling g mk a) rfl rfl h6⟩
/-- Q and A are those of a method's contract -/
def bE (D : va_G) (cl : List vw_C) (Γ : bCtx) (ws0 : va_W) (post : bo → va_W → Prop) (rm : Room) : Prop := match Γ with
  | (_, _, _, _, s, _, args, below, _, _, A, Q) => A = va_A ws0 s.heap.size ∧ Q = bMQ below (bq D cl ws0 s.heap.size post) args s rm.cells rm.slots (va_A ws0 s.heap.size)
theorem bW_mono {p : Program} {l : Launch} {e : Env} {R : Room} {s : State} {m : MethodId} {args : Array Value} {below : List Frame} {meth : Method} {c : Code} {H : Heap} {locs : List Loc} {k n : Nat} {Q Q' : State → Prop} {g : JFrame} (h : ∀ t, Q t → Q' t) (hw : W p l e R s m args below meth c H locs k n Q g) : W p l e R s m args below meth c H locs k n Q' g := by
  intro T hT X
  obtain ⟨t, a, b⟩ := hw T hT X
  exact ⟨t, a, h t b⟩
theorem bMQ_of {below : List Frame} {Qc : Array Value → State → Outcome → State → Prop} {a : Array Value} {s : State} {mc ms : Nat} {free : Addr → Prop} {t : State} (h : MQ below Qc a s mc ms free t) : bMQ below Qc a s mc ms free t := by
  obtain ⟨o, h1, h2, h3, L, ⟨h4, h5, h6⟩, h7⟩ := h
  exact ⟨o, h1, h2, h3, L, ⟨Or.inl h4, h5, h6⟩, h7⟩
-- the code of a method, by its word
def bcode (y : MethodName) (b : ByteArray) (n : Nat) (r : Option FieldType) (tb : bTb) : Prop := (Cond.code y b n r ∈ bw ∧ tb = []) ∨ Cond.codeWith y b n r tb ∈ bw
theorem bcode.spec {y : MethodName} {b : ByteArray} {n : Nat} {r : Option FieldType} {tb : bTb} (h : bcode y b n r tb) {args : Array Value} {s : State} (hts : ∀ w ∈ bw, w.before args s = true) :
    ∃ mk meth c, s.methodNamed? y = some mk ∧ s.vm.method? mk = some meth ∧ meth.code = some c ∧ c.code = b ∧ c.maxLocals = n ∧ meth.sig.returnType = r ∧ meth.locks = false ∧ c.exceptionTable.toList = tableOf tb ∧ parseMethodDescriptor y.desc = some meth.sig := by
  rcases h with ⟨h, rfl⟩ | h
  · obtain ⟨mk, hn⟩ := Cond.code_named (hts _ h)
    obtain ⟨meth, c, h1, h2, h3, h4, h5, h6, h7, h8⟩ := Cond.code_spec hn (hts _ h)
    refine ⟨mk, meth, c, hn, h1, h2, h3, h4, h5, h6, ?_, h8⟩
    have h9 : c.exceptionTable = #[] := by simpa using h7
    rw [h9]; rfl
  · obtain ⟨mk, meth, c, hn, h1, h2, h3, h4, h7, h5, h6, h8⟩ := Cond.codeWith_spec (hts _ h)
    exact ⟨mk, meth, c, hn, h1, h2, h3, h4, h5, h6, by rw [← h7, table_eq], h8⟩
/-- a contract out of a walk of the body -/
theorem bC.of {D : va_G} {cl : List vw_C} {tys : List (ClassId × FieldType)} {y : MethodName} {b : ByteArray} {nL : Nat} {ret : Option FieldType} {tb : bTb} {rm : Room} {ws : va_W} {av : List Value} {post : bo → va_W → Prop}
    (hy : plainName y.cls = true) (hc : bcode y b nL ret tb) (hav : (lg_sl av).length ≤ nL)
    (body : ∀ Γ : bCtx, bG D cl tys Γ y.cls b nL ret y.name tb rm → bE D cl Γ ws post rm → bV D cl Γ nL ws 0 0 0 (lv_args 0 av) []) : bC D cl tys y rm ws av post := by
  intro l hl sz
  refine MetFree.of_bodyS (code := b) (maxLocals := nL) (ret := ret) hy ?_ ?_
  · intro args s m h hn
    obtain ⟨mk, meth, c, h0, h1, h2, h3, h4, h5, h6, -, -⟩ := hc.spec (atoms_spec (ws := bw) h)
    cases hn.symm.trans h0
    exact ⟨meth, c, h1, h2, h3, h4, h5, h6⟩
  · intro p e s m args below meth c s₁ B hml hP _
    obtain ⟨rfl, hsz, hPw, hK, hD0, hX⟩ := hP
    subst hsz
    have hts := atoms_spec (ws := bw) B.pre
    have hh0 : s₁.heap = s.heap := by rw [B.state]; rfl
    obtain ⟨mk, meth', c', q0, q1, q2, -, -, -, -, q7, -⟩ := hc.spec hts
    cases B.named.symm.trans q0
    cases B.method.symm.trans q1
    cases (Stand.of_body B).code.symm.trans q2
    have hst : ∀ (q : Nat) (cell : Cell), va_A ws s.heap.size q → s.heap[q]? = some cell → cell.vm.isStatics = false := by
      intro q cell hq hcell
      rcases hq with ⟨k, e, hk⟩ | hq
      · have h1 := hPw k _ hk
        cases e with
        | inl x =>
          have h2 : s.heap[q]? = some (vp_cell x.1 x.2) := h1
          cases hcell.symm.trans h2
          obtain ⟨cA, nn, f | f | f | f | f⟩ := x <;> rfl
        | inr o =>
          obtain ⟨r, -, cell', h2, -, h3, -⟩ := h1
          cases hcell.symm.trans h2
          rw [h3]; rfl
      · have := (Array.getElem?_eq_some_iff.mp hcell).1
        omega
    have hl2 := lv_entry av (n := nL) hav
    have K := body (p, l, e, rm, s, m, av.toArray, below, meth, c, va_A ws s.heap.size, bMQ below (bq D cl ws s.heap.size post) av.toArray s rm.cells rm.slots (va_A ws s.heap.size))
      ⟨B.exec, B.bytes, hml, findClass_of_methodNamed B.named, hts, hK, fun q h => Or.inr h, hst, hX, B.notSynchronized, B.returns, (name_of_methodNamed B.named B.method).1, q7, rfl, hl⟩ ⟨rfl, rfl⟩
    have K2 : W p l e rm s m av.toArray below meth c s.heap [] 0 0 (bMQ below (bq D cl ws s.heap.size post) av.toArray s rm.cells rm.slots (va_A ws s.heap.size)) (entryFrame m av.toArray nL) := by
      rw [lg_entry_eq]
      exact K s.heap [] _ hPw hD0.self va_S.rf hl2
    obtain ⟨t, a1, o, b1, b2, b3⟩ := K2 s₁ hh0 (Stand.of_body B)
    exact ⟨t, o, a1, b1, b2, b3⟩
