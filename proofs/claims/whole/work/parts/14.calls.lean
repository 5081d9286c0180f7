/-! ===== an exception meets a handler of the method itself; calls that return or throw; throw new ===== -/
section BTF
variable {Q : Handler → Pre} {E : CtlPost} {e : Env} {d : Bool} {acts : List Action} {S : State} {f : JFrame} {a : Addr}
theorem bt_one {x : ExceptionTableEntry} {t : List ExceptionTableEntry} {c : ClassId} {cell : Cell} (hx : covers x f.pc = true) (h0 : x.catchType ≠ 0) (hl : S.vm.ClassLinks e.platform f.method.cls x.catchType c) (hcell : S.heap[a]? = some cell) (hobj : ∀ k, cell.vm ≠ .statics k)
    (hk : ∃ k, S.vm.classes[cell.cls]? = some k) (hc : ∃ k, S.vm.classes[c]? = some k) :
    wp (findHandler.go f a (x :: t)) Q E e d acts S ↔ (if S.vm.assignable cell.cls c = true then Q (.found x.handlerPc) d acts (S.setVm (S.vm.noted f.method.cls x.catchType (.cls c))) else wp (findHandler.go f a t) Q E e d acts (S.setVm (S.vm.noted f.method.cls x.catchType (.cls c)))) := by
  simp only [covers] at hx
  obtain ⟨ha, ht⟩ := (resolveClass_links e.toSetting hl).op (op := VmOp.resolveClass f.method.cls x.catchType) rfl
  have hal : S.vm.Alike (S.vm.noted f.method.cls x.catchType (.cls c)) := (Vm.Alike.refl S.vm).noted _ _ _
  obtain ⟨k1, hk1⟩ := hk
  obtain ⟨k2, hk2⟩ := hc
  obtain ⟨k1', hk1', -⟩ := hal.2.2 _ _ hk1
  obtain ⟨k2', hk2', -⟩ := hal.2.2 _ _ hk2
  by_cases hf : S.vm.assignable cell.cls c = true
  · have hf' : (S.vm.noted f.method.cls x.catchType (.cls c)).assignable cell.cls c = true := by rw [hal.assignable]; exact hf
    rw [if_pos hf]
    simp [findHandler.go, hx, h0, ha, ht, hcell, hobj, hk1', hk2', hf', VmOp.dirties, VmOp.acts]
  · have hf' : (S.vm.noted f.method.cls x.catchType (.cls c)).assignable cell.cls c = false := by rw [hal.assignable]; simpa using hf
    rw [if_neg hf]
    simp [findHandler.go, hx, h0, ha, ht, hcell, hobj, hk1', hk2', hf', VmOp.dirties, VmOp.acts]
end BTF
/-- an entry that the search goes past -/
def bt_pass (pl : Platform) (s : State) (d : ClassId) (pc : Nat) (th : ClassId) (y : ExceptionTableEntry) : Prop := covers y pc = false ∨ (y.catchType ≠ 0 ∧ ∃ c, s.vm.ClassLinks pl d y.catchType c ∧ s.vm.assignable th c = false)
theorem bt_find {e : Env} {s : State} {f : JFrame} {a : Addr} {cell : Cell} (hobj : ∀ k, cell.vm ≠ .statics k) (hk0 : ∃ k, s.vm.classes[cell.cls]? = some k) {x : ExceptionTableEntry} {rest : List ExceptionTableEntry} {c : ClassId} (hx : covers x f.pc = true) (h0 : x.catchType ≠ 0)
    (hl : s.vm.ClassLinks e.platform f.method.cls x.catchType c) (hfit : s.vm.assignable cell.cls c = true) :
    ∀ (pre : List ExceptionTableEntry) (S : State), s.WarmedH S.vm → S.heap[a]? = some cell → (∀ y ∈ pre, bt_pass e.platform s f.method.cls f.pc cell.cls y) →
      ∃ vm', s.WarmedH vm' ∧ ∀ (Q : Handler → Pre) (E : CtlPost) (d : Bool) (acts : List Action), wp (findHandler.go f a (pre ++ x :: rest)) Q E e d acts S ↔ Q (.found x.handlerPc) d acts (S.setVm vm') := by
  obtain ⟨k0, hk0⟩ := hk0
  have link : ∀ {y : ExceptionTableEntry} {c : ClassId} (S : State), s.WarmedH S.vm → s.vm.ClassLinks e.platform f.method.cls y.catchType c → S.vm.ClassLinks e.platform f.method.cls y.catchType c ∧ (∃ k, S.vm.classes[cell.cls]? = some k) ∧ (∃ k, S.vm.classes[c]? = some k) ∧ s.WarmedH (S.vm.noted f.method.cls y.catchType (.cls c)) := by
    intro y c S hW hl
    obtain ⟨dk, _, _, kt, hd, _, _, _, _, hkt, _, hopen⟩ := hl.here
    obtain ⟨kt', hkt', -⟩ := hW.alike.2.2 _ _ hkt
    obtain ⟨k0', hk0', -⟩ := hW.alike.2.2 _ _ hk0
    exact ⟨hW.classLinks hl, ⟨k0', hk0'⟩, ⟨kt', hkt'⟩, hW.noted hd hopen (State.rightAt_cls hl)⟩
  intro pre
  induction pre with
  | nil =>
    intro S hW hcell _
    obtain ⟨g1, g2, g3, g4⟩ := link S hW hl
    refine ⟨_, g4, fun Q E d acts => ?_⟩
    rw [List.nil_append, bt_one hx h0 g1 hcell hobj g2 g3, if_pos (by rw [hW.alike.assignable]; exact hfit)]
  | cons y ys ih =>
    intro S hW hcell hpass
    have hr : ∀ z ∈ ys, bt_pass e.platform s f.method.cls f.pc cell.cls z := fun z hz => hpass z (List.mem_cons_of_mem _ hz)
    cases hcov : covers y f.pc with
    | false =>
      obtain ⟨vm', w1, w2⟩ := ih S hW hcell hr
      exact ⟨vm', w1, fun Q E d acts => by rw [List.cons_append, W.findHandler_go_skip hcov]; exact w2 Q E d acts⟩
    | true =>
      rcases hpass y List.mem_cons_self with h | ⟨hy0, c', hl', hno⟩
      · rw [h] at hcov; cases hcov
      · obtain ⟨g1, g2, g3, g4⟩ := link S hW hl'
        obtain ⟨vm', w1, w2⟩ := ih (S.setVm (S.vm.noted f.method.cls y.catchType (.cls c'))) g4 hcell hr
        exact ⟨vm', w1, fun Q E d acts => by
          rw [List.cons_append, bt_one hcov hy0 g1 hcell hobj g2 g3, if_neg (by rw [hW.alike.assignable, hno]; decide)]
          exact w2 Q E d acts⟩
theorem bt_caught {p : Program} {l : Launch} {e : Env} {R : Room} {s : State} {m : MethodId} {args : Array Value} {below : List Frame} {meth : Method} {c : Code} {T : State} {locs : List Loc} {k n : Nat} (X : Stand p l e R s m args below meth c T locs k n) (a : Addr) {g : JFrame} (hg : g.method = m) {pc : Nat} {vm' : Vm} (hW : s.WarmedH vm')
    (hfind : ∀ (Q : Handler → Pre) (E : CtlPost) (d : Bool) (acts : List Action), wp (findHandler g a) Q E e d acts ((T.setTop g).pushFrame (.throwing a)) ↔ Q (.found pc) d acts (((T.setTop g).pushFrame (.throwing a)).setVm vm')) :
    Stand p l e R s m args below meth c (T.setVm vm') locs k n ∧ ∀ target, Steps p.tables e below ((T.setVm vm').setTop { g with pc := pc, stack := [.ref a] }) target → Steps p.tables e below ((T.setTop g).pushFrame (.throwing a)) target := by
  refine ⟨X.noted hW, fun target hrest => ?_⟩
  have h : At T g.method c below := by rw [hg]; exact X.here
  obtain ⟨hgo, hw⟩ := h.throwing a
  refine Steps.head hgo hw ?_
  have key : (stepThrowing e ((T.setTop g).pushFrame (.throwing a)) a (.java g :: T.frames.tail)).Is ((((T.setTop g).pushFrame (.throwing a)).setVm vm').setFrames (.java { g with pc := pc, stack := [.ref a] } :: T.frames.tail)) [] := by
    simp only [stepThrowing, searchFrame, vmDo]
    generalize hr : Sem.go _ e false [] ((T.setTop g).pushFrame (.throwing a)) = res
    obtain ⟨as, rfl, ha⟩ := Sem.eq_ok_of hr (a := Handler.found pc) (s' := ((T.setTop g).pushFrame (.throwing a)).setVm vm') (acts' := []) (by simp [hfind _ _ _ _])
    exact ⟨rfl, ha⟩
  rw [stepThread_throwing (frames_entered h.top _), key.1]
  obtain ⟨g₀, hg0⟩ := Option.isSome_iff_exists.mp h.top
  obtain ⟨r, hr⟩ := State.topJava?_eq_some.mp hg0
  have hr' : (T.setVm vm').frames = .java g₀ :: r := hr
  rw [State.setTop_of_frames _ hr'] at hrest
  have e1 : (((T.setTop g).pushFrame (.throwing a)).setVm vm').setFrames (.java { g with pc := pc, stack := [.ref a] } :: T.frames.tail) = (T.setVm vm').setFrames (.java { g with pc := pc, stack := [.ref a] } :: r) := by
    have e2 : ∀ (u : State) (F F' : List Frame), ((u.setFrames F).setVm vm').setFrames F' = (u.setVm vm').setFrames F' := by
      intro u F F'
      show ((u.setVm vm').setFrames F).setFrames F' = _
      rw [State.setFrames_setFrames]
    rw [hr, List.tail_cons, State.pushFrame, e2, State.setTop_of_frames _ hr, e2]
  rw [e1]
  exact hrest
section BTR
variable {D : va_G} {cl : List vw_C} {tys : List (ClassId × FieldType)} {Γ : bCtx} {own : String} {cc : ByteArray} {nL : Nat} {ret : Option FieldType} {nm : String} {tb : bTb} {rm : Room} {ws ws' ws0 : va_W} {k n pc : Nat} {lv : List (Nat × Value)} {rest : List Value} {post : bo → va_W → Prop} {E : String}
/-- the exception leaves the method -/
theorem bT.leave (G : bG D cl tys Γ own cc nL ret nm tb rm) (E0 : bE D cl Γ ws0 post rm) (htb : (tableOf tb).all (fun x => !covers x pc) = true) (h1 : k ≤ rm.cells) (h2 : n ≤ rm.slots) (hp : post (.inr E) ws) : bT D cl Γ nL ws k n pc lv E := by
  obtain ⟨p, l, e, R, s, m, args, below, meth, c, A, Q⟩ := Γ
  obtain ⟨hx, hb, hml, hown, hts, hK, hA, hst, hX, hlk, hret, hnm, htab, hR, htr⟩ := G
  obtain ⟨rfl, rfl⟩ := E0
  intro H locs ls st a ce hP hD hS hl hnew hce hcs hcl T hT X
  have X := stand_widen X h1 h2
  obtain ⟨w1, w2, w3, w4, w5⟩ := X.leaveThrown a (g := F0 m pc ls st) rfl rfl rfl (outside_of_table htab htb) hlk
  refine ⟨_, w1, .threw a, w2, w3, ⟨.inr E, ws, ⟨a, ce, rfl, hnew, ?_, hcs, ?_⟩, hp, ?_, hD, ?_⟩, locs, ⟨Or.inr ⟨a, rfl⟩, w4, w5⟩, hS.2.2⟩
  · show T.heap[a]? = _
    rw [hT]; exact hce
  · show T.vm.findClass E = _
    rw [X.warmed.alike.findClass]; exact hcl
  · show va_P D cl ws T.heap
    rw [hT]; exact hP
  · exact hS.F (t := T.setFrames (.throwing a :: below)) hT
/-- .. or is caught: by the first entry that takes it, behind entries that name classes that it isn't of -/
theorem bT.catch (G : bG D cl tys Γ own cc nL ret nm tb rm) (pre : bTb) (x : Nat × Nat × Nat × Nat) (suf : bTb) (htb : tb = pre ++ x :: suf) (C : String) (hx : covers ⟨x.1, x.2.1, x.2.2.1, x.2.2.2⟩ pc = true) (h0 : x.2.2.2 ≠ 0) (hlink : Cond.classLink own x.2.2.2 C ∈ bw) (hcast : Cond.castable E C ∈ bw)
    (hpass : ∀ y ∈ pre, y.2.2.2 ≠ 0 ∧ ∃ C', Cond.classLink own y.2.2.2 C' ∈ bw ∧ (E, C') ∈ bnots)
    (kk : ∀ a : Nat, bV D cl Γ nL ws k n x.2.2.1 lv [.ref a]) : bT D cl Γ nL ws k n pc lv E := by
  obtain ⟨p, l, e, R, s, m, args, below, meth, c, A, Q⟩ := Γ
  obtain ⟨hx1, hb, hml, hown, hts, hK, hA, hst, hX, hlk, hret, hnm, htab, hR, htr⟩ := G
  intro H locs ls st a ce hP hD hS hl hnew hce hcs hcl T hT X
  have hpl : e.platform.magicAccessors = ({} : Platform).magicAccessors := by rw [X.admits.platform]
  obtain ⟨c', hc', hl1⟩ := Cond.classLink_spec hown (hts _ hlink) e.platform hpl
  obtain ⟨c3, c4, hc3, hc4, hasg⟩ := Cond.castable_spec (hts _ hcast)
  cases Option.some.inj (hcl.symm.trans hc3)
  cases Option.some.inj (hc'.symm.trans hc4)
  obtain ⟨dk, _, _, kt, _, _, _, _, _, hkt, _, _⟩ := hl1.here
  have hk0 : ∃ k, s.vm.classes[ce.cls]? = some k := Vm.classAt_of_assignable hasg ⟨kt, hkt⟩
  have hps : ∀ y ∈ tableOf pre, bt_pass e.platform s m.cls pc ce.cls y := by
    intro y hy
    obtain ⟨z, hz, rfl⟩ := List.mem_map.mp hy
    obtain ⟨hz0, C', hz1, hz2⟩ := hpass z hz
    obtain ⟨c5, hc5, hl5⟩ := Cond.classLink_spec hown (hts _ hz1) e.platform hpl
    obtain ⟨e1, e2, he1, he2, he3⟩ := hX.2.2.2.1 _ hz2
    cases Option.some.inj (hcl.symm.trans he1)
    cases Option.some.inj (hc5.symm.trans he2)
    exact Or.inr ⟨hz0, c5, hl5, he3⟩
  have htab2 : c.exceptionTable.toList = tableOf pre ++ ⟨x.1, x.2.1, x.2.2.1, x.2.2.2⟩ :: tableOf suf := by
    rw [htab, htb]; simp [tableOf]
  obtain ⟨vm', hW', hf⟩ := bt_find (e := e) (s := s) (f := F0 m pc ls st) (a := a) (cell := ce) (VmData.ne_statics_of hcs) hk0 (x := ⟨x.1, x.2.1, x.2.2.1, x.2.2.2⟩) (rest := tableOf suf) hx h0 hl1 hasg (tableOf pre) ((T.setTop (F0 m pc ls st)).pushFrame (.throwing a)) X.warmed (by show T.heap[a]? = _; rw [hT]; exact hce) hps
  obtain ⟨X', st'⟩ := bt_caught X a (g := F0 m pc ls st) rfl hW' (pc := x.2.2.1) (fun Q E d acts => by
    rw [W.findHandler_eq (meth := meth) (code := c) X.method' X.code, htab2]
    exact hf Q E d acts)
  obtain ⟨t, a1, b1⟩ := kk a H locs ls hP hD hS hl (T.setVm vm') hT X'
  exact ⟨t, st' t a1, b1⟩
end BTR
/-- A CALL: the callee comes back, or throws -/
theorem bcall {p : Program} {l : Launch} {e : Env} {R : Room} {s : State} {m : MethodId} {args : Array Value} {below : List Frame} {meth : Method} {c : Code} {T : State} {locs : List Loc} {k n : Nat} (X : Stand p l e R s m args below meth c T locs k n)
    {y : MethodName} {rm : Room} {Pc : Array Value → State → Prop} {Qc : Array Value → State → Outcome → State → Prop} {free : Addr → Prop} (hM : bMet l y (headSpec bw rm) Pc Qc rm.cells rm.slots free) (hbl : FrameBlind Pc) (hts : ∀ w ∈ bw, w.before args s = true)
    {mk : MethodId} {methY : Method} {cY : Code} {kY : Class} {maxL : Nat} (hn : T.methodNamed? y = some mk) (hmY : T.vm.method? mk = some methY) (hcY : methY.code = some cY) (hlY : cY.maxLocals = maxL) (hkY : T.vm.classes[mk.cls]? = some kY) (hiY : kY.init = .initialized)
    (hfr : rm.frames + 1 ≤ R.frames) (hlo : 8 + (maxL + 11) + rm.locals ≤ R.locals) (hc : k + rm.cells ≤ R.cells) (hs : n + rm.slots ≤ R.slots)
    {g : JFrame} (hg : g.method = m) (hsize : g.locals.size = c.maxLocals) {ig : Instr} {len : Nat} (hdg : decode c.code g.pc = .ok (ig, len)) (hW : 2 * g.monitorRoom + (g.stack.map fun v => v.category).sum ≤ 8) {a : Array Value} (hP : Pc a T) :
    ∃ (o : Outcome) (t T' : State) (L : List Loc), Stand p l e R s m args below meth c T' (locs ++ L) (k + rm.cells) (n + rm.slots) ∧ (∀ q ∈ L, free q.base) ∧ T'.heap = t.heap ∧ T'.vm = t.vm ∧ Qc a (T.calling g mk a) o t ∧
      ((∃ v, o = .returned v ∧ Steps p.tables e below (doInvoke e (T.setTop g) [] mk a).1 (T'.setTop { g with pc := g.pc + len, stack := v.toList ++ g.stack })) ∨
       (∃ x, o = .threw x ∧ Steps p.tables e below (doInvoke e (T.setTop g) [] mk a).1 ((T'.setTop g).pushFrame (.throwing x)))) := by
  have h : At T g.method c below := by rw [hg]; exact X.here
  have hpre : (headSpec bw rm).pre.before a T = true := atoms_intro fun w hw => bw_warm hw X.warmed (hts w hw)
  have happ : (headSpec bw rm).appliesLoose y e.platform (T.calling g mk a) = true :=
    Spec.appliesLoose_calling (g := g) h hdg hn hkY hiY (X.room_calling (g := g) (R' := rm) hsize hmY hcY hfr (by rw [hlY]; omega) hc hs) hpre
  obtain ⟨mid, hmid⟩ := h.above
  have hfr2 : (T.setTop g).frames = (.java g :: mid) ++ below := by rw [State.frames_setTop' g h.top, hmid]; rfl
  obtain ⟨o, s₂, hsteps, -, hend, hq, L, hfe, hL⟩ := Steps.callFree hM p X.admits X.cas X.clock (acts := []) hfr2 happ (hbl _ _ _ _ hP) trivial
  rw [State.frames_setTop' g h.top] at hend
  obtain ⟨hov, hW₂, e2, q2, q3, q4, q5, q6⟩ := id hfe
  have hW' : T.WarmedH s₂.vm := hW₂
  have e3 : s₂ = ({ (T.calling g mk a).setFrames s₂.frames with heap := s₂.heap, slotsUsed := s₂.slotsUsed } : State).setVm s₂.vm := by
    have h1 : s₂ = ({ s₂ with vm := (T.calling g mk a).vm } : State).setVm s₂.vm := rfl
    have e2' : ({ s₂ with vm := (T.calling g mk a).vm } : State) = { (T.calling g mk a).setFrames s₂.frames with heap := s₂.heap, slotsUsed := s₂.slotsUsed } := e2
    rw [e2'] at h1
    exact h1
  obtain ⟨g₀, hg0⟩ := Option.isSome_iff_exists.mp h.top
  obtain ⟨r, hr⟩ := State.topJava?_eq_some.mp hg0
  have hr' : (({ T with heap := s₂.heap, slotsUsed := s₂.slotsUsed } : State).setVm s₂.vm).frames = .java g₀ :: r := hr
  have hsame : T.sameButNew ({ T with heap := s₂.heap, slotsUsed := s₂.slotsUsed } : State) L rm.cells rm.slots := by
    refine ⟨?_, q2, q3, q4, q5, q6⟩
    obtain ⟨t, ht, -⟩ := State.frames_cons hr
    show ({ T with heap := s₂.heap, slotsUsed := s₂.slotsUsed } : State) = { T.setFrames T.frames with heap := s₂.heap, slotsUsed := s₂.slotsUsed }
    rw [State.setFrames_self ht]
  have hX' : Stand p l e R s m args below meth c (({ T with heap := s₂.heap, slotsUsed := s₂.slotsUsed } : State).setVm s₂.vm) (locs ++ L) (k + rm.cells) (n + rm.slots) :=
    ⟨X.admits, X.cas, X.clock, X.frames, X.room, X.hears, X.method, X.code, (X.here.setHeapUsed s₂.heap s₂.slotsUsed).setVm hW'.alike, X.tail, State.WarmedH.trans X.warmed hW', X.limits, X.bytes, X.same.trans (hsame.setVm s.vm)⟩
  refine ⟨o, s₂, _, L, hX', hL, rfl, rfl, hq, ?_⟩
  rcases hov with ⟨v, rfl⟩ | ⟨x, rfl⟩
  · refine Or.inl ⟨v, rfl, ?_⟩
    obtain ⟨c₂, i₂, len₂, hc₂, hd₂, hf₂⟩ := hend
    have hcc : c₂ = c := by
      have h1 : s₂.code? g.method = T.code? g.method := by rw [State.code?_eq, State.code?_eq, hW'.alike.method?]
      exact Option.some.inj (hc₂.symm.trans (h1.trans h.code))
    subst hcc
    have hlen : len₂ = len := by rw [hdg] at hd₂; cases hd₂; rfl
    subst hlen
    have hs₂ : s₂ = (({ T with heap := s₂.heap, slotsUsed := s₂.slotsUsed } : State).setVm s₂.vm).setTop { g with pc := g.pc + len₂, stack := v.toList ++ g.stack } := by
      refine e3.trans ?_
      rw [hf₂, State.calling_eq h.top, State.setFrames_setFrames, State.setTop_of_frames _ hr', hr]
      rfl
    rw [← hs₂]
    exact hsteps
  · refine Or.inr ⟨x, rfl, ?_⟩
    have hf₂ : s₂.frames = .throwing x :: .java g :: T.frames.tail := hend
    have hs₂ : s₂ = ((({ T with heap := s₂.heap, slotsUsed := s₂.slotsUsed } : State).setVm s₂.vm).setTop g).pushFrame (.throwing x) := by
      refine e3.trans ?_
      rw [hf₂, State.calling_eq h.top, State.setFrames_setFrames, State.pushFrame, State.frames_setTop _ hr', State.setTop_of_frames _ hr', State.setFrames_setFrames, hr]
      rfl
    rw [← hs₂]
    exact hsteps
/-- what the rows of calls have in common: the callee's contract, met at the caller's world -/
theorem bcallW {D : va_G} {cl : List vw_C} {tys : List (ClassId × FieldType)} {p : Program} {l : Launch} {e : Env} {R : Room} {s : State} {m : MethodId} {args : Array Value} {below : List Frame} {meth : Method} {c : Code} {A : Nat → Prop} {Q : State → Prop} {own : String} {cc : ByteArray} {nL : Nat} {ret : Option FieldType} {nm : String} {tb : bTb}
    (G : bG D cl tys (p, l, e, R, s, m, args, below, meth, c, A, Q) own cc nL ret nm tb R) {y : MethodName} {b' : ByteArray} {n' : Nat} {r' : Option FieldType} {tb' : bTb} (hy : bcode y b' n' r' tb') (hini : Cond.initialized y.cls ∈ bw) {rm : Room} {ws : va_W} {av : List Value} {post : bo → va_W → Prop} (hM : bC D cl tys y rm ws av post)
    (hR : rm.frames + 1 ≤ R.frames ∧ 8 + (n' + 11) + rm.locals ≤ R.locals) {k n pc : Nat} (hcs : k + rm.cells ≤ R.cells ∧ n + rm.slots ≤ R.slots) {lv : List (Nat × Value)} {rest : List Value} (hsum : (rest.map fun v => v.category).sum ≤ 8) {ig : Instr} (hd : decode cc pc = .ok (ig, 3))
    (kr : ∀ (v : Option Value) (ws' : va_W), post (.inl v) ws' → bV D cl (p, l, e, R, s, m, args, below, meth, c, A, Q) nL ws' (k + rm.cells) (n + rm.slots) (pc + 3) lv (v.toList ++ rest))
    (kt : ∀ (E : String) (ws' : va_W), post (.inr E) ws' → bT D cl (p, l, e, R, s, m, args, below, meth, c, A, Q) nL ws' (k + rm.cells) (n + rm.slots) pc lv E)
    {H : Heap} {locs : List Loc} {ls : Array Slot} (hP : va_P D cl ws H) (hDw : va_D A ws) (hS : va_S A s.heap H locs) (hl : lv_has ls nL lv) {T : State} (hT : T.heap = H) (X : Stand p l e R s m args below meth c T locs k n) {mk : MethodId} (hmk : s.methodNamed? y = some mk) :
    ∃ t, Steps p.tables e below (doInvoke e (T.setTop (F0 m pc ls rest)) [] mk av.toArray).1 t ∧ Q t := by
  obtain ⟨hx, hb, hml, hown, hts, hK, hA, hst, hX, hlk, hret, hnm, htab, -, htr⟩ := G
  obtain ⟨mk', methY, cY, q0, q1, q2, -, q4, -, -, -, -⟩ := hy.spec hts
  cases hmk.symm.trans q0
  obtain ⟨kY, hkY, -⟩ := className_of_methodNamed hmk
  have hiY : kY.init = .initialized := Cond.initialized_spec (findClass_of_methodNamed hmk) hkY (hts _ hini)
  obtain ⟨kY', hkY', heY⟩ := X.warmed.alike.2.2 _ _ hkY
  have hfree : ∀ q, va_A ws H.size q → A q := by
    intro q hq
    rcases hq with ⟨j, e1, hj⟩ | hq
    · exact hDw.2 j _ hj
    · exact hA q (Nat.le_trans hS.1 hq)
  have hstat : ∀ (a : Nat) (cell : Cell), s.heap[a]? = some cell → cell.vm.isStatics = true → T.heap[a]? = some cell := by
    intro a cell h1 h2
    have h3 : ¬ A a := fun h => by rw [hst a cell h h1] at h2; cases h2
    rw [hT, hS.2.1 a (Array.getElem?_eq_some_iff.mp h1).1 h3]
    exact h1
  have hPc : bP D cl tys ws H.size av av.toArray T := ⟨rfl, by rw [hT], by rw [hT]; exact hP, va_K.moved X.warmed.alike hK, hDw.weaken (fun _ _ _ _ => trivial), bX.go X.warmed hstat hX⟩
  obtain ⟨o, t, T', L, X', hL, e1, e2, ⟨r, ws1, ho, hpost, hP1, hD1, hF1⟩, hcase⟩ := bcall X (hM l htr H.size) bP.blind hts (X.named hmk) (by rw [X.warmed.alike.method?]; exact q1) q2 q4 hkY' (by rw [heY]; exact hiY) hR.1 hR.2 hcs.1 hcs.2
    (g := F0 m pc ls rest) rfl (hl.1.trans hml.symm) (by rw [hb]; exact hd) (lv_room hsum) hPc
  have hT1 : (T.calling (F0 m pc ls rest) mk av.toArray).heap = H := hT
  have hS1 : va_S A s.heap T'.heap (locs ++ L) := by
    refine ⟨Nat.le_trans hS.1 (by rw [e1]; exact hT1 ▸ hF1.1), fun q h1 h2 => ?_, fun q hq => ?_⟩
    · have h3 : q < H.size := Nat.lt_of_lt_of_le h1 hS.1
      rw [e1, hF1.2 q (by rw [hT1]; exact h3) (fun z => h2 (hfree q z)), hT1]
      exact hS.2.1 q h1 h2
    · rcases List.mem_append.mp hq with h | h
      · exact hS.2.2 q h
      · exact hfree _ (hL q h)
  have hP2 : va_P D cl ws1 T'.heap := by rw [e1]; exact hP1
  have hD2 : va_D A ws1 := hD1.weaken (fun _ q _ h => hfree q.1 h)
  rcases hcase with ⟨v, rfl, hgo⟩ | ⟨x, rfl, hgo⟩
  · cases r with
    | inl v' =>
      cases ho
      obtain ⟨t2, a1, b1⟩ := kr v ws1 hpost T'.heap (locs ++ L) ls hP2 hD2 hS1 hl T' rfl X'
      exact ⟨t2, hgo.trans a1, b1⟩
    | inr E => obtain ⟨a, ce, h1, -⟩ := ho; cases h1
  · cases r with
    | inl v' => cases ho
    | inr E =>
      obtain ⟨a, ce, h1, h2, h3, h4, h5⟩ := ho
      cases h1
      obtain ⟨t2, a1, b1⟩ := kt E ws1 hpost T'.heap (locs ++ L) ls rest x ce hP2 hD2 hS1 hl (Nat.le_trans hS.1 h2) (by rw [e1]; exact h3) h4 (by rw [← e2, X'.warmed.alike.findClass] at h5; exact h5) T' rfl X'
      exact ⟨t2, hgo.trans a1, b1⟩
/-- a walk seen from a start that has the heap as it is now -/
theorem bre {p : Program} {l : Launch} {e : Env} {R : Room} {s : State} {m : MethodId} {args : Array Value} {below : List Frame} {meth : Method} {c : Code} {T : State} {locs : List Loc} {k n : Nat} (X : Stand p l e R s m args below meth c T locs k n) (hk : k ≤ R.cells) (hn : n ≤ R.slots) :
    Stand p l e { R with cells := R.cells - k, slots := R.slots - n } ({ s with heap := T.heap, slotsUsed := T.slotsUsed } : State) m args below meth c T [] 0 0 := by
  have h1 := X.same.1
  refine ⟨X.admits, X.cas, X.clock, X.frames, ?_, X.hears, X.method, X.code, X.here, X.tail, X.warmed, X.limits, X.bytes, ?_⟩
  · have r0 := X.room
    have b := X.book
    have hs := X.heapSize
    have hu := X.used
    simp only [State.hasRoom, Bool.and_eq_true, decide_eq_true_eq] at r0 ⊢
    refine ⟨⟨⟨⟨r0.1.1.1.1, r0.1.1.1.2⟩, ?_⟩, ?_⟩, b⟩
    · show T.heap.size + (R.cells - k) ≤ _
      have := r0.1.1.2
      omega
    · show T.slotsUsed + (R.slots - n) ≤ _
      have := r0.1.2
      omega
  · refine ⟨h1, Nat.le_refl _, Nat.le_refl _, ?_, ?_, ?_⟩
    · show T.slotsUsed = T.slotsUsed + ((T.heap.toList.drop T.heap.size).map (·.slots.size)).sum
      rw [← Array.length_toList, List.drop_length]
      rfl
    · show ((T.heap.toList.drop T.heap.size).map (·.slots.size)).sum ≤ 0
      rw [← Array.length_toList, List.drop_length]
      exact Nat.le_refl _
    · intro a c hc
      exact ⟨c, hc, rfl, rfl, fun i _ => rfl⟩
section BVC
variable {D : va_G} {cl : List vw_C} {tys : List (ClassId × FieldType)} {Γ : bCtx} {own : String} {cc : ByteArray} {nL : Nat} {ret : Option FieldType} {nm : String} {tb : bTb} {rm : Room} {ws ws0 : va_W} {k n pc : Nat} {lv : List (Nat × Value)} {rest st : List Value}
/-- what is known of a method: its code; its class is initialised; how many parameters -/
def bMd (y : MethodName) (b : ByteArray) (nl : Nat) (r : Option FieldType) (tb : bTb) (np : Nat) : Prop := bcode y b nl r tb ∧ Cond.initialized y.cls ∈ bw ∧ (y.cls ≠ "java/lang/invoke/MethodHandle" ∧ y.cls ≠ "java/lang/invoke/VarHandle") ∧ (parseMethodDescriptor y.desc).map (fun d => d.parameters.length) = some np
theorem bMd.len {y : MethodName} {b : ByteArray} {nl : Nat} {r : Option FieldType} {tb : bTb} {np : Nat} (h : bMd y b nl r tb np) {sig : MethodDescriptor} (hs : parseMethodDescriptor y.desc = some sig) : np = sig.parameters.length := by
  have h2 := h.2.2.2
  rw [hs] at h2
  exact (Option.some.inj h2).symm
theorem bV.callV (G : bG D cl tys Γ own cc nL ret nm tb rm) {y : MethodName} {b' : ByteArray} {n' np : Nat} {r' : Option FieldType} {tb' : bTb} (hy : bMd y b' n' r' tb' np) (hw2 : Cond.instanceMethod y ∈ bw) (hw3 : Cond.selects y.cls y y ∈ bw) {idx : Nat} (hw : Cond.methodLink own idx y ∈ bw)
    {rm' : Room} {a : Nat} {As : List Value} {post : bo → va_W → Prop} (hM : bC D cl tys y rm' ws (.ref a :: As) post) (q0 : Nat) {ci : Nat} {fs : List Value} {q : vw_C} (he : ws[q0]? = some (a, .inr (ci, fs))) (hc : cl[ci]? = some q) (hq : q.1 = y.cls) (hnp : As.length = np) (hst0 : st = As.reverse ++ .ref a :: rest)
    (hR : rm'.frames + 1 ≤ rm.frames ∧ 8 + (n' + 11) + rm'.locals ≤ rm.locals) (hcs : k + rm'.cells ≤ rm.cells ∧ n + rm'.slots ≤ rm.slots) (hsum : (rest.map fun v => v.category).sum ≤ 8) (hd : decode cc pc = .ok (.invokevirtual idx, 3))
    (kr : ∀ (v : Option Value) (ws' : va_W), post (.inl v) ws' → bV D cl Γ nL ws' (k + rm'.cells) (n + rm'.slots) (pc + 3) lv (v.toList ++ rest))
    (kt : ∀ (E : String) (ws' : va_W), post (.inr E) ws' → bT D cl Γ nL ws' (k + rm'.cells) (n + rm'.slots) pc lv E) : bV D cl Γ nL ws k n pc lv st := by
  obtain ⟨p, l, e, R, s, m, args, below, meth, c, A, Q⟩ := Γ
  have G' := id G
  obtain ⟨hx, hb, hml, hown, hts, hK, hA, hst, hX, hlk, hret, hnm, htab, hR0, htr⟩ := G
  subst hst0; subst hR0
  intro H locs ls hP hD hS hl T hT X
  obtain ⟨mk, methM, hnamed, hmethM, hstM, habM⟩ := Cond.instanceMethod_spec (hts _ hw2)
  obtain ⟨mk', meth', c', q0', q1', q2', -, -, -, -, -, hsig⟩ := hy.1.spec hts
  cases hnamed.symm.trans q0'
  cases hmethM.symm.trans q1'
  obtain ⟨cellB, hcB, hoB, hclB⟩ := va_recv hK hP hc he
  obtain ⟨c2, r2, m2, e1, e2, e3, e4, kP, hkP, hkPi⟩ := Cond.selects_spec (hts _ hw3)
  rw [hq] at hclB
  cases hclB.symm.trans e1
  cases (State.methodFound?_of_named hnamed hy.2.2.1).symm.trans e2
  cases hnamed.symm.trans e3
  have hselP : selectMethod e.platform s.vm cellB.cls mk = .method mk := by rw [Launch.admits_selectMethod X.admits]; exact e4
  obtain ⟨vm₁, X₁, hstep₁⟩ := X.invokevirtual hx hown (hts _ hw) hnamed hmethM hstM hkP hkPi hy.2.2.1 (a := a) (cell := cellB) (by rw [hT]; exact hcB) (fun z h => by rw [h] at hoB; cases hoB) hselP hmethM habM hkP hkPi (g := F0 m pc ls (As.reverse ++ .ref a :: rest)) rfl (argsL := As) (rest := rest) (hnp.trans (hy.len hsig)) rfl (by rw [hb]; exact hd)
  obtain ⟨t, a1, b1⟩ := bcallW G' hy.1 hy.2.1 hM hR hcs hsum hd kr kt hP hD hS hl (T := T.setVm vm₁) hT X₁ hnamed
  exact ⟨t, hstep₁ _ (fun acts => by rw [doInvoke_state]; exact a1), b1⟩
theorem bV.callS (G : bG D cl tys Γ own cc nL ret nm tb rm) {y : MethodName} {b' : ByteArray} {n' np : Nat} {r' : Option FieldType} {tb' : bTb} (hy : bMd y b' n' r' tb' np) (hw2 : Cond.static y ∈ bw) {idx : Nat} (hw : Cond.methodLink own idx y ∈ bw)
    {rm' : Room} {As : List Value} {post : bo → va_W → Prop} (hM : bC D cl tys y rm' ws As post) (hnp : As.length = np) (hst0 : st = As.reverse ++ rest)
    (hR : rm'.frames + 1 ≤ rm.frames ∧ 8 + (n' + 11) + rm'.locals ≤ rm.locals) (hcs : k + rm'.cells ≤ rm.cells ∧ n + rm'.slots ≤ rm.slots) (hsum : (rest.map fun v => v.category).sum ≤ 8) (hd : decode cc pc = .ok (.invokestatic idx, 3))
    (kr : ∀ (v : Option Value) (ws' : va_W), post (.inl v) ws' → bV D cl Γ nL ws' (k + rm'.cells) (n + rm'.slots) (pc + 3) lv (v.toList ++ rest))
    (kt : ∀ (E : String) (ws' : va_W), post (.inr E) ws' → bT D cl Γ nL ws' (k + rm'.cells) (n + rm'.slots) pc lv E) : bV D cl Γ nL ws k n pc lv st := by
  obtain ⟨p, l, e, R, s, m, args, below, meth, c, A, Q⟩ := Γ
  have G' := id G
  obtain ⟨hx, hb, hml, hown, hts, hK, hA, hst, hX, hlk, hret, hnm, htab, hR0, htr⟩ := G
  subst hst0; subst hR0
  intro H locs ls hP hD hS hl T hT X
  obtain ⟨mk, methM, cM, hnamed, hmethM, -, -, -, -, -, -, hsig⟩ := hy.1.spec hts
  have hstatic : methM.isStatic = true := Cond.static_spec hnamed hmethM (hts _ hw2)
  obtain ⟨kP, hkP, -⟩ := className_of_methodNamed hnamed
  have hinitP : kP.init = .initialized := Cond.initialized_spec (findClass_of_methodNamed hnamed) hkP (hts _ hy.2.1)
  obtain ⟨vm₁, X₁, hstep₁⟩ := X.invokestatic hx hown (hts _ hw) hnamed hmethM hstatic hkP hinitP hy.2.2.1 (g := F0 m pc ls (As.reverse ++ rest)) rfl (argsL := As) (rest := rest) (hnp.trans (hy.len hsig)) rfl (by rw [hb]; exact hd)
  obtain ⟨t, a1, b1⟩ := bcallW G' hy.1 hy.2.1 hM hR hcs hsum hd kr kt hP hD hS hl (T := T.setVm vm₁) hT X₁ hnamed
  exact ⟨t, hstep₁ _ (fun acts => by rw [doInvoke_state]; exact a1), b1⟩
theorem bV.callSN (G : bG D cl tys Γ own cc nL ret nm tb rm) {y : MethodName} {b' : ByteArray} {n' np : Nat} {r' : Option FieldType} {tb' : bTb} (hy : bMd y b' n' r' tb' np) (hw2 : Cond.static y ∈ bw) {idx : Nat} {host : String} (hw : (own, idx, y, host) ∈ bnests)
    {rm' : Room} {As : List Value} {post : bo → va_W → Prop} (hM : bC D cl tys y rm' ws As post) (hnp : As.length = np) (hst0 : st = As.reverse ++ rest)
    (hR : rm'.frames + 1 ≤ rm.frames ∧ 8 + (n' + 11) + rm'.locals ≤ rm.locals) (hcs : k + rm'.cells ≤ rm.cells ∧ n + rm'.slots ≤ rm.slots) (hsum : (rest.map fun v => v.category).sum ≤ 8) (hd : decode cc pc = .ok (.invokestatic idx, 3))
    (kr : ∀ (v : Option Value) (ws' : va_W), post (.inl v) ws' → bV D cl Γ nL ws' (k + rm'.cells) (n + rm'.slots) (pc + 3) lv (v.toList ++ rest))
    (kt : ∀ (E : String) (ws' : va_W), post (.inr E) ws' → bT D cl Γ nL ws' (k + rm'.cells) (n + rm'.slots) pc lv E) : bV D cl Γ nL ws k n pc lv st := by
  obtain ⟨p, l, e, R, s, m, args, below, meth, c, A, Q⟩ := Γ
  have G' := id G
  obtain ⟨hx, hb, hml, hown, hts, hK, hA, hst, hX, hlk, hret, hnm, htab, hR0, htr⟩ := G
  subst hst0; subst hR0
  intro H locs ls hP hD hS hl T hT X
  obtain ⟨mk, methM, cM, hnamed, hmethM, -, -, -, -, -, -, hsig⟩ := hy.1.spec hts
  have hstatic : methM.isStatic = true := Cond.static_spec hnamed hmethM (hts _ hw2)
  obtain ⟨kP, hkP, -⟩ := className_of_methodNamed hnamed
  have hinitP : kP.init = .initialized := Cond.initialized_spec (findClass_of_methodNamed hnamed) hkP (hts _ hy.2.1)
  obtain ⟨vm₁, X₁, hstep₁⟩ := X.invokestaticNest hx hown (va_Nw.use (A := args) rfl (hX.2.2.2.2 _ hw)) hnamed hmethM hstatic hkP hinitP hy.2.2.1 (g := F0 m pc ls (As.reverse ++ rest)) rfl (argsL := As) (rest := rest) (hnp.trans (hy.len hsig)) rfl (by rw [hb]; exact hd)
  obtain ⟨t, a1, b1⟩ := bcallW G' hy.1 hy.2.1 hM hR hcs hsum hd kr kt hP hD hS hl (T := T.setVm vm₁) hT X₁ hnamed
  exact ⟨t, hstep₁ _ (fun acts => by rw [doInvoke_state]; exact a1), b1⟩
theorem bV.callI (G : bG D cl tys Γ own cc nL ret nm tb rm) {y : MethodName} {b' : ByteArray} {n' np : Nat} (hy : bMd y b' n' none [] np) (hyn : y.name = "<init>") (hw2 : Cond.instanceMethod y ∈ bw) (hw3 : Cond.code y b' n' none ∈ bw) {idx : Nat} (hw : Cond.methodLink own idx y ∈ bw)
    {rm' : Room} {a : Nat} {As : List Value} {post : bo → va_W → Prop} (hM : bC D cl tys y rm' ws (.ref a :: As) post) (hnp : As.length = np) (hst0 : st = As.reverse ++ .ref a :: rest)
    (hR : rm'.frames + 1 ≤ rm.frames ∧ 8 + (n' + 11) + rm'.locals ≤ rm.locals) (hcs : k + rm'.cells ≤ rm.cells ∧ n + rm'.slots ≤ rm.slots) (hsum : (rest.map fun v => v.category).sum ≤ 8) (hd : decode cc pc = .ok (.invokespecial idx, 3))
    (kr : ∀ (v : Option Value) (ws' : va_W), post (.inl v) ws' → bV D cl Γ nL ws' (k + rm'.cells) (n + rm'.slots) (pc + 3) lv (v.toList ++ rest))
    (kt : ∀ (E : String) (ws' : va_W), post (.inr E) ws' → bT D cl Γ nL ws' (k + rm'.cells) (n + rm'.slots) pc lv E) : bV D cl Γ nL ws k n pc lv st := by
  obtain ⟨p, l, e, R, s, m, args, below, meth, c, A, Q⟩ := Γ
  have G' := id G
  obtain ⟨hx, hb, hml, hown, hts, hK, hA, hst, hX, hlk, hret, hnm, htab, hR0, htr⟩ := G
  subst hst0; subst hR0
  intro H locs ls hP hD hS hl T hT X
  have hpl : e.platform.magicAccessors = ({} : Platform).magicAccessors := by rw [X.admits.platform]
  obtain ⟨mk, methM, cM, kP, vm₁, hnamed, hmethM, hcodeM, -, hlocalsM, -, hkP, -, hW₁, hstep₁⟩ := Steps.initColdArgs (e := e) X.here hx X.warmed hpl hown hyn hy.2.2.1 (hts _ hw) (hts _ hw2) (hts _ hw3) (f := F0 m pc ls (As.reverse ++ .ref a :: rest)) rfl (argsL := As) (rest := rest) (a := a) (fun sig h => hnp.trans (hy.len h)) rfl (by rw [hb]; exact hd)
  have X₁ := X.noted hW₁
  obtain ⟨t, a1, b1⟩ := bcallW G' hy.1 hy.2.1 hM hR hcs hsum hd kr kt hP hD hS hl (T := T.setVm vm₁) hT X₁ hnamed
  exact ⟨t, hstep₁ _ (fun acts => by rw [doInvoke_state]; exact a1), b1⟩
theorem bV.callIN (G : bG D cl tys Γ own cc nL ret nm tb rm) {y : MethodName} {b' : ByteArray} {n' np : Nat} (hy : bMd y b' n' none [] np) (hyn : y.name = "<init>") (hw2 : Cond.instanceMethod y ∈ bw) (hw3 : Cond.code y b' n' none ∈ bw) {idx : Nat} {host : String} (hw : (own, idx, y, host) ∈ bnests)
    {rm' : Room} {a : Nat} {As : List Value} {post : bo → va_W → Prop} (hM : bC D cl tys y rm' ws (.ref a :: As) post) (hnp : As.length = np) (hst0 : st = As.reverse ++ .ref a :: rest)
    (hR : rm'.frames + 1 ≤ rm.frames ∧ 8 + (n' + 11) + rm'.locals ≤ rm.locals) (hcs : k + rm'.cells ≤ rm.cells ∧ n + rm'.slots ≤ rm.slots) (hsum : (rest.map fun v => v.category).sum ≤ 8) (hd : decode cc pc = .ok (.invokespecial idx, 3))
    (kr : ∀ (v : Option Value) (ws' : va_W), post (.inl v) ws' → bV D cl Γ nL ws' (k + rm'.cells) (n + rm'.slots) (pc + 3) lv (v.toList ++ rest))
    (kt : ∀ (E : String) (ws' : va_W), post (.inr E) ws' → bT D cl Γ nL ws' (k + rm'.cells) (n + rm'.slots) pc lv E) : bV D cl Γ nL ws k n pc lv st := by
  obtain ⟨p, l, e, R, s, m, args, below, meth, c, A, Q⟩ := Γ
  have G' := id G
  obtain ⟨hx, hb, hml, hown, hts, hK, hA, hst, hX, hlk, hret, hnm, htab, hR0, htr⟩ := G
  subst hst0; subst hR0
  intro H locs ls hP hD hS hl T hT X
  have hpl : e.platform.magicAccessors = ({} : Platform).magicAccessors := by rw [X.admits.platform]
  obtain ⟨mk, methM, cM, kP, vm₁, hnamed, hmethM, hcodeM, -, hlocalsM, -, hkP, -, hW₁, hstep₁⟩ := Steps.initColdArgsNest (e := e) X.here hx X.warmed hpl hown hyn hy.2.2.1 (va_Nw.use (A := args) rfl (hX.2.2.2.2 _ hw)) (hts _ hw2) (hts _ hw3) (f := F0 m pc ls (As.reverse ++ .ref a :: rest)) rfl (argsL := As) (rest := rest) (a := a) (fun sig h => hnp.trans (hy.len h)) rfl (by rw [hb]; exact hd)
  have X₁ := X.noted hW₁
  obtain ⟨t, a1, b1⟩ := bcallW G' hy.1 hy.2.1 hM hR hcs hsum hd kr kt hP hD hS hl (T := T.setVm vm₁) hT X₁ hnamed
  exact ⟨t, hstep₁ _ (fun acts => by rw [doInvoke_state]; exact a1), b1⟩
/-- throw new E("..") -/
theorem bV.throwNew (G : bG D cl tys Γ own cc nL ret nm tb rm) {post : bo → va_W → Prop} (E0 : bE D cl Γ ws0 post rm) {E tx : String} {names : List String} {ia ib ic : Nat} (hfit : Bundle.fit E = true) (hnames : ∀ z ∈ names, Bundle.fit z = true) (hat : ∀ w ∈ Bundle.ownAtoms own ic E names, w ∈ bw ∨ w = .laysStatic Bundle.tN "UNASSIGNED_STACK" Bundle.steD ∨ w = .laysStatic Bundle.tN "SUPPRESSED_SENTINEL" Bundle.listD ∨ w = .isRef (.static Bundle.tN "UNASSIGNED_STACK" Bundle.steD) ∨ w = .isRef (.static Bundle.tN "SUPPRESSED_SENTINEL" Bundle.listD))
    (hw : Cond.classLink own ia E ∈ bw) (hw2 : Cond.instantiable E 6 ∈ bw) (hw3 : Cond.initialized E ∈ bw) (hstr : (own, ib, tx) ∈ bstrs)
    (hc : k + 1 ≤ rm.cells) (hs : n + 6 ≤ rm.slots) (hfr : names.length + 3 < rm.frames) (hlo : (rest.map fun v => v.category).sum + 1 + (13 * (names.length + 1) + 42) ≤ rm.locals) (htb : (tableOf tb).all (fun x => !covers x (pc + 9)) = true)
    (hd0 : decode cc pc = .ok (.new ia, 3)) (hd3 : decode cc (pc + 3) = .ok (.dup, 1)) (hd4 : decode cc (pc + 4) = .ok (.ldc ib, 2)) (hd6 : decode cc (pc + 6) = .ok (.invokespecial ic, 3)) (hd9 : decode cc (pc + 9) = .ok (.athrow, 1))
    (hp : post (.inr E) ws) : bV D cl Γ nL ws k n pc lv rest := by
  obtain ⟨p, l, e, R, s0, m, args, below, meth, c, A, Q⟩ := Γ
  obtain ⟨hx, hb, hml, hown0, hts0, hK, hA, hst, hX0, hlk, hret, hnm, htab, hR0, htr⟩ := G
  obtain ⟨rfl, rfl⟩ := E0
  subst hR0
  intro H locs ls hP hD hS hl T hT X0
  -- the same walk, seen from a start that has the heap as it is now
  have X := bre X0 (by omega) (by omega)
  have hstat : ∀ (a : Nat) (cell : Cell), s0.heap[a]? = some cell → cell.vm.isStatics = true → T.heap[a]? = some cell := by
    intro a cell h1 h2
    have h3 : ¬ va_A ws0 s0.heap.size a := fun h => by rw [hst a cell h h1] at h2; cases h2
    rw [hT, hS.2.1 a (Array.getElem?_eq_some_iff.mp h1).1 h3]
    exact h1
  obtain ⟨s, hse⟩ : ∃ s : State, s = { s0 with heap := T.heap, slotsUsed := T.slotsUsed } := ⟨_, rfl⟩
  rw [← hse] at X
  have hWs : s0.WarmedH s.vm := by rw [hse]; exact State.WarmedH.refl s0
  have hts : ∀ w ∈ bw, w.before args s = true := fun w h => bw_warm h hWs (hts0 w h)
  have hX : bX s := bX.go hWs (fun a cell h1 h2 => by rw [hse]; exact hstat a cell h1 h2) hX0
  have hown : s.vm.findClass own = some m.cls := by rw [hse]; exact hown0
  have hsh : s.heap = T.heap := by rw [hse]
  have htr' : e.platform.stackTraces = false := by rw [Example.NoTraceControls.admits_follows X.admits]; exact htr
  obtain ⟨str, hstr1, hstr2⟩ := hX.2.2.1 _ hstr
  obtain ⟨vm₁, cX, kX, hfX, hkX, -, -, X₁, st1⟩ := X.newCold hx hown (hts _ hw) (hts _ hw2) (hts _ hw3) (g := F0 m pc ls rest) rfl (by rw [hb]; exact hd0) (by show 0 + 1 ≤ R.cells - k; omega) (by show 0 + 6 ≤ R.slots - n; omega)
  generalize hT1 : (T.setVm vm₁).pushCell { cls := cX, slots := kX.instanceTypes.map defaultValue, vm := .none } = T1 at X₁ st1
  have hcellA : T1.heap[T.heap.size]? = some (freshCell cX kX) := by rw [← hT1]; exact State.heap_pushCell_size _ _
  have hall : ∀ w ∈ Bundle.ownAtoms own ic E names, w.before args s = true := by
    intro w hw0
    rcases hat w hw0 with h | rfl | rfl | rfl | rfl
    · exact hts _ h
    · exact hX.1.1
    · exact hX.2.1.1
    · exact hX.1.2
    · exact hX.2.1.2
  obtain ⟨U, hsteps, hrun, hend, hW, hsame, ce, hce, K⟩ := X₁.ctorThrowS hx htr' (own := own) (cls := E) (names := names) (ic := ic) hown hfit hnames hall
    (fun x hx0 => by cases hx0) hfX hkX hcellA (by rw [hsh]; exact Nat.le_refl _) (msg := .ref str) rfl
    (g := F0 m (pc + 6) ls (.ref str :: .ref T.heap.size :: .ref T.heap.size :: rest)) rfl (hl.1.trans hml.symm) rfl rfl (rest := rest) rfl
    (by rw [hb]; exact hd6) (by rw [hb]; exact hd9) (outside_of_table htab htb) hfr (by show 2 * 0 + (1 + (rest.map fun v => v.category).sum) + (13 * (names.length + 1) + 42) ≤ R.locals; omega) hlk
  have hold : ∀ (q : Nat) (cell : Cell), H[q]? = some cell → U.heap[q]? = some cell := fun q cell h => hsame.old_cell (by rw [hsh, hT]; exact h)
  have hold2 : ∀ q : Nat, q < H.size → U.heap[q]? = H[q]? := by
    intro q hq
    rw [hold q H[q] (Array.getElem?_eq_getElem hq), Array.getElem?_eq_getElem hq]
  have hWU : s0.WarmedH U.vm := State.WarmedH.trans hWs hW
  have hsz : H.size ≤ U.heap.size := by
    have := hsame.2.1
    rw [hsh, hT] at this
    exact this
  refine ⟨U, ?_, .threw T.heap.size, hrun, hend, ⟨.inr E, ws, ⟨T.heap.size, ce, rfl, by rw [hT]; exact hS.1, hce, by rw [K.vm]; rfl, by rw [hW.alike.findClass]; exact K.cls⟩, hp, hP.kept (fun j q hq => hold2 q.1 (hP j q hq).lt), hD, Nat.le_trans hS.1 hsz, fun q h1 h2 => ?_⟩, locs ++ [], ⟨Or.inr ⟨_, rfl⟩, hWU, ?_⟩, by rw [List.append_nil]; exact hS.2.2⟩
  · refine st1 _ ?_
    show Steps p.tables e below (T1.setTop (F0 m (pc + 3) ls (.ref T.heap.size :: rest))) _
    jvm_step X₁.here [X₁.here.top, hx, hb, hd3, Value.category]
    exact X₁.ldcString hx hown (text := tx) (a := str) hstr1 hstr2 (g := F0 m (pc + 4) ls (.ref T.heap.size :: .ref T.heap.size :: rest)) rfl (by rw [hb]; exact hd4) _ hsteps
  · rw [hold2 q (Nat.lt_of_lt_of_le h1 hS.1)]
    exact hS.2.1 q h1 h2
  · have h6 : (T.setVm s0.vm).sameButNew ({ U with vm := s0.vm } : State) [] 1 6 := by
      have hsame' : s.sameButNew ({ U with vm := s.vm } : State) [] (0 + 1) (0 + 6) := hsame
      rw [hse] at hsame'
      obtain ⟨g1, g2⟩ := hsame'
      refine ⟨?_, g2⟩
      have g3 := X0.same.1
      rw [g3]
      show ({ U with vm := s0.vm } : State) = { (s0.setFrames (T.setVm s0.vm).frames).setFrames U.frames with heap := U.heap, slotsUsed := U.slotsUsed }
      rw [State.setFrames_setFrames]
      exact g1
    exact (X0.same.trans h6).mono hc hs
end BVC
