/-! ===== posts by their shape; rows of calls for them ===== -/
def bI (Ψ : Int32 → va_W → Prop) (Θ : String → va_W → Prop) : bo → va_W → Prop := fun r ws' => (∃ x, r = .inl (some (.int x)) ∧ Ψ x ws') ∨ (∃ E, r = .inr E ∧ Θ E ws')
def bO (Ψ : va_W → Prop) (Θ : String → va_W → Prop) : bo → va_W → Prop := fun r ws' => (r = .inl none ∧ Ψ ws') ∨ (∃ E, r = .inr E ∧ Θ E ws')
def bno : String → va_W → Prop := fun _ _ => False
theorem bI.v {Ψ : Int32 → va_W → Prop} {Θ : String → va_W → Prop} {v : Option Value} {ws' : va_W} (h : bI Ψ Θ (.inl v) ws') : ∃ x, v = some (.int x) ∧ Ψ x ws' := by
  rcases h with ⟨x, h1, h2⟩ | ⟨E, h1, h2⟩
  · cases h1; exact ⟨x, rfl, h2⟩
  · cases h1
theorem bI.t {Ψ : Int32 → va_W → Prop} {Θ : String → va_W → Prop} {E : String} {ws' : va_W} (h : bI Ψ Θ (.inr E) ws') : Θ E ws' := by
  rcases h with ⟨x, h1, h2⟩ | ⟨E', h1, h2⟩
  · cases h1
  · cases h1; exact h2
theorem bO.v {Ψ : va_W → Prop} {Θ : String → va_W → Prop} {v : Option Value} {ws' : va_W} (h : bO Ψ Θ (.inl v) ws') : v = none ∧ Ψ ws' := by
  rcases h with ⟨h1, h2⟩ | ⟨E, h1, h2⟩
  · cases h1; exact ⟨rfl, h2⟩
  · cases h1
theorem bO.t {Ψ : va_W → Prop} {Θ : String → va_W → Prop} {E : String} {ws' : va_W} (h : bO Ψ Θ (.inr E) ws') : Θ E ws' := by
  rcases h with ⟨h1, h2⟩ | ⟨E', h1, h2⟩
  · cases h1
  · cases h1; exact h2
theorem bs_eq {ws : va_W} {q : Nat} {z x : Nat × va_E} (h : ws[q]? = some z) : (ws.set q x)[q]? = some x := by
  have hl : q < ws.length := (List.getElem?_eq_some_iff.mp h).1
  simp [hl]
theorem bs_ne {ws : va_W} {q r : Nat} {z x : Nat × va_E} (hn : q ≠ r) (h : ws[r]? = some z) : (ws.set q x)[r]? = some z := by
  rw [List.getElem?_set_ne hn]; exact h
theorem bB_n (b : Bool) : narrow .boolean (.int (bB b)) = .int (bB b) := by cases b <;> rfl
theorem bB_f (b : Bool) : fits .boolean (.int (bB b)) = true := by cases b <;> rfl
section BVS
variable {D : va_G} {cl : List vw_C} {tys : List (ClassId × FieldType)} {Γ : bCtx} {own : String} {cc : ByteArray} {nL : Nat} {ret : Option FieldType} {nm : String} {tb : bTb} {rm : Room} {ws ws0 : va_W} {k n pc : Nat} {lv : List (Nat × Value)} {rest st : List Value}
theorem bV.callVi (G : bG D cl tys Γ own cc nL ret nm tb rm) {y : MethodName} {b' : ByteArray} {n' np : Nat} {r' : Option FieldType} {tb' : bTb} (hy : bMd y b' n' r' tb' np) (hw2 : Cond.instanceMethod y ∈ bw) (hw3 : Cond.selects y.cls y y ∈ bw) {idx : Nat} (hw : Cond.methodLink own idx y ∈ bw)
    {rm' : Room} {a : Nat} {As : List Value} {Ψ : Int32 → va_W → Prop} (hM : bC D cl tys y rm' ws (.ref a :: As) (bI Ψ bno)) (q0 : Nat) {ci : Nat} {fs : List Value} {q : vw_C} (he : ws[q0]? = some (a, .inr (ci, fs))) (hc : cl[ci]? = some q) (hq : q.1 = y.cls) (hnp : As.length = np) (hst0 : st = As.reverse ++ .ref a :: rest)
    (hR : rm'.frames + 1 ≤ rm.frames ∧ 8 + (n' + 11) + rm'.locals ≤ rm.locals) (hcs : k + rm'.cells ≤ rm.cells ∧ n + rm'.slots ≤ rm.slots) (hsum : (rest.map fun v => v.category).sum ≤ 8) (hd : decode cc pc = .ok (.invokevirtual idx, 3))
    (kr : ∀ (x : Int32) (ws' : va_W), Ψ x ws' → bV D cl Γ nL ws' (k + rm'.cells) (n + rm'.slots) (pc + 3) lv (.int x :: rest)) : bV D cl Γ nL ws k n pc lv st :=
  bV.callV G hy hw2 hw3 hw hM q0 he hc hq hnp hst0 hR hcs hsum hd (fun v ws' hp => by obtain ⟨x, rfl, h⟩ := bI.v hp; exact kr x ws' h) (fun E ws' hp => False.elim (bI.t hp))
theorem bV.callVit (G : bG D cl tys Γ own cc nL ret nm tb rm) {y : MethodName} {b' : ByteArray} {n' np : Nat} {r' : Option FieldType} {tb' : bTb} (hy : bMd y b' n' r' tb' np) (hw2 : Cond.instanceMethod y ∈ bw) (hw3 : Cond.selects y.cls y y ∈ bw) {idx : Nat} (hw : Cond.methodLink own idx y ∈ bw)
    {rm' : Room} {a : Nat} {As : List Value} {Ψ : Int32 → va_W → Prop} {Θ : String → va_W → Prop} (hM : bC D cl tys y rm' ws (.ref a :: As) (bI Ψ Θ)) (q0 : Nat) {ci : Nat} {fs : List Value} {q : vw_C} (he : ws[q0]? = some (a, .inr (ci, fs))) (hc : cl[ci]? = some q) (hq : q.1 = y.cls) (hnp : As.length = np) (hst0 : st = As.reverse ++ .ref a :: rest)
    (hR : rm'.frames + 1 ≤ rm.frames ∧ 8 + (n' + 11) + rm'.locals ≤ rm.locals) (hcs : k + rm'.cells ≤ rm.cells ∧ n + rm'.slots ≤ rm.slots) (hsum : (rest.map fun v => v.category).sum ≤ 8) (hd : decode cc pc = .ok (.invokevirtual idx, 3))
    (kr : ∀ (x : Int32) (ws' : va_W), Ψ x ws' → bV D cl Γ nL ws' (k + rm'.cells) (n + rm'.slots) (pc + 3) lv (.int x :: rest)) (kt : ∀ (E : String) (ws' : va_W), Θ E ws' → bT D cl Γ nL ws' (k + rm'.cells) (n + rm'.slots) pc lv E) : bV D cl Γ nL ws k n pc lv st :=
  bV.callV G hy hw2 hw3 hw hM q0 he hc hq hnp hst0 hR hcs hsum hd (fun v ws' hp => by obtain ⟨x, rfl, h⟩ := bI.v hp; exact kr x ws' h) (fun E ws' hp => kt E ws' (bI.t hp))
theorem bV.callVo (G : bG D cl tys Γ own cc nL ret nm tb rm) {y : MethodName} {b' : ByteArray} {n' np : Nat} {r' : Option FieldType} {tb' : bTb} (hy : bMd y b' n' r' tb' np) (hw2 : Cond.instanceMethod y ∈ bw) (hw3 : Cond.selects y.cls y y ∈ bw) {idx : Nat} (hw : Cond.methodLink own idx y ∈ bw)
    {rm' : Room} {a : Nat} {As : List Value} {Ψ : va_W → Prop} (hM : bC D cl tys y rm' ws (.ref a :: As) (bO Ψ bno)) (q0 : Nat) {ci : Nat} {fs : List Value} {q : vw_C} (he : ws[q0]? = some (a, .inr (ci, fs))) (hc : cl[ci]? = some q) (hq : q.1 = y.cls) (hnp : As.length = np) (hst0 : st = As.reverse ++ .ref a :: rest)
    (hR : rm'.frames + 1 ≤ rm.frames ∧ 8 + (n' + 11) + rm'.locals ≤ rm.locals) (hcs : k + rm'.cells ≤ rm.cells ∧ n + rm'.slots ≤ rm.slots) (hsum : (rest.map fun v => v.category).sum ≤ 8) (hd : decode cc pc = .ok (.invokevirtual idx, 3))
    (kr : ∀ (ws' : va_W), Ψ ws' → bV D cl Γ nL ws' (k + rm'.cells) (n + rm'.slots) (pc + 3) lv rest) : bV D cl Γ nL ws k n pc lv st :=
  bV.callV G hy hw2 hw3 hw hM q0 he hc hq hnp hst0 hR hcs hsum hd (fun v ws' hp => by obtain ⟨rfl, h⟩ := bO.v hp; exact kr ws' h) (fun E ws' hp => False.elim (bO.t hp))
theorem bV.callVot (G : bG D cl tys Γ own cc nL ret nm tb rm) {y : MethodName} {b' : ByteArray} {n' np : Nat} {r' : Option FieldType} {tb' : bTb} (hy : bMd y b' n' r' tb' np) (hw2 : Cond.instanceMethod y ∈ bw) (hw3 : Cond.selects y.cls y y ∈ bw) {idx : Nat} (hw : Cond.methodLink own idx y ∈ bw)
    {rm' : Room} {a : Nat} {As : List Value} {Ψ : va_W → Prop} {Θ : String → va_W → Prop} (hM : bC D cl tys y rm' ws (.ref a :: As) (bO Ψ Θ)) (q0 : Nat) {ci : Nat} {fs : List Value} {q : vw_C} (he : ws[q0]? = some (a, .inr (ci, fs))) (hc : cl[ci]? = some q) (hq : q.1 = y.cls) (hnp : As.length = np) (hst0 : st = As.reverse ++ .ref a :: rest)
    (hR : rm'.frames + 1 ≤ rm.frames ∧ 8 + (n' + 11) + rm'.locals ≤ rm.locals) (hcs : k + rm'.cells ≤ rm.cells ∧ n + rm'.slots ≤ rm.slots) (hsum : (rest.map fun v => v.category).sum ≤ 8) (hd : decode cc pc = .ok (.invokevirtual idx, 3))
    (kr : ∀ (ws' : va_W), Ψ ws' → bV D cl Γ nL ws' (k + rm'.cells) (n + rm'.slots) (pc + 3) lv rest) (kt : ∀ (E : String) (ws' : va_W), Θ E ws' → bT D cl Γ nL ws' (k + rm'.cells) (n + rm'.slots) pc lv E) : bV D cl Γ nL ws k n pc lv st :=
  bV.callV G hy hw2 hw3 hw hM q0 he hc hq hnp hst0 hR hcs hsum hd (fun v ws' hp => by obtain ⟨rfl, h⟩ := bO.v hp; exact kr ws' h) (fun E ws' hp => kt E ws' (bO.t hp))
theorem bV.callSi (G : bG D cl tys Γ own cc nL ret nm tb rm) {y : MethodName} {b' : ByteArray} {n' np : Nat} {r' : Option FieldType} {tb' : bTb} (hy : bMd y b' n' r' tb' np) (hw2 : Cond.static y ∈ bw) {idx : Nat} (hw : Cond.methodLink own idx y ∈ bw)
    {rm' : Room} {As : List Value} {Ψ : Int32 → va_W → Prop} (hM : bC D cl tys y rm' ws As (bI Ψ bno)) (hnp : As.length = np) (hst0 : st = As.reverse ++ rest)
    (hR : rm'.frames + 1 ≤ rm.frames ∧ 8 + (n' + 11) + rm'.locals ≤ rm.locals) (hcs : k + rm'.cells ≤ rm.cells ∧ n + rm'.slots ≤ rm.slots) (hsum : (rest.map fun v => v.category).sum ≤ 8) (hd : decode cc pc = .ok (.invokestatic idx, 3))
    (kr : ∀ (x : Int32) (ws' : va_W), Ψ x ws' → bV D cl Γ nL ws' (k + rm'.cells) (n + rm'.slots) (pc + 3) lv (.int x :: rest)) : bV D cl Γ nL ws k n pc lv st :=
  bV.callS G hy hw2 hw hM hnp hst0 hR hcs hsum hd (fun v ws' hp => by obtain ⟨x, rfl, h⟩ := bI.v hp; exact kr x ws' h) (fun E ws' hp => False.elim (bI.t hp))
theorem bV.callSo (G : bG D cl tys Γ own cc nL ret nm tb rm) {y : MethodName} {b' : ByteArray} {n' np : Nat} {r' : Option FieldType} {tb' : bTb} (hy : bMd y b' n' r' tb' np) (hw2 : Cond.static y ∈ bw) {idx : Nat} (hw : Cond.methodLink own idx y ∈ bw)
    {rm' : Room} {As : List Value} {Ψ : va_W → Prop} (hM : bC D cl tys y rm' ws As (bO Ψ bno)) (hnp : As.length = np) (hst0 : st = As.reverse ++ rest)
    (hR : rm'.frames + 1 ≤ rm.frames ∧ 8 + (n' + 11) + rm'.locals ≤ rm.locals) (hcs : k + rm'.cells ≤ rm.cells ∧ n + rm'.slots ≤ rm.slots) (hsum : (rest.map fun v => v.category).sum ≤ 8) (hd : decode cc pc = .ok (.invokestatic idx, 3))
    (kr : ∀ (ws' : va_W), Ψ ws' → bV D cl Γ nL ws' (k + rm'.cells) (n + rm'.slots) (pc + 3) lv rest) : bV D cl Γ nL ws k n pc lv st :=
  bV.callS G hy hw2 hw hM hnp hst0 hR hcs hsum hd (fun v ws' hp => by obtain ⟨rfl, h⟩ := bO.v hp; exact kr ws' h) (fun E ws' hp => False.elim (bO.t hp))
theorem bV.callSNi (G : bG D cl tys Γ own cc nL ret nm tb rm) {y : MethodName} {b' : ByteArray} {n' np : Nat} {r' : Option FieldType} {tb' : bTb} (hy : bMd y b' n' r' tb' np) (hw2 : Cond.static y ∈ bw) {idx : Nat} {host : String} (hw : (own, idx, y, host) ∈ bnests)
    {rm' : Room} {As : List Value} {Ψ : Int32 → va_W → Prop} (hM : bC D cl tys y rm' ws As (bI Ψ bno)) (hnp : As.length = np) (hst0 : st = As.reverse ++ rest)
    (hR : rm'.frames + 1 ≤ rm.frames ∧ 8 + (n' + 11) + rm'.locals ≤ rm.locals) (hcs : k + rm'.cells ≤ rm.cells ∧ n + rm'.slots ≤ rm.slots) (hsum : (rest.map fun v => v.category).sum ≤ 8) (hd : decode cc pc = .ok (.invokestatic idx, 3))
    (kr : ∀ (x : Int32) (ws' : va_W), Ψ x ws' → bV D cl Γ nL ws' (k + rm'.cells) (n + rm'.slots) (pc + 3) lv (.int x :: rest)) : bV D cl Γ nL ws k n pc lv st :=
  bV.callSN G hy hw2 hw hM hnp hst0 hR hcs hsum hd (fun v ws' hp => by obtain ⟨x, rfl, h⟩ := bI.v hp; exact kr x ws' h) (fun E ws' hp => False.elim (bI.t hp))
theorem bV.callSNo (G : bG D cl tys Γ own cc nL ret nm tb rm) {y : MethodName} {b' : ByteArray} {n' np : Nat} {r' : Option FieldType} {tb' : bTb} (hy : bMd y b' n' r' tb' np) (hw2 : Cond.static y ∈ bw) {idx : Nat} {host : String} (hw : (own, idx, y, host) ∈ bnests)
    {rm' : Room} {As : List Value} {Ψ : va_W → Prop} (hM : bC D cl tys y rm' ws As (bO Ψ bno)) (hnp : As.length = np) (hst0 : st = As.reverse ++ rest)
    (hR : rm'.frames + 1 ≤ rm.frames ∧ 8 + (n' + 11) + rm'.locals ≤ rm.locals) (hcs : k + rm'.cells ≤ rm.cells ∧ n + rm'.slots ≤ rm.slots) (hsum : (rest.map fun v => v.category).sum ≤ 8) (hd : decode cc pc = .ok (.invokestatic idx, 3))
    (kr : ∀ (ws' : va_W), Ψ ws' → bV D cl Γ nL ws' (k + rm'.cells) (n + rm'.slots) (pc + 3) lv rest) : bV D cl Γ nL ws k n pc lv st :=
  bV.callSN G hy hw2 hw hM hnp hst0 hR hcs hsum hd (fun v ws' hp => by obtain ⟨rfl, h⟩ := bO.v hp; exact kr ws' h) (fun E ws' hp => False.elim (bO.t hp))
theorem bV.callIo (G : bG D cl tys Γ own cc nL ret nm tb rm) {y : MethodName} {b' : ByteArray} {n' np : Nat} (hy : bMd y b' n' none [] np) (hyn : y.name = "<init>") (hw2 : Cond.instanceMethod y ∈ bw) (hw3 : Cond.code y b' n' none ∈ bw) {idx : Nat} (hw : Cond.methodLink own idx y ∈ bw)
    {rm' : Room} {a : Nat} {As : List Value} {Ψ : va_W → Prop} (hM : bC D cl tys y rm' ws (.ref a :: As) (bO Ψ bno)) (hnp : As.length = np) (hst0 : st = As.reverse ++ .ref a :: rest)
    (hR : rm'.frames + 1 ≤ rm.frames ∧ 8 + (n' + 11) + rm'.locals ≤ rm.locals) (hcs : k + rm'.cells ≤ rm.cells ∧ n + rm'.slots ≤ rm.slots) (hsum : (rest.map fun v => v.category).sum ≤ 8) (hd : decode cc pc = .ok (.invokespecial idx, 3))
    (kr : ∀ (ws' : va_W), Ψ ws' → bV D cl Γ nL ws' (k + rm'.cells) (n + rm'.slots) (pc + 3) lv rest) : bV D cl Γ nL ws k n pc lv st :=
  bV.callI G hy hyn hw2 hw3 hw hM hnp hst0 hR hcs hsum hd (fun v ws' hp => by obtain ⟨rfl, h⟩ := bO.v hp; exact kr ws' h) (fun E ws' hp => False.elim (bO.t hp))
theorem bV.callINo (G : bG D cl tys Γ own cc nL ret nm tb rm) {y : MethodName} {b' : ByteArray} {n' np : Nat} (hy : bMd y b' n' none [] np) (hyn : y.name = "<init>") (hw2 : Cond.instanceMethod y ∈ bw) (hw3 : Cond.code y b' n' none ∈ bw) {idx : Nat} {host : String} (hw : (own, idx, y, host) ∈ bnests)
    {rm' : Room} {a : Nat} {As : List Value} {Ψ : va_W → Prop} (hM : bC D cl tys y rm' ws (.ref a :: As) (bO Ψ bno)) (hnp : As.length = np) (hst0 : st = As.reverse ++ .ref a :: rest)
    (hR : rm'.frames + 1 ≤ rm.frames ∧ 8 + (n' + 11) + rm'.locals ≤ rm.locals) (hcs : k + rm'.cells ≤ rm.cells ∧ n + rm'.slots ≤ rm.slots) (hsum : (rest.map fun v => v.category).sum ≤ 8) (hd : decode cc pc = .ok (.invokespecial idx, 3))
    (kr : ∀ (ws' : va_W), Ψ ws' → bV D cl Γ nL ws' (k + rm'.cells) (n + rm'.slots) (pc + 3) lv rest) : bV D cl Γ nL ws k n pc lv st :=
  bV.callIN G hy hyn hw2 hw3 hw hM hnp hst0 hR hcs hsum hd (fun v ws' hp => by obtain ⟨rfl, h⟩ := bO.v hp; exact kr ws' h) (fun E ws' hp => False.elim (bO.t hp))
theorem bV.iretI (G : bG D cl tys Γ own cc nL ret nm tb rm) {Ψ : Int32 → va_W → Prop} {Θ : String → va_W → Prop} (E0 : bE D cl Γ ws0 (bI Ψ Θ) rm) {ty : FieldType} {v : Int32} (hr : ret = some ty) (hn : narrow ty (.int v) = .int v) (h1 : k ≤ rm.cells) (h2 : n ≤ rm.slots) (hd : decode cc pc = .ok (.ireturn, 1)) (hp : Ψ v ws) : bV D cl Γ nL ws k n pc lv [.int v] :=
  bV.iret G E0 hr hn h1 h2 hd (Or.inl ⟨v, rfl, hp⟩)
theorem bV.vretO (G : bG D cl tys Γ own cc nL ret nm tb rm) {Ψ : va_W → Prop} {Θ : String → va_W → Prop} (E0 : bE D cl Γ ws0 (bO Ψ Θ) rm) (hr : ret = none) (h1 : k ≤ rm.cells) (h2 : n ≤ rm.slots) (hd : decode cc pc = .ok (.return_, 1)) (hp : Ψ ws) : bV D cl Γ nL ws k n pc lv [] :=
  bV.vret G E0 hr h1 h2 hd (Or.inl ⟨rfl, hp⟩)
theorem bT.leaveI (G : bG D cl tys Γ own cc nL ret nm tb rm) {Ψ : Int32 → va_W → Prop} {Θ : String → va_W → Prop} {E : String} (E0 : bE D cl Γ ws0 (bI Ψ Θ) rm) (htb : (tableOf tb).all (fun x => !covers x pc) = true) (h1 : k ≤ rm.cells) (h2 : n ≤ rm.slots) (hp : Θ E ws) : bT D cl Γ nL ws k n pc lv E :=
  bT.leave G E0 htb h1 h2 (Or.inr ⟨E, rfl, hp⟩)
theorem bT.leaveO (G : bG D cl tys Γ own cc nL ret nm tb rm) {Ψ : va_W → Prop} {Θ : String → va_W → Prop} {E : String} (E0 : bE D cl Γ ws0 (bO Ψ Θ) rm) (htb : (tableOf tb).all (fun x => !covers x pc) = true) (h1 : k ≤ rm.cells) (h2 : n ≤ rm.slots) (hp : Θ E ws) : bT D cl Γ nL ws k n pc lv E :=
  bT.leave G E0 htb h1 h2 (Or.inr ⟨E, rfl, hp⟩)
end BVS
abbrev tys3 (cI cZ cJ : ClassId) : List (ClassId × FieldType) := [(cI, .int), (cZ, .boolean), (cJ, .long)]
