/-! ===== rows of the heap: fields, arrays, new things, returns, throws, calls ===== -/
def bCl (cl : List vw_C) (ci : Nat) (C : String) (T : u_T) (N : Nat) (ty : Nat → FieldType) : Prop :=
  cl[ci]? = some (C, T, N) ∧ (∀ w ∈ u_ws C T N, w ∈ bw) ∧ (∀ k, k < N → parseFieldDescriptor (T k).2.2.1 = some (ty k)) ∧ (∀ a, a < N → ∀ b, b < N → a ≠ b → (T a).2.1 ≠ (T b).2.1)
section BVH
variable {D : va_G} {cl : List vw_C} {tys : List (ClassId × FieldType)} {Γ : bCtx} {own : String} {cc : ByteArray} {nL : Nat} {ret : Option FieldType} {nm : String} {tb : bTb} {rm : Room} {ws ws' ws0 : va_W} {k n pc : Nat} {lv : List (Nat × Value)} {rest : List Value} {post : bo → va_W → Prop}
theorem bV.widen {k' n' : Nat} {st : List Value} (h1 : k ≤ k') (h2 : n ≤ n') (kk : bV D cl Γ nL ws k' n' pc lv st) : bV D cl Γ nL ws k n pc lv st := by
  obtain ⟨p, l, e, R, s, m, args, below, meth, c, A, Q⟩ := Γ
  intro H locs ls hP hD hS hl
  exact W.widen h1 h2 (kk H locs ls hP hD hS hl)
theorem bV.perm {st : List Value} (is : List Nat) (hn : va_nd is = true) (hs : is.map (fun i => ws[i]?) = ws'.map some) (kk : bV D cl Γ nL ws' k n pc lv st) : bV D cl Γ nL ws k n pc lv st := by
  obtain ⟨p, l, e, R, s, m, args, below, meth, c, A, Q⟩ := Γ
  intro H locs ls hP hD hS hl
  refine kk H locs ls (fun j q hq => ?_) (hD.sub is hn hs) hS hl
  have h1 : (is.map (fun i => ws[i]?))[j]? = some (some q) := by rw [hs, List.getElem?_map, hq]; rfl
  rw [List.getElem?_map] at h1
  cases hi : is[j]? with
  | none => rw [hi] at h1; cases h1
  | some i => rw [hi] at h1; exact hP i q (Option.some.inj h1)
theorem bV.locals {st : List Value} {lv' : List (Nat × Value)} (h : ∀ q ∈ lv', q ∈ lv) (kk : bV D cl Γ nL ws k n pc lv' st) : bV D cl Γ nL ws k n pc lv st := by
  obtain ⟨p, l, e, R, s, m, args, below, meth, c, A, Q⟩ := Γ
  intro H locs ls hP hD hS hl
  exact kk H locs ls hP hD hS ⟨hl.1, hl.2.1, fun q hq => hl.2.2 q (h q hq)⟩
theorem bV.getf (G : bG D cl tys Γ own cc nL ret nm tb rm) {ci N : Nat} {C : String} {T : u_T} {ty : Nat → FieldType} (B : bCl cl ci C T N ty) (q0 j : Nat) {idx a : Nat} {fs : List Value} {v : Value} (he : ws[q0]? = some (a, .inr (ci, fs))) (hj : j < N) (hw : Cond.fieldLink own idx (T j).1 (T j).2.1 (T j).2.2.1 ∈ bw) (hv : fs[j]? = some v) (hd : decode cc pc = .ok (.getfield idx, 3))
    (kk : bV D cl Γ nL ws k n (pc + 3) lv (v :: rest)) : bV D cl Γ nL ws k n pc lv (.ref a :: rest) := by
  obtain ⟨p, l, e, R, s, m, args, below, meth, c, A, Q⟩ := Γ
  obtain ⟨hx, hb, hml, hown, hts, hK, -⟩ := G
  intro H locs ls hP hD hS hl
  exact va_get (D := D) hx hb hts B.2.1 hown hK hP q0 he B.1 j hj (hts _ hw) (fun _ h => h) hv hd (kk H locs ls hP hD hS hl)
theorem bV.putf (G : bG D cl tys Γ own cc nL ret nm tb rm) {ci N : Nat} {C : String} {T : u_T} {ty : Nat → FieldType} (B : bCl cl ci C T N ty) (q0 j : Nat) {idx a : Nat} {fs : List Value} {v : Value} (he : ws[q0]? = some (a, .inr (ci, fs))) (hj : j < N) (hw : Cond.fieldLink own idx (T j).1 (T j).2.1 (T j).2.2.1 ∈ bw) (hfin : (T j).2.2.2 = false) (hn : narrow (ty j) v = v) (hfit : fits (ty j) v = true) (hlen : j < fs.length) (hd : decode cc pc = .ok (.putfield idx, 3)) (hws : ws.set q0 (a, .inr (ci, fs.set j v)) = ws')
    (kk : bV D cl Γ nL ws' k n (pc + 3) lv rest) : bV D cl Γ nL ws k n pc lv (v :: .ref a :: rest) := by
  obtain ⟨p, l, e, R, s, m, args, below, meth, c, A, Q⟩ := Γ
  obtain ⟨hx, hb, hml, hown, hts, hK, -⟩ := G
  intro H locs ls hP hD hS hl
  subst hws
  exact va_put (D := D) hx hb hts B.2.1 ty B.2.2.1 B.2.2.2 hown hK hP hD hS q0 he B.1 j hj (hts _ hw) (fun _ h => h) hfin (B.2.2.1 j hj) hn hfit hlen hd (fun H1 locs1 hP1 hD1 hS1 => kk H1 locs1 ls hP1 hD1 hS1 hl)
theorem bV.putF (G : bG D cl tys Γ own cc nL ret "<init>" tb rm) {ci N : Nat} {C : String} {T : u_T} {ty : Nat → FieldType} (B : bCl cl ci C T N ty) (q0 j : Nat) {idx a : Nat} {fs : List Value} {v : Value} (he : ws[q0]? = some (a, .inr (ci, fs))) (hj : j < N) (hw : Cond.fieldLink own idx (T j).1 (T j).2.1 (T j).2.2.1 ∈ bw) (hfin : (T j).2.2.2 = true) (hdecl : (T j).1 = own) (hn : narrow (ty j) v = v) (hfit : fits (ty j) v = true) (hlen : j < fs.length) (hd : decode cc pc = .ok (.putfield idx, 3)) (hws : ws.set q0 (a, .inr (ci, fs.set j v)) = ws')
    (kk : bV D cl Γ nL ws' k n (pc + 3) lv rest) : bV D cl Γ nL ws k n pc lv (v :: .ref a :: rest) := by
  obtain ⟨p, l, e, R, s, m, args, below, meth, c, A, Q⟩ := Γ
  obtain ⟨hx, hb, hml, hown, hts, hK, hA, hst, hX, hlk, hret, hnm, -⟩ := G
  intro H locs ls hP hD hS hl
  subst hws
  exact va_putF (D := D) hx hb hts B.2.1 ty B.2.2.1 B.2.2.2 hown hK hP hD hS q0 he B.1 j hj (hts _ hw) (fun _ h => h) hfin hnm hdecl (B.2.2.1 j hj) hn hfit hlen hd (fun H1 locs1 hP1 hD1 hS1 => kk H1 locs1 ls hP1 hD1 hS1 hl)
theorem bV.iaload (G : bG D cl tys Γ own cc nL ret nm tb rm) (q0 t0 : Nat) {a : Nat} {cA : ClassId} {N : Nat} {f : Nat → Int32} {i : Int32} (ha : ws[q0]? = some (a, .inl (cA, N, .inl f))) (ht : tys[t0]? = some (cA, .int)) (hin : vp_in i N) (hd : decode cc pc = .ok (.iaload, 1))
    (kk : bV D cl Γ nL ws k n (pc + 1) lv (.int (f i.toNatClampNeg) :: rest)) : bV D cl Γ nL ws k n pc lv (.int i :: .ref a :: rest) := by
  obtain ⟨p, l, e, R, s, m, args, below, meth, c, A, Q⟩ := Γ
  obtain ⟨hx, hb, hml, hown, hts, hK, -⟩ := G
  intro H locs ls hP hD hS hl
  exact va_iald hx hb hK hP q0 t0 ha ht hin hd (kk H locs ls hP hD hS hl)
theorem bV.zaload (G : bG D cl tys Γ own cc nL ret nm tb rm) (q0 t0 : Nat) {a : Nat} {cA : ClassId} {N : Nat} {f : Nat → Int32} {i : Int32} (ha : ws[q0]? = some (a, .inl (cA, N, .inl f))) (ht : tys[t0]? = some (cA, .boolean)) (hin : vp_in i N) (hd : decode cc pc = .ok (.baload, 1))
    (kk : bV D cl Γ nL ws k n (pc + 1) lv (.int (f i.toNatClampNeg) :: rest)) : bV D cl Γ nL ws k n pc lv (.int i :: .ref a :: rest) := by
  obtain ⟨p, l, e, R, s, m, args, below, meth, c, A, Q⟩ := Γ
  obtain ⟨hx, hb, hml, hown, hts, hK, -⟩ := G
  intro H locs ls hP hD hS hl
  exact va_zald hx hb hK hP q0 t0 ha ht hin hd (kk H locs ls hP hD hS hl)
theorem bV.laload (G : bG D cl tys Γ own cc nL ret nm tb rm) (q0 t0 : Nat) {a : Nat} {cA : ClassId} {N : Nat} {f : Nat → Int64} {i : Int32} (ha : ws[q0]? = some (a, .inl (cA, N, .inr (.inl f)))) (ht : tys[t0]? = some (cA, .long)) (hin : vp_in i N) (hd : decode cc pc = .ok (.laload, 1))
    (kk : bV D cl Γ nL ws k n (pc + 1) lv (.long (f i.toNatClampNeg) :: rest)) : bV D cl Γ nL ws k n pc lv (.int i :: .ref a :: rest) := by
  obtain ⟨p, l, e, R, s, m, args, below, meth, c, A, Q⟩ := Γ
  obtain ⟨hx, hb, hml, hown, hts, hK, -⟩ := G
  intro H locs ls hP hD hS hl
  exact va_lald hx hb hK hP q0 t0 ha ht hin hd (kk H locs ls hP hD hS hl)
theorem bV.iastore (G : bG D cl tys Γ own cc nL ret nm tb rm) (q0 t0 : Nat) {a : Nat} {cA : ClassId} {N : Nat} {f : Nat → Int32} {i x : Int32} (ha : ws[q0]? = some (a, .inl (cA, N, .inl f))) (ht : tys[t0]? = some (cA, .int)) (hin : vp_in i N) (hd : decode cc pc = .ok (.iastore, 1)) (hws : ws.set q0 (a, .inl (cA, N, .inl (upd f i.toNatClampNeg x))) = ws')
    (kk : bV D cl Γ nL ws' k n (pc + 1) lv rest) : bV D cl Γ nL ws k n pc lv (.int x :: .int i :: .ref a :: rest) := by
  obtain ⟨p, l, e, R, s, m, args, below, meth, c, A, Q⟩ := Γ
  obtain ⟨hx, hb, hml, hown, hts, hK, -⟩ := G
  intro H locs ls hP hD hS hl
  subst hws
  exact va_iast hx hb hK hP hD hS q0 t0 ha ht hin hd (fun H1 locs1 hP1 hD1 hS1 => kk H1 locs1 ls hP1 hD1 hS1 hl)
theorem bV.zastore (G : bG D cl tys Γ own cc nL ret nm tb rm) (q0 t0 : Nat) {a : Nat} {cA : ClassId} {N : Nat} {f : Nat → Int32} {i x : Int32} (ha : ws[q0]? = some (a, .inl (cA, N, .inl f))) (ht : tys[t0]? = some (cA, .boolean)) (hin : vp_in i N) (hd : decode cc pc = .ok (.bastore, 1)) (hws : ws.set q0 (a, .inl (cA, N, .inl (upd f i.toNatClampNeg (vp_nar .boolean x)))) = ws')
    (kk : bV D cl Γ nL ws' k n (pc + 1) lv rest) : bV D cl Γ nL ws k n pc lv (.int x :: .int i :: .ref a :: rest) := by
  obtain ⟨p, l, e, R, s, m, args, below, meth, c, A, Q⟩ := Γ
  obtain ⟨hx, hb, hml, hown, hts, hK, -⟩ := G
  intro H locs ls hP hD hS hl
  subst hws
  exact va_zast hx hb hK hP hD hS q0 t0 ha ht hin hd (fun H1 locs1 hP1 hD1 hS1 => kk H1 locs1 ls hP1 hD1 hS1 hl)
theorem bV.lastore (G : bG D cl tys Γ own cc nL ret nm tb rm) (q0 t0 : Nat) {a : Nat} {cA : ClassId} {N : Nat} {f : Nat → Int64} {i : Int32} {x : Int64} (ha : ws[q0]? = some (a, .inl (cA, N, .inr (.inl f)))) (ht : tys[t0]? = some (cA, .long)) (hin : vp_in i N) (hd : decode cc pc = .ok (.lastore, 1)) (hws : ws.set q0 (a, .inl (cA, N, .inr (.inl (vp_updL f i.toNatClampNeg x)))) = ws')
    (kk : bV D cl Γ nL ws' k n (pc + 1) lv rest) : bV D cl Γ nL ws k n pc lv (.long x :: .int i :: .ref a :: rest) := by
  obtain ⟨p, l, e, R, s, m, args, below, meth, c, A, Q⟩ := Γ
  obtain ⟨hx, hb, hml, hown, hts, hK, -⟩ := G
  intro H locs ls hP hD hS hl
  subst hws
  exact va_last hx hb hK hP hD hS q0 t0 ha ht hin hd (fun H1 locs1 hP1 hD1 hS1 => kk H1 locs1 ls hP1 hD1 hS1 hl)
theorem bV.alen (G : bG D cl tys Γ own cc nL ret nm tb rm) (q0 t0 : Nat) {a : Nat} {cA : ClassId} {x : vp_A} {ty : FieldType} {v : Int32} (ha : ws[q0]? = some (a, .inl (cA, x))) (ht : tys[t0]? = some (cA, ty)) (hv : Int32.ofNat x.1 = v) (hd : decode cc pc = .ok (.arraylength, 1))
    (kk : bV D cl Γ nL ws k n (pc + 1) lv (.int v :: rest)) : bV D cl Γ nL ws k n pc lv (.ref a :: rest) := by
  obtain ⟨p, l, e, R, s, m, args, below, meth, c, A, Q⟩ := Γ
  obtain ⟨hx, hb, hml, hown, hts, hK, -⟩ := G
  intro H locs ls hP hD hS hl
  exact va_alen hx hb hK hP q0 t0 ha ht hv hd (kk H locs ls hP hD hS hl)
theorem bV.newarray (G : bG D cl tys Γ own cc nL ret nm tb rm) (t0 : Nat) {atype : ArrayType} {ty : FieldType} {cA : ClassId} (hw : Cond.arrayClass (newarray.typeOf atype) ∈ bw) (hty : newarray.typeOf atype = ty) (hpr : ∀ C, ty ≠ .object C) (ht : tys[t0]? = some (cA, ty))
    {i : Int32} {N : Nat} {a0 : vp_A} (ha : ∀ cA : ClassId, vp_cell cA a0 = arrV cA N (fun _ => defaultValue ty)) (hi : ¬ i < 0) (hN : i.toNatClampNeg = N) (hby : N * componentBytes ty ≤ 536870912) (hc : k + 1 ≤ rm.cells) (hs : n + N ≤ rm.slots) (hd : decode cc pc = .ok (.newarray atype, 2))
    (kk : ∀ q : Nat, bV D cl Γ nL (ws ++ [(q, .inl (cA, a0))]) (k + 1) (n + N) (pc + 2) lv (.ref q :: rest)) : bV D cl Γ nL ws k n pc lv (.int i :: rest) := by
  obtain ⟨p, l, e, R, s, m, args, below, meth, c, A, Q⟩ := Γ
  obtain ⟨hx, hb, hml, hown, hts, hK, hA, hst, hX, hlk, hret, hnm, htab, hR, htr⟩ := G
  intro H locs ls hP hD hS hl
  subst hR
  refine va_newa hx hb (hts _ hw) hty hK hP hD hS hA ha hi hN hby hc hs hd (fun q cA' H1 hK1 hP1 hD1 hS1 => ?_)
  have e1 := (hK.2 t0 _ ht).2
  have e2 := (hK1.2 tys.length (cA', ty) (by simp)).2
  have e3 : cA' = cA := by
    cases ty with
    | object C => exact absurd rfl (hpr C)
    | _ => exact Option.some.inj (e2.symm.trans e1)
  subst e3
  exact kk q H1 locs ls hP1 hD1 hS1 hl
theorem bV.new (G : bG D cl tys Γ own cc nL ret nm tb rm) {ci N : Nat} {C : String} {T : u_T} {ty : Nat → FieldType} (B : bCl cl ci C T N ty) {idx : Nat} {fs : List Value} (hw : Cond.classLink own idx C ∈ bw) (hw2 : Cond.instantiable C N ∈ bw) (hw3 : Cond.initialized C ∈ bw) (hfs : ∀ j, j < N → defaultValue (ty j) = vp_V fs j) (hc : k + 1 ≤ rm.cells) (hs : n + N ≤ rm.slots) (hd : decode cc pc = .ok (.new idx, 3))
    (kk : ∀ q : Nat, bV D cl Γ nL (ws ++ [(q, .inr (ci, fs))]) (k + 1) (n + N) (pc + 3) lv (.ref q :: rest)) : bV D cl Γ nL ws k n pc lv rest := by
  obtain ⟨p, l, e, R, s, m, args, below, meth, c, A, Q⟩ := Γ
  obtain ⟨hx, hb, hml, hown, hts, hK, hA, hst, hX, hlk, hret, hnm, htab, hR, htr⟩ := G
  intro H locs ls hP hD hS hl
  subst hR
  exact va_new hx hb hts B.2.1 ty B.2.2.1 hown (hts _ hw) (hts _ hw2) (hts _ hw3) hK hP hD hS hA B.1 hfs hc hs hd (fun q H1 hP1 hD1 hS1 => kk q H1 locs ls hP1 hD1 hS1 hl)
theorem bV.objInit (G : bG D cl tys Γ own cc nL ret nm tb rm) {idx a : Nat} (hw : Cond.methodLink own idx objectInit ∈ bw) (hw2 : Cond.instanceMethod objectInit ∈ bw) (hw3 : Cond.code objectInit ⟨#[0xb1]⟩ 1 none ∈ bw) (hf : 1 ≤ rm.frames) (hlo : (rest.map fun v => v.category).sum + 12 ≤ rm.locals) (hd : decode cc pc = .ok (.invokespecial idx, 3))
    (kk : bV D cl Γ nL ws k n (pc + 3) lv rest) : bV D cl Γ nL ws k n pc lv (.ref a :: rest) := by
  obtain ⟨p, l, e, R, s, m, args, below, meth, c, A, Q⟩ := Γ
  obtain ⟨hx, hb, hml, hown, hts, hK, hA, hst, hX, hlk, hret, hnm, htab, hR, htr⟩ := G
  intro H locs ls hP hD hS hl
  subst hR
  exact W.objInit hx hb hown (hts _ hw) (hts _ hw2) (hts _ hw3) rfl (by rw [hml]; exact hl.1) rfl hd hf (by show 2 * 0 + _ + 12 ≤ _; omega) (kk H locs ls hP hD hS hl)
theorem bV.mmax (G : bG D cl tys Γ own cc nL ret nm tb rm) {idx : Nat} {x y : Int32} (hw : Cond.methodLink own idx Lib.Math.max.name ∈ bw) (hw2 : Cond.static Lib.Math.max.name ∈ bw) (hw3 : Cond.initialized "java/lang/Math" ∈ bw) (hw4 : Cond.code Lib.Math.max.name Lib.Math.max.code 2 (some .int) ∈ bw) (hf : 1 ≤ rm.frames) (hlo : (rest.map fun v => v.category).sum + 13 ≤ rm.locals) (hc : k ≤ rm.cells) (hs : n ≤ rm.slots) (hd : decode cc pc = .ok (.invokestatic idx, 3))
    (kk : bV D cl Γ nL ws k n (pc + 3) lv (.int (if x < y then y else x) :: rest)) : bV D cl Γ nL ws k n pc lv (.int y :: .int x :: rest) := by
  obtain ⟨p, l, e, R, s, m, args, below, meth, c, A, Q⟩ := Γ
  obtain ⟨hx, hb, hml, hown, hts, hK, hA, hst, hX, hlk, hret, hnm, htab, hR, htr⟩ := G
  intro H locs ls hP hD hS hl
  subst hR
  exact va_mmax hx hb (hml.trans hl.1.symm) hown (hts _ hw) (hts _ hw2) (hts _ hw3) (hts _ hw4) hf hlo hc hs hd (kk H locs ls hP hD hS hl)
theorem bV.mmin (G : bG D cl tys Γ own cc nL ret nm tb rm) {idx : Nat} {x y : Int32} (hw : Cond.methodLink own idx Lib.Math.min.name ∈ bw) (hw2 : Cond.static Lib.Math.min.name ∈ bw) (hw3 : Cond.initialized "java/lang/Math" ∈ bw) (hw4 : Cond.code Lib.Math.min.name Lib.Math.min.code 2 (some .int) ∈ bw) (hf : 1 ≤ rm.frames) (hlo : (rest.map fun v => v.category).sum + 13 ≤ rm.locals) (hc : k ≤ rm.cells) (hs : n ≤ rm.slots) (hd : decode cc pc = .ok (.invokestatic idx, 3))
    (kk : bV D cl Γ nL ws k n (pc + 3) lv (.int (if y < x then y else x) :: rest)) : bV D cl Γ nL ws k n pc lv (.int y :: .int x :: rest) := by
  obtain ⟨p, l, e, R, s, m, args, below, meth, c, A, Q⟩ := Γ
  obtain ⟨hx, hb, hml, hown, hts, hK, hA, hst, hX, hlk, hret, hnm, htab, hR, htr⟩ := G
  intro H locs ls hP hD hS hl
  subst hR
  exact va_mmin hx hb (hml.trans hl.1.symm) hown (hts _ hw) (hts _ hw2) (hts _ hw3) (hts _ hw4) hf hlo hc hs hd (kk H locs ls hP hD hS hl)
-- returns
theorem bV.iret (G : bG D cl tys Γ own cc nL ret nm tb rm) (E0 : bE D cl Γ ws0 post rm) {ty : FieldType} {v : Int32} (hr : ret = some ty) (hn : narrow ty (.int v) = .int v) (h1 : k ≤ rm.cells) (h2 : n ≤ rm.slots) (hd : decode cc pc = .ok (.ireturn, 1)) (hp : post (.inl (some (.int v))) ws) : bV D cl Γ nL ws k n pc lv [.int v] := by
  obtain ⟨p, l, e, R, s, m, args, below, meth, c, A, Q⟩ := Γ
  obtain ⟨hx, hb, hml, hown, hts, hK, hA, hst, hX, hlk, hret, hnm, htab, hR, htr⟩ := G
  obtain ⟨rfl, rfl⟩ := E0
  intro H locs ls hP hD hS hl
  refine W.widen h1 h2 (bW_mono (fun t h => bMQ_of h) ?_)
  exact W.zret hx hb (hret.trans hr) hn (fun t ht hW => ⟨.inl (some (.int v)), ws, rfl, hp, by rw [ht]; exact hP, hD, hS.F ht⟩) hS.2.2 hd hlk
theorem bV.vret (G : bG D cl tys Γ own cc nL ret nm tb rm) (E0 : bE D cl Γ ws0 post rm) (hr : ret = none) (h1 : k ≤ rm.cells) (h2 : n ≤ rm.slots) (hd : decode cc pc = .ok (.return_, 1)) (hp : post (.inl none) ws) : bV D cl Γ nL ws k n pc lv [] := by
  obtain ⟨p, l, e, R, s, m, args, below, meth, c, A, Q⟩ := Γ
  obtain ⟨hx, hb, hml, hown, hts, hK, hA, hst, hX, hlk, hret, hnm, htab, hR, htr⟩ := G
  obtain ⟨rfl, rfl⟩ := E0
  intro H locs ls hP hD hS hl
  refine W.widen h1 h2 (bW_mono (fun t h => bMQ_of h) ?_)
  exact W.vret hx hb (hret.trans hr) (fun t ht hW => ⟨.inl none, ws, rfl, hp, by rw [ht]; exact hP, hD, hS.F ht⟩) hS.2.2 hd hlk
end BVH
