section BVR
variable {D : va_G} {cl : List vw_C} {tys : List (ClassId × FieldType)} {Γ : bCtx} {own : String} {cc : ByteArray} {nL : Nat} {ret : Option FieldType} {nm : String} {tb : bTb} {rm : Room} {ws : va_W} {k n pc : Nat} {lv : List (Nat × Value)} {rest : List Value}
theorem bV.iconst (G : bG D cl tys Γ own cc nL ret nm tb rm) {i : Int} {v : Int32} (hd : decode cc pc = .ok (.iconst i, 1)) (hv : Int32.ofInt i = v) (kk : bV D cl Γ nL ws k n (pc + 1) lv (.int v :: rest)) : bV D cl Γ nL ws k n (pc) lv (rest) := by
  obtain ⟨p, l, e, R, s, m, args, below, meth, c, A, Q⟩ := Γ
  obtain ⟨hx, hb, hml, hown, hts, -⟩ := G
  intro H locs ls hP hD hS hl
  exact lv_iconst hx hb hd hv (kk H locs ls hP hD hS hl)
theorem bV.bipush (G : bG D cl tys Γ own cc nL ret nm tb rm) {i : Int} {v : Int32} (hd : decode cc pc = .ok (.bipush i, 2)) (hv : (Int8.ofInt i).toInt32 = v) (kk : bV D cl Γ nL ws k n (pc + 2) lv (.int v :: rest)) : bV D cl Γ nL ws k n (pc) lv (rest) := by
  obtain ⟨p, l, e, R, s, m, args, below, meth, c, A, Q⟩ := Γ
  obtain ⟨hx, hb, hml, hown, hts, -⟩ := G
  intro H locs ls hP hD hS hl
  exact lv_bipush hx hb hd hv (kk H locs ls hP hD hS hl)
theorem bV.sipush (G : bG D cl tys Γ own cc nL ret nm tb rm) {i : Int} {v : Int32} (hd : decode cc pc = .ok (.sipush i, 3)) (hv : (Int16.ofInt i).toInt32 = v) (kk : bV D cl Γ nL ws k n (pc + 3) lv (.int v :: rest)) : bV D cl Γ nL ws k n (pc) lv (rest) := by
  obtain ⟨p, l, e, R, s, m, args, below, meth, c, A, Q⟩ := Γ
  obtain ⟨hx, hb, hml, hown, hts, -⟩ := G
  intro H locs ls hP hD hS hl
  exact lv_sipush hx hb hd hv (kk H locs ls hP hD hS hl)
theorem bV.lconst (G : bG D cl tys Γ own cc nL ret nm tb rm) {i : Fin 2} {v : Int64} (hd : decode cc pc = .ok (.lconst i, 1)) (hv : Int64.ofNat (i : Nat) = v) (kk : bV D cl Γ nL ws k n (pc + 1) lv (.long v :: rest)) : bV D cl Γ nL ws k n (pc) lv (rest) := by
  obtain ⟨p, l, e, R, s, m, args, below, meth, c, A, Q⟩ := Γ
  obtain ⟨hx, hb, hml, hown, hts, -⟩ := G
  intro H locs ls hP hD hS hl
  exact lv_lconst hx hb hd hv (kk H locs ls hP hD hS hl)
theorem bV.ldc (G : bG D cl tys Γ own cc nL ret nm tb rm) {i : Nat} {v : Int32} (hd : decode cc pc = .ok (.ldc i, 2)) (hw : Jvm.Cond.constant own i v ∈ bw) (kk : bV D cl Γ nL ws k n (pc + 2) lv (.int v :: rest)) : bV D cl Γ nL ws k n (pc) lv (rest) := by
  obtain ⟨p, l, e, R, s, m, args, below, meth, c, A, Q⟩ := Γ
  obtain ⟨hx, hb, hml, hown, hts, -⟩ := G
  intro H locs ls hP hD hS hl
  exact lv_ldc hx hb hown (hts _ hw) hd (kk H locs ls hP hD hS hl)
theorem bV.iload_n (G : bG D cl tys Γ own cc nL ret nm tb rm) {i : Fin 4} {x : Int32} (hd : decode cc pc = .ok (.iload_n i, 1)) (hg : bl_get lv (i : Nat) = some (.int x)) (kk : bV D cl Γ nL ws k n (pc + 1) lv (.int x :: rest)) : bV D cl Γ nL ws k n (pc) lv (rest) := by
  obtain ⟨p, l, e, R, s, m, args, below, meth, c, A, Q⟩ := Γ
  obtain ⟨hx, hb, hml, hown, hts, -⟩ := G
  intro H locs ls hP hD hS hl
  exact lv_iload_n hx hb hd rfl (bl_at hl hg) (kk H locs ls hP hD hS hl)
theorem bV.iload (G : bG D cl tys Γ own cc nL ret nm tb rm) {i : Nat} {x : Int32} (hd : decode cc pc = .ok (.iload i, 2)) (hg : bl_get lv i = some (.int x)) (kk : bV D cl Γ nL ws k n (pc + 2) lv (.int x :: rest)) : bV D cl Γ nL ws k n (pc) lv (rest) := by
  obtain ⟨p, l, e, R, s, m, args, below, meth, c, A, Q⟩ := Γ
  obtain ⟨hx, hb, hml, hown, hts, -⟩ := G
  intro H locs ls hP hD hS hl
  exact lv_iload hx hb hd (bl_at hl hg) (kk H locs ls hP hD hS hl)
theorem bV.istore_n (G : bG D cl tys Γ own cc nL ret nm tb rm) {i : Fin 4} {x : Int32} {lv' : List (Nat × Value)} (hd : decode cc pc = .ok (.istore_n i, 1)) (hn : (i : Nat) < nL) (hc : lv.all (fun q => q.2.category == 1) = true) (he : bl_set lv (i : Nat) (.int x) = lv') (kk : bV D cl Γ nL ws k n (pc + 1) lv' (rest)) : bV D cl Γ nL ws k n (pc) lv (.int x :: rest) := by
  obtain ⟨p, l, e, R, s, m, args, below, meth, c, A, Q⟩ := Γ
  obtain ⟨hx, hb, hml, hown, hts, -⟩ := G
  intro H locs ls hP hD hS hl
  exact lv_istore_n hx hb hd rfl hl hn rfl (fun ls' hl' => kk H locs ls' hP hD hS (bl_put hl' hc he))
theorem bV.istore (G : bG D cl tys Γ own cc nL ret nm tb rm) {i : Nat} {x : Int32} {lv' : List (Nat × Value)} (hd : decode cc pc = .ok (.istore i, 2)) (hn : i < nL) (hc : lv.all (fun q => q.2.category == 1) = true) (he : bl_set lv i (.int x) = lv') (kk : bV D cl Γ nL ws k n (pc + 2) lv' (rest)) : bV D cl Γ nL ws k n (pc) lv (.int x :: rest) := by
  obtain ⟨p, l, e, R, s, m, args, below, meth, c, A, Q⟩ := Γ
  obtain ⟨hx, hb, hml, hown, hts, -⟩ := G
  intro H locs ls hP hD hS hl
  exact lv_istore hx hb hd hl hn rfl (fun ls' hl' => kk H locs ls' hP hD hS (bl_put hl' hc he))
theorem bV.aload_n (G : bG D cl tys Γ own cc nL ret nm tb rm) {i : Fin 4} {x : Nat} (hd : decode cc pc = .ok (.aload_n i, 1)) (hg : bl_get lv (i : Nat) = some (.ref x)) (kk : bV D cl Γ nL ws k n (pc + 1) lv (.ref x :: rest)) : bV D cl Γ nL ws k n (pc) lv (rest) := by
  obtain ⟨p, l, e, R, s, m, args, below, meth, c, A, Q⟩ := Γ
  obtain ⟨hx, hb, hml, hown, hts, -⟩ := G
  intro H locs ls hP hD hS hl
  exact lv_aload_n hx hb hd rfl (bl_at hl hg) (kk H locs ls hP hD hS hl)
theorem bV.aload (G : bG D cl tys Γ own cc nL ret nm tb rm) {i : Nat} {x : Nat} (hd : decode cc pc = .ok (.aload i, 2)) (hg : bl_get lv i = some (.ref x)) (kk : bV D cl Γ nL ws k n (pc + 2) lv (.ref x :: rest)) : bV D cl Γ nL ws k n (pc) lv (rest) := by
  obtain ⟨p, l, e, R, s, m, args, below, meth, c, A, Q⟩ := Γ
  obtain ⟨hx, hb, hml, hown, hts, -⟩ := G
  intro H locs ls hP hD hS hl
  exact lv_aload hx hb hd (bl_at hl hg) (kk H locs ls hP hD hS hl)
theorem bV.astore_n (G : bG D cl tys Γ own cc nL ret nm tb rm) {i : Fin 4} {x : Nat} {lv' : List (Nat × Value)} (hd : decode cc pc = .ok (.astore_n i, 1)) (hn : (i : Nat) < nL) (hc : lv.all (fun q => q.2.category == 1) = true) (he : bl_set lv (i : Nat) (.ref x) = lv') (kk : bV D cl Γ nL ws k n (pc + 1) lv' (rest)) : bV D cl Γ nL ws k n (pc) lv (.ref x :: rest) := by
  obtain ⟨p, l, e, R, s, m, args, below, meth, c, A, Q⟩ := Γ
  obtain ⟨hx, hb, hml, hown, hts, -⟩ := G
  intro H locs ls hP hD hS hl
  exact lv_astore_n hx hb hd rfl hl hn rfl (fun ls' hl' => kk H locs ls' hP hD hS (bl_put hl' hc he))
theorem bV.astore (G : bG D cl tys Γ own cc nL ret nm tb rm) {i : Nat} {x : Nat} {lv' : List (Nat × Value)} (hd : decode cc pc = .ok (.astore i, 2)) (hn : i < nL) (hc : lv.all (fun q => q.2.category == 1) = true) (he : bl_set lv i (.ref x) = lv') (kk : bV D cl Γ nL ws k n (pc + 2) lv' (rest)) : bV D cl Γ nL ws k n (pc) lv (.ref x :: rest) := by
  obtain ⟨p, l, e, R, s, m, args, below, meth, c, A, Q⟩ := Γ
  obtain ⟨hx, hb, hml, hown, hts, -⟩ := G
  intro H locs ls hP hD hS hl
  exact lv_astore hx hb hd hl hn rfl (fun ls' hl' => kk H locs ls' hP hD hS (bl_put hl' hc he))
theorem bl_idx {lv : List (Nat × Value)} {i : Nat} {v : Value} (h : bl_get lv i = some v) : ∃ j : Nat, lv[j]? = some (i, v) := List.getElem?_of_mem (bl_mem lv i v h)
theorem bV.iinc (G : bG D cl tys Γ own cc nL ret nm tb rm) {i : Nat} {d : Int} {x v : Int32} {lv' : List (Nat × Value)} (hd : decode cc pc = .ok (.iinc i d, 3)) (hg : bl_get lv i = some (.int x)) (hv : x + Int32.ofInt d = v) (hn : i < nL) (hc : lv.all (fun q => q.2.category == 1) = true) (he : bl_set lv i (.int v) = lv') (kk : bV D cl Γ nL ws k n (pc + 3) lv' (rest)) : bV D cl Γ nL ws k n (pc) lv (rest) := by
  obtain ⟨p, l, e, R, s, m, args, below, meth, c, A, Q⟩ := Γ
  obtain ⟨hx, hb, hml, hown, hts, -⟩ := G
  intro H locs ls hP hD hS hl
  obtain ⟨j, hj⟩ := bl_idx hg
  exact lv_iinc hx hb hd hl hj hv hn rfl (fun ls' hl' => kk H locs ls' hP hD hS (bl_put hl' hc he))
theorem bV.iadd (G : bG D cl tys Γ own cc nL ret nm tb rm) {x y : Int32} (hd : decode cc pc = .ok (.iadd, 1)) (kk : bV D cl Γ nL ws k n (pc + 1) lv (.int (x + y) :: rest)) : bV D cl Γ nL ws k n (pc) lv (.int y :: .int x :: rest) := by
  obtain ⟨p, l, e, R, s, m, args, below, meth, c, A, Q⟩ := Γ
  obtain ⟨hx, hb, hml, hown, hts, -⟩ := G
  intro H locs ls hP hD hS hl
  exact lv_iadd hx hb hd (kk H locs ls hP hD hS hl)
theorem bV.isub (G : bG D cl tys Γ own cc nL ret nm tb rm) {x y : Int32} (hd : decode cc pc = .ok (.isub, 1)) (kk : bV D cl Γ nL ws k n (pc + 1) lv (.int (x - y) :: rest)) : bV D cl Γ nL ws k n (pc) lv (.int y :: .int x :: rest) := by
  obtain ⟨p, l, e, R, s, m, args, below, meth, c, A, Q⟩ := Γ
  obtain ⟨hx, hb, hml, hown, hts, -⟩ := G
  intro H locs ls hP hD hS hl
  exact lv_isub hx hb hd (kk H locs ls hP hD hS hl)
theorem bV.imul (G : bG D cl tys Γ own cc nL ret nm tb rm) {x y : Int32} (hd : decode cc pc = .ok (.imul, 1)) (kk : bV D cl Γ nL ws k n (pc + 1) lv (.int (x * y) :: rest)) : bV D cl Γ nL ws k n (pc) lv (.int y :: .int x :: rest) := by
  obtain ⟨p, l, e, R, s, m, args, below, meth, c, A, Q⟩ := Γ
  obtain ⟨hx, hb, hml, hown, hts, -⟩ := G
  intro H locs ls hP hD hS hl
  exact lv_imul hx hb hd (kk H locs ls hP hD hS hl)
theorem bV.iand (G : bG D cl tys Γ own cc nL ret nm tb rm) {x y : Int32} (hd : decode cc pc = .ok (.iand, 1)) (kk : bV D cl Γ nL ws k n (pc + 1) lv (.int (x &&& y) :: rest)) : bV D cl Γ nL ws k n (pc) lv (.int y :: .int x :: rest) := by
  obtain ⟨p, l, e, R, s, m, args, below, meth, c, A, Q⟩ := Γ
  obtain ⟨hx, hb, hml, hown, hts, -⟩ := G
  intro H locs ls hP hD hS hl
  exact lv_iand hx hb hd (kk H locs ls hP hD hS hl)
theorem bV.ior (G : bG D cl tys Γ own cc nL ret nm tb rm) {x y : Int32} (hd : decode cc pc = .ok (.ior, 1)) (kk : bV D cl Γ nL ws k n (pc + 1) lv (.int (x ||| y) :: rest)) : bV D cl Γ nL ws k n (pc) lv (.int y :: .int x :: rest) := by
  obtain ⟨p, l, e, R, s, m, args, below, meth, c, A, Q⟩ := Γ
  obtain ⟨hx, hb, hml, hown, hts, -⟩ := G
  intro H locs ls hP hD hS hl
  exact lv_ior hx hb hd (kk H locs ls hP hD hS hl)
theorem bV.ixor (G : bG D cl tys Γ own cc nL ret nm tb rm) {x y : Int32} (hd : decode cc pc = .ok (.ixor, 1)) (kk : bV D cl Γ nL ws k n (pc + 1) lv (.int (x ^^^ y) :: rest)) : bV D cl Γ nL ws k n (pc) lv (.int y :: .int x :: rest) := by
  obtain ⟨p, l, e, R, s, m, args, below, meth, c, A, Q⟩ := Γ
  obtain ⟨hx, hb, hml, hown, hts, -⟩ := G
  intro H locs ls hP hD hS hl
  exact lv_ixor hx hb hd (kk H locs ls hP hD hS hl)
theorem bV.ishl (G : bG D cl tys Γ own cc nL ret nm tb rm) {x y : Int32} (hd : decode cc pc = .ok (.ishl, 1)) (kk : bV D cl Γ nL ws k n (pc + 1) lv (.int (x <<< (y &&& 31)) :: rest)) : bV D cl Γ nL ws k n (pc) lv (.int y :: .int x :: rest) := by
  obtain ⟨p, l, e, R, s, m, args, below, meth, c, A, Q⟩ := Γ
  obtain ⟨hx, hb, hml, hown, hts, -⟩ := G
  intro H locs ls hP hD hS hl
  exact lv_ishl hx hb hd (kk H locs ls hP hD hS hl)
theorem bV.ishr (G : bG D cl tys Γ own cc nL ret nm tb rm) {x y : Int32} (hd : decode cc pc = .ok (.ishr, 1)) (kk : bV D cl Γ nL ws k n (pc + 1) lv (.int (x >>> (y &&& 31)) :: rest)) : bV D cl Γ nL ws k n (pc) lv (.int y :: .int x :: rest) := by
  obtain ⟨p, l, e, R, s, m, args, below, meth, c, A, Q⟩ := Γ
  obtain ⟨hx, hb, hml, hown, hts, -⟩ := G
  intro H locs ls hP hD hS hl
  exact lv_ishr hx hb hd (kk H locs ls hP hD hS hl)
theorem bV.iushr (G : bG D cl tys Γ own cc nL ret nm tb rm) {x y : Int32} (hd : decode cc pc = .ok (.iushr, 1)) (kk : bV D cl Γ nL ws k n (pc + 1) lv (.int (x.toUInt32 >>> (y.toUInt32 &&& Int32.toUInt32 31)).toInt32 :: rest)) : bV D cl Γ nL ws k n (pc) lv (.int y :: .int x :: rest) := by
  obtain ⟨p, l, e, R, s, m, args, below, meth, c, A, Q⟩ := Γ
  obtain ⟨hx, hb, hml, hown, hts, -⟩ := G
  intro H locs ls hP hD hS hl
  exact lv_iushr hx hb hd rfl (kk H locs ls hP hD hS hl)
theorem bV.ineg (G : bG D cl tys Γ own cc nL ret nm tb rm) {x : Int32} (hd : decode cc pc = .ok (.ineg, 1)) (kk : bV D cl Γ nL ws k n (pc + 1) lv (.int (-x) :: rest)) : bV D cl Γ nL ws k n (pc) lv (.int x :: rest) := by
  obtain ⟨p, l, e, R, s, m, args, below, meth, c, A, Q⟩ := Γ
  obtain ⟨hx, hb, hml, hown, hts, -⟩ := G
  intro H locs ls hP hD hS hl
  exact lv_ineg hx hb hd (kk H locs ls hP hD hS hl)
theorem bV.i2l (G : bG D cl tys Γ own cc nL ret nm tb rm) {x : Int32} (hd : decode cc pc = .ok (.i2l, 1)) (kk : bV D cl Γ nL ws k n (pc + 1) lv (.long x.toInt64 :: rest)) : bV D cl Γ nL ws k n (pc) lv (.int x :: rest) := by
  obtain ⟨p, l, e, R, s, m, args, below, meth, c, A, Q⟩ := Γ
  obtain ⟨hx, hb, hml, hown, hts, -⟩ := G
  intro H locs ls hP hD hS hl
  exact lv_i2l hx hb hd rfl (kk H locs ls hP hD hS hl)
theorem bV.lcmp (G : bG D cl tys Γ own cc nL ret nm tb rm) {x y : Int64} (hd : decode cc pc = .ok (.lcmp, 1)) (kk : bV D cl Γ nL ws k n (pc + 1) lv (.int (lg_cmp x y) :: rest)) : bV D cl Γ nL ws k n (pc) lv (.long y :: .long x :: rest) := by
  obtain ⟨p, l, e, R, s, m, args, below, meth, c, A, Q⟩ := Γ
  obtain ⟨hx, hb, hml, hown, hts, -⟩ := G
  intro H locs ls hP hD hS hl
  exact W.lcmp hx hb hd (kk H locs ls hP hD hS hl)
theorem bV.dup (G : bG D cl tys Γ own cc nL ret nm tb rm) {va : Value} (hd : decode cc pc = .ok (.dup, 1)) (hva : va.category = 1) (kk : bV D cl Γ nL ws k n (pc + 1) lv (va :: va :: rest)) : bV D cl Γ nL ws k n (pc) lv (va :: rest) := by
  obtain ⟨p, l, e, R, s, m, args, below, meth, c, A, Q⟩ := Γ
  obtain ⟨hx, hb, hml, hown, hts, -⟩ := G
  intro H locs ls hP hD hS hl
  exact lv_dup hx hb hd hva (kk H locs ls hP hD hS hl)
theorem bV.pop (G : bG D cl tys Γ own cc nL ret nm tb rm) {va : Value} (hd : decode cc pc = .ok (.pop, 1)) (hva : va.category = 1) (kk : bV D cl Γ nL ws k n (pc + 1) lv (rest)) : bV D cl Γ nL ws k n (pc) lv (va :: rest) := by
  obtain ⟨p, l, e, R, s, m, args, below, meth, c, A, Q⟩ := Γ
  obtain ⟨hx, hb, hml, hown, hts, -⟩ := G
  intro H locs ls hP hD hS hl
  exact lv_pop hx hb hd hva (kk H locs ls hP hD hS hl)
theorem bV.dup_x1 (G : bG D cl tys Γ own cc nL ret nm tb rm) {va vb : Value} (hd : decode cc pc = .ok (.dup_x1, 1)) (hva : va.category = 1) (hvb : vb.category = 1) (kk : bV D cl Γ nL ws k n (pc + 1) lv (va :: vb :: va :: rest)) : bV D cl Γ nL ws k n (pc) lv (va :: vb :: rest) := by
  obtain ⟨p, l, e, R, s, m, args, below, meth, c, A, Q⟩ := Γ
  obtain ⟨hx, hb, hml, hown, hts, -⟩ := G
  intro H locs ls hP hD hS hl
  exact lv_dup_x1 hx hb hd hva hvb (kk H locs ls hP hD hS hl)
theorem bV.dup_x2 (G : bG D cl tys Γ own cc nL ret nm tb rm) {va vb vd : Value} (hd : decode cc pc = .ok (.dup_x2, 1)) (hva : va.category = 1) (hvb : vb.category = 1) (hvd : vd.category = 1) (kk : bV D cl Γ nL ws k n (pc + 1) lv (va :: vb :: vd :: va :: rest)) : bV D cl Γ nL ws k n (pc) lv (va :: vb :: vd :: rest) := by
  obtain ⟨p, l, e, R, s, m, args, below, meth, c, A, Q⟩ := Γ
  obtain ⟨hx, hb, hml, hown, hts, -⟩ := G
  intro H locs ls hP hD hS hl
  exact lv_dup_x2 hx hb hd hva hvb hvd (kk H locs ls hP hD hS hl)
theorem bV.dup2 (G : bG D cl tys Γ own cc nL ret nm tb rm) {va vb : Value} (hd : decode cc pc = .ok (.dup2, 1)) (hva : va.category = 1) (hvb : vb.category = 1) (kk : bV D cl Γ nL ws k n (pc + 1) lv (va :: vb :: va :: vb :: rest)) : bV D cl Γ nL ws k n (pc) lv (va :: vb :: rest) := by
  obtain ⟨p, l, e, R, s, m, args, below, meth, c, A, Q⟩ := Γ
  obtain ⟨hx, hb, hml, hown, hts, -⟩ := G
  intro H locs ls hP hD hS hl
  exact lv_dup2_11 hx hb hd hva hvb (kk H locs ls hP hD hS hl)
theorem bV.goto (G : bG D cl tys Γ own cc nL ret nm tb rm) {off : Int} {tgt : Nat} (hd : decode cc pc = .ok (.goto off, 3)) (ht : (pc : Int) + off = (tgt : Int)) (kk : bV D cl Γ nL ws k n (tgt) lv (rest)) : bV D cl Γ nL ws k n (pc) lv (rest) := by
  obtain ⟨p, l, e, R, s, m, args, below, meth, c, A, Q⟩ := Γ
  obtain ⟨hx, hb, hml, hown, hts, -⟩ := G
  intro H locs ls hP hD hS hl
  exact lv_goto hx hb hd ht (kk H locs ls hP hD hS hl)
theorem bV.if_eq (G : bG D cl tys Γ own cc nL ret nm tb rm) {x : Int32} {off : Int} {tgt : Nat} (hd : decode cc pc = .ok (.ifCond .eq off, 3)) (ht : (pc : Int) + off = (tgt : Int)) (kt : x = 0 → bV D cl Γ nL ws k n (tgt) lv (rest)) (kf : ¬ x = 0 → bV D cl Γ nL ws k n (pc + 3) lv (rest)) : bV D cl Γ nL ws k n (pc) lv (.int x :: rest) := by
  obtain ⟨p, l, e, R, s, m, args, below, meth, c, A, Q⟩ := Γ
  obtain ⟨hx, hb, hml, hown, hts, -⟩ := G
  intro H locs ls hP hD hS hl
  exact lv_if_eq hx hb hd ht (fun h => kt h H locs ls hP hD hS hl) (fun h => kf h H locs ls hP hD hS hl)
theorem bV.if_ne (G : bG D cl tys Γ own cc nL ret nm tb rm) {x : Int32} {off : Int} {tgt : Nat} (hd : decode cc pc = .ok (.ifCond .ne off, 3)) (ht : (pc : Int) + off = (tgt : Int)) (kt : ¬ x = 0 → bV D cl Γ nL ws k n (tgt) lv (rest)) (kf : x = 0 → bV D cl Γ nL ws k n (pc + 3) lv (rest)) : bV D cl Γ nL ws k n (pc) lv (.int x :: rest) := by
  obtain ⟨p, l, e, R, s, m, args, below, meth, c, A, Q⟩ := Γ
  obtain ⟨hx, hb, hml, hown, hts, -⟩ := G
  intro H locs ls hP hD hS hl
  exact lv_if_ne hx hb hd ht (fun h => kt h H locs ls hP hD hS hl) (fun h => kf h H locs ls hP hD hS hl)
theorem bV.if_lt (G : bG D cl tys Γ own cc nL ret nm tb rm) {x : Int32} {off : Int} {tgt : Nat} (hd : decode cc pc = .ok (.ifCond .lt off, 3)) (ht : (pc : Int) + off = (tgt : Int)) (kt : x < 0 → bV D cl Γ nL ws k n (tgt) lv (rest)) (kf : ¬ x < 0 → bV D cl Γ nL ws k n (pc + 3) lv (rest)) : bV D cl Γ nL ws k n (pc) lv (.int x :: rest) := by
  obtain ⟨p, l, e, R, s, m, args, below, meth, c, A, Q⟩ := Γ
  obtain ⟨hx, hb, hml, hown, hts, -⟩ := G
  intro H locs ls hP hD hS hl
  exact lv_if_lt hx hb hd ht (fun h => kt h H locs ls hP hD hS hl) (fun h => kf h H locs ls hP hD hS hl)
theorem bV.if_ge (G : bG D cl tys Γ own cc nL ret nm tb rm) {x : Int32} {off : Int} {tgt : Nat} (hd : decode cc pc = .ok (.ifCond .ge off, 3)) (ht : (pc : Int) + off = (tgt : Int)) (kt : 0 ≤ x → bV D cl Γ nL ws k n (tgt) lv (rest)) (kf : ¬ 0 ≤ x → bV D cl Γ nL ws k n (pc + 3) lv (rest)) : bV D cl Γ nL ws k n (pc) lv (.int x :: rest) := by
  obtain ⟨p, l, e, R, s, m, args, below, meth, c, A, Q⟩ := Γ
  obtain ⟨hx, hb, hml, hown, hts, -⟩ := G
  intro H locs ls hP hD hS hl
  exact lv_if_ge hx hb hd ht (fun h => kt h H locs ls hP hD hS hl) (fun h => kf h H locs ls hP hD hS hl)
theorem bV.if_gt (G : bG D cl tys Γ own cc nL ret nm tb rm) {x : Int32} {off : Int} {tgt : Nat} (hd : decode cc pc = .ok (.ifCond .gt off, 3)) (ht : (pc : Int) + off = (tgt : Int)) (kt : 0 < x → bV D cl Γ nL ws k n (tgt) lv (rest)) (kf : ¬ 0 < x → bV D cl Γ nL ws k n (pc + 3) lv (rest)) : bV D cl Γ nL ws k n (pc) lv (.int x :: rest) := by
  obtain ⟨p, l, e, R, s, m, args, below, meth, c, A, Q⟩ := Γ
  obtain ⟨hx, hb, hml, hown, hts, -⟩ := G
  intro H locs ls hP hD hS hl
  exact lv_if_gt hx hb hd ht (fun h => kt h H locs ls hP hD hS hl) (fun h => kf h H locs ls hP hD hS hl)
theorem bV.if_le (G : bG D cl tys Γ own cc nL ret nm tb rm) {x : Int32} {off : Int} {tgt : Nat} (hd : decode cc pc = .ok (.ifCond .le off, 3)) (ht : (pc : Int) + off = (tgt : Int)) (kt : x ≤ 0 → bV D cl Γ nL ws k n (tgt) lv (rest)) (kf : ¬ x ≤ 0 → bV D cl Γ nL ws k n (pc + 3) lv (rest)) : bV D cl Γ nL ws k n (pc) lv (.int x :: rest) := by
  obtain ⟨p, l, e, R, s, m, args, below, meth, c, A, Q⟩ := Γ
  obtain ⟨hx, hb, hml, hown, hts, -⟩ := G
  intro H locs ls hP hD hS hl
  exact lv_if_le hx hb hd ht (fun h => kt h H locs ls hP hD hS hl) (fun h => kf h H locs ls hP hD hS hl)
theorem bV.icmp_eq (G : bG D cl tys Γ own cc nL ret nm tb rm) {x y : Int32} {off : Int} {tgt : Nat} (hd : decode cc pc = .ok (.if_icmp .eq off, 3)) (ht : (pc : Int) + off = (tgt : Int)) (kt : x = y → bV D cl Γ nL ws k n (tgt) lv (rest)) (kf : ¬ x = y → bV D cl Γ nL ws k n (pc + 3) lv (rest)) : bV D cl Γ nL ws k n (pc) lv (.int y :: .int x :: rest) := by
  obtain ⟨p, l, e, R, s, m, args, below, meth, c, A, Q⟩ := Γ
  obtain ⟨hx, hb, hml, hown, hts, -⟩ := G
  intro H locs ls hP hD hS hl
  exact lv_icmp_eq hx hb hd ht (fun h => kt h H locs ls hP hD hS hl) (fun h => kf h H locs ls hP hD hS hl)
theorem bV.icmp_ne (G : bG D cl tys Γ own cc nL ret nm tb rm) {x y : Int32} {off : Int} {tgt : Nat} (hd : decode cc pc = .ok (.if_icmp .ne off, 3)) (ht : (pc : Int) + off = (tgt : Int)) (kt : ¬ x = y → bV D cl Γ nL ws k n (tgt) lv (rest)) (kf : x = y → bV D cl Γ nL ws k n (pc + 3) lv (rest)) : bV D cl Γ nL ws k n (pc) lv (.int y :: .int x :: rest) := by
  obtain ⟨p, l, e, R, s, m, args, below, meth, c, A, Q⟩ := Γ
  obtain ⟨hx, hb, hml, hown, hts, -⟩ := G
  intro H locs ls hP hD hS hl
  exact lv_icmp_ne hx hb hd ht (fun h => kt h H locs ls hP hD hS hl) (fun h => kf h H locs ls hP hD hS hl)
theorem bV.icmp_lt (G : bG D cl tys Γ own cc nL ret nm tb rm) {x y : Int32} {off : Int} {tgt : Nat} (hd : decode cc pc = .ok (.if_icmp .lt off, 3)) (ht : (pc : Int) + off = (tgt : Int)) (kt : x < y → bV D cl Γ nL ws k n (tgt) lv (rest)) (kf : ¬ x < y → bV D cl Γ nL ws k n (pc + 3) lv (rest)) : bV D cl Γ nL ws k n (pc) lv (.int y :: .int x :: rest) := by
  obtain ⟨p, l, e, R, s, m, args, below, meth, c, A, Q⟩ := Γ
  obtain ⟨hx, hb, hml, hown, hts, -⟩ := G
  intro H locs ls hP hD hS hl
  exact lv_icmp_lt hx hb hd ht (fun h => kt h H locs ls hP hD hS hl) (fun h => kf h H locs ls hP hD hS hl)
theorem bV.icmp_ge (G : bG D cl tys Γ own cc nL ret nm tb rm) {x y : Int32} {off : Int} {tgt : Nat} (hd : decode cc pc = .ok (.if_icmp .ge off, 3)) (ht : (pc : Int) + off = (tgt : Int)) (kt : y ≤ x → bV D cl Γ nL ws k n (tgt) lv (rest)) (kf : ¬ y ≤ x → bV D cl Γ nL ws k n (pc + 3) lv (rest)) : bV D cl Γ nL ws k n (pc) lv (.int y :: .int x :: rest) := by
  obtain ⟨p, l, e, R, s, m, args, below, meth, c, A, Q⟩ := Γ
  obtain ⟨hx, hb, hml, hown, hts, -⟩ := G
  intro H locs ls hP hD hS hl
  exact lv_icmp_ge hx hb hd ht (fun h => kt h H locs ls hP hD hS hl) (fun h => kf h H locs ls hP hD hS hl)
theorem bV.icmp_gt (G : bG D cl tys Γ own cc nL ret nm tb rm) {x y : Int32} {off : Int} {tgt : Nat} (hd : decode cc pc = .ok (.if_icmp .gt off, 3)) (ht : (pc : Int) + off = (tgt : Int)) (kt : y < x → bV D cl Γ nL ws k n (tgt) lv (rest)) (kf : ¬ y < x → bV D cl Γ nL ws k n (pc + 3) lv (rest)) : bV D cl Γ nL ws k n (pc) lv (.int y :: .int x :: rest) := by
  obtain ⟨p, l, e, R, s, m, args, below, meth, c, A, Q⟩ := Γ
  obtain ⟨hx, hb, hml, hown, hts, -⟩ := G
  intro H locs ls hP hD hS hl
  exact lv_icmp_gt hx hb hd ht (fun h => kt h H locs ls hP hD hS hl) (fun h => kf h H locs ls hP hD hS hl)
theorem bV.icmp_le (G : bG D cl tys Γ own cc nL ret nm tb rm) {x y : Int32} {off : Int} {tgt : Nat} (hd : decode cc pc = .ok (.if_icmp .le off, 3)) (ht : (pc : Int) + off = (tgt : Int)) (kt : x ≤ y → bV D cl Γ nL ws k n (tgt) lv (rest)) (kf : ¬ x ≤ y → bV D cl Γ nL ws k n (pc + 3) lv (rest)) : bV D cl Γ nL ws k n (pc) lv (.int y :: .int x :: rest) := by
  obtain ⟨p, l, e, R, s, m, args, below, meth, c, A, Q⟩ := Γ
  obtain ⟨hx, hb, hml, hown, hts, -⟩ := G
  intro H locs ls hP hD hS hl
  exact lv_icmp_le hx hb hd ht (fun h => kt h H locs ls hP hD hS hl) (fun h => kf h H locs ls hP hD hS hl)
theorem bV.tableOut (G : bG D cl tys Γ own cc nL ret nm tb rm) {dflt lo hi : Int} {offs : Array Int} {len : Nat} {x : Int32} {tgt : Nat} (hd : decode cc pc = .ok (.tableswitch dflt lo hi offs, len)) (h : x.toInt < lo ∨ hi < x.toInt) (ht : (pc : Int) + dflt = (tgt : Int)) (kk : bV D cl Γ nL ws k n (tgt) lv (rest)) : bV D cl Γ nL ws k n (pc) lv (.int x :: rest) := by
  obtain ⟨p, l, e, R, s, m, args, below, meth, c, A, Q⟩ := Γ
  obtain ⟨hx, hb, hml, hown, hts, -⟩ := G
  intro H locs ls hP hD hS hl
  exact lv_tableOut hx hb hd h ht (kk H locs ls hP hD hS hl)
theorem bV.tableIn (G : bG D cl tys Γ own cc nL ret nm tb rm) {dflt lo hi : Int} {offs : Array Int} {len : Nat} {x : Int32} {off : Int} {tgt : Nat} (hd : decode cc pc = .ok (.tableswitch dflt lo hi offs, len)) (h1 : ¬ x.toInt < lo) (h2 : ¬ hi < x.toInt) (ho : offs[(x.toInt - lo).toNat]? = some off) (ht : (pc : Int) + off = (tgt : Int)) (kk : bV D cl Γ nL ws k n (tgt) lv (rest)) : bV D cl Γ nL ws k n (pc) lv (.int x :: rest) := by
  obtain ⟨p, l, e, R, s, m, args, below, meth, c, A, Q⟩ := Γ
  obtain ⟨hx, hb, hml, hown, hts, -⟩ := G
  intro H locs ls hP hD hS hl
  exact lv_tableIn hx hb hd h1 h2 ho ht (kk H locs ls hP hD hS hl)
theorem bV.lookup (G : bG D cl tys Γ own cc nL ret nm tb rm) {dflt : Int} {ps : Array (Int × Int)} {len : Nat} {x : Int32} {off : Int} {tgt : Nat} (hd : decode cc pc = .ok (.lookupswitch dflt ps, len)) (hp : (ps.toList.zip (ps.toList.drop 1)).all (fun (a, next) => a.1 < next.1) = true) (ho : Op.lookupswitch.offset ps.toList dflt x.toInt = off) (ht : (pc : Int) + off = (tgt : Int)) (kk : bV D cl Γ nL ws k n (tgt) lv (rest)) : bV D cl Γ nL ws k n (pc) lv (.int x :: rest) := by
  obtain ⟨p, l, e, R, s, m, args, below, meth, c, A, Q⟩ := Γ
  obtain ⟨hx, hb, hml, hown, hts, -⟩ := G
  intro H locs ls hP hD hS hl
  exact lv_lookup hx hb hd hp ho ht (kk H locs ls hP hD hS hl)
end BVR
