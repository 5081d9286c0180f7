/-! ===== the script lies outside of every world: rows that read it, contracts of what is given it ===== -/
def bSX (Γ : bCtx) (b L : Nat) (xs : Nat → Int32) : Prop := match Γ with
  | (_, _, _, _, s, _, _, _, _, _, A, _) => va_X b L xs s s.heap ∧ b < s.heap.size ∧ ¬ A b
def bPs (D : va_G) (cl : List vw_C) (tys : List (ClassId × FieldType)) (ws : va_W) (sz : Nat) (av : List Value) (b L : Nat) (xs : Nat → Int32) : Array Value → State → Prop := fun v U => bP D cl tys ws sz av v U ∧ va_X b L xs U U.heap ∧ b < sz ∧ ∀ (k : Nat) (q : Nat × va_E), ws[k]? = some q → q.1 ≠ b
def bCs (D : va_G) (cl : List vw_C) (tys : List (ClassId × FieldType)) (y : MethodName) (rm : Room) (ws : va_W) (av : List Value) (b L : Nat) (xs : Nat → Int32) (post : bo → va_W → Prop) : Prop :=
  ∀ l : Launch, l.stackTraces = false → ∀ sz : Nat, bMet l y (headSpec bw rm) (bPs D cl tys ws sz av b L xs) (bq D cl ws sz post) rm.cells rm.slots (va_A ws sz)
theorem bPs.blind {D : va_G} {cl : List vw_C} {tys : List (ClassId × FieldType)} {ws : va_W} {sz : Nat} {av : List Value} {b L : Nat} {xs : Nat → Int32} : FrameBlind (bPs D cl tys ws sz av b L xs) := by
  intro a U g mk h
  exact ⟨bP.blind a U g mk h.1, va_X.moved (u := U) (U := U.calling g mk a) (Vm.Alike.refl U.vm) h.2.1, h.2.2⟩
theorem bCs.of {D : va_G} {cl : List vw_C} {tys : List (ClassId × FieldType)} {y : MethodName} {b : ByteArray} {nL : Nat} {ret : Option FieldType} {tb : bTb} {rm : Room} {ws : va_W} {av : List Value} {b0 L : Nat} {xs : Nat → Int32} {post : bo → va_W → Prop}
    (hy : plainName y.cls = true) (hc : bcode y b nL ret tb) (hav : (lg_sl av).length ≤ nL)
    (body : ∀ Γ : bCtx, bG D cl tys Γ y.cls b nL ret y.name tb rm → bE D cl Γ ws post rm → bSX Γ b0 L xs → bV D cl Γ nL ws 0 0 0 (lv_args 0 av) []) : bCs D cl tys y rm ws av b0 L xs post := by
  intro l hl sz
  refine MetFree.of_bodyS (code := b) (maxLocals := nL) (ret := ret) hy ?_ ?_
  · intro args s m h hn
    obtain ⟨mk, meth, c, h0, h1, h2, h3, h4, h5, h6, -, -⟩ := hc.spec (atoms_spec (ws := bw) h)
    cases hn.symm.trans h0
    exact ⟨meth, c, h1, h2, h3, h4, h5, h6⟩
  · intro p e s m args below meth c s₁ B hml hP _
    obtain ⟨⟨rfl, hsz, hPw, hK, hD0, hX⟩, hXs, hb0, hbn⟩ := hP
    subst hsz
    have hts := atoms_spec (ws := bw) B.pre
    have hh0 : s₁.heap = s.heap := by rw [B.state]; rfl
    obtain ⟨mk, meth', c', q0, q1, q2, -, -, -, -, q7, -⟩ := hc.spec hts
    cases B.named.symm.trans q0
    cases B.method.symm.trans q1
    cases (Stand.of_body B).code.symm.trans q2
    have hst : ∀ (q : Nat) (cell : Cell), va_A ws s.heap.size q → s.heap[q]? = some cell → cell.vm.isStatics = false := by
      intro q cell hq hcell
      rcases hq with ⟨k, e, hk⟩ | hq
      · have h1 := hPw k _ hk
        cases e with
        | inl x =>
          have h2 : s.heap[q]? = some (vp_cell x.1 x.2) := h1
          cases hcell.symm.trans h2
          obtain ⟨cA, nn, f | f | f | f | f⟩ := x <;> rfl
        | inr o =>
          obtain ⟨r, -, cell', h2, -, h3, -⟩ := h1
          cases hcell.symm.trans h2
          rw [h3]; rfl
      · have := (Array.getElem?_eq_some_iff.mp hcell).1
        omega
    have hnA : ¬ va_A ws s.heap.size b0 := by
      rintro (⟨k, e, hk⟩ | h)
      · exact hbn k _ hk rfl
      · omega
    have hl2 := lv_entry av (n := nL) hav
    have K := body (p, l, e, rm, s, m, av.toArray, below, meth, c, va_A ws s.heap.size, bMQ below (bq D cl ws s.heap.size post) av.toArray s rm.cells rm.slots (va_A ws s.heap.size))
      ⟨B.exec, B.bytes, hml, findClass_of_methodNamed B.named, hts, hK, fun q h => Or.inr h, hst, hX, B.notSynchronized, B.returns, (name_of_methodNamed B.named B.method).1, q7, rfl, hl⟩ ⟨rfl, rfl⟩ ⟨hXs, hb0, hnA⟩
    have K2 : W p l e rm s m av.toArray below meth c s.heap [] 0 0 (bMQ below (bq D cl ws s.heap.size post) av.toArray s rm.cells rm.slots (va_A ws s.heap.size)) (entryFrame m av.toArray nL) := by
      rw [lg_entry_eq]
      exact K s.heap [] _ hPw hD0.self va_S.rf hl2
    obtain ⟨t, a1, o, b1, b2, b3⟩ := K2 s₁ hh0 (Stand.of_body B)
    exact ⟨t, o, a1, b1, b2, b3⟩
section BSC
variable {D : va_G} {cl : List vw_C} {tys : List (ClassId × FieldType)} {Γ : bCtx} {own : String} {cc : ByteArray} {nL : Nat} {ret : Option FieldType} {nm : String} {tb : bTb} {rm : Room} {ws ws0 : va_W} {k n pc : Nat} {lv : List (Nat × Value)} {rest st : List Value}
theorem bV.sld (G : bG D cl tys Γ own cc nL ret nm tb rm) {b L : Nat} {xs : Nat → Int32} (hx : bSX Γ b L xs) {i : Int32} (hin : vp_in i L) (hd : decode cc pc = .ok (.iaload, 1)) (kk : bV D cl Γ nL ws k n (pc + 1) lv (.int (xs i.toNatClampNeg) :: rest)) : bV D cl Γ nL ws k n pc lv (.int i :: .ref b :: rest) := by
  obtain ⟨p, l, e, R, s, m, args, below, meth, c, A, Q⟩ := Γ
  obtain ⟨hx1, hb, hml, hown, hts, hK, -⟩ := G
  obtain ⟨h1, h2, h3⟩ := hx
  intro H locs ls hP hD hS hl
  exact va_sld hx1 hb h1 h2 h3 hS hin hd (kk H locs ls hP hD hS hl)
theorem bV.slen (G : bG D cl tys Γ own cc nL ret nm tb rm) {b L : Nat} {xs : Nat → Int32} (hx : bSX Γ b L xs) (hd : decode cc pc = .ok (.arraylength, 1)) (kk : bV D cl Γ nL ws k n (pc + 1) lv (.int (nI L) :: rest)) : bV D cl Γ nL ws k n pc lv (.ref b :: rest) := by
  obtain ⟨p, l, e, R, s, m, args, below, meth, c, A, Q⟩ := Γ
  obtain ⟨hx1, hb, hml, hown, hts, hK, -⟩ := G
  obtain ⟨h1, h2, h3⟩ := hx
  intro H locs ls hP hD hS hl
  exact va_slen hx1 hb h1 h2 h3 hS hd (kk H locs ls hP hD hS hl)
theorem bV.callSs (G : bG D cl tys Γ own cc nL ret nm tb rm) {y : MethodName} {b' : ByteArray} {n' np : Nat} {r' : Option FieldType} {tb' : bTb} (hy : bMd y b' n' r' tb' np) (hw2 : Cond.static y ∈ bw) {idx : Nat} (hw : Cond.methodLink own idx y ∈ bw) {b L : Nat} {xs : Nat → Int32} (hbx : bSX Γ b L xs)
    {rm' : Room} {As : List Value} {Ψ : Int32 → va_W → Prop} (hM : bCs D cl tys y rm' ws As b L xs (bI Ψ bno)) (hnp : As.length = np) (hst0 : st = As.reverse ++ rest)
    (hR : rm'.frames + 1 ≤ rm.frames ∧ 8 + (n' + 11) + rm'.locals ≤ rm.locals) (hcs : k + rm'.cells ≤ rm.cells ∧ n + rm'.slots ≤ rm.slots) (hsum : (rest.map fun v => v.category).sum ≤ 8) (hd : decode cc pc = .ok (.invokestatic idx, 3))
    (kr : ∀ (x : Int32) (ws' : va_W), Ψ x ws' → bV D cl Γ nL ws' (k + rm'.cells) (n + rm'.slots) (pc + 3) lv (.int x :: rest)) : bV D cl Γ nL ws k n pc lv st := by
  obtain ⟨p, l, e, R, s, m, args, below, meth, c, A, Q⟩ := Γ
  obtain ⟨hx, hb, hml, hown, hts, hK, hA, hst, hX, hlk, hret, hnm, htab, hR0, htr⟩ := G
  obtain ⟨hbx1, hbx2, hbx3⟩ := hbx
  subst hst0; subst hR0
  intro H locs ls hP hDw hS hl T0 hT0 X0
  obtain ⟨mk, methM, cM, hnamed, hmethM, -, -, -, -, -, -, hsig⟩ := hy.1.spec hts
  have hstatic : methM.isStatic = true := Cond.static_spec hnamed hmethM (hts _ hw2)
  obtain ⟨kP, hkP, -⟩ := className_of_methodNamed hnamed
  have hinitP : kP.init = .initialized := Cond.initialized_spec (findClass_of_methodNamed hnamed) hkP (hts _ hy.2.1)
  obtain ⟨vm₁, X, hstep₁⟩ := X0.invokestatic hx hown (hts _ hw) hnamed hmethM hstatic hkP hinitP hy.2.2.1 (g := F0 m pc ls (As.reverse ++ rest)) rfl (argsL := As) (rest := rest) (hnp.trans (hy.len hsig)) rfl (by rw [hb]; exact hd)
  obtain ⟨T, hTd⟩ : ∃ T, T = T0.setVm vm₁ := ⟨_, rfl⟩
  rw [← hTd] at X
  have hT : T.heap = H := by rw [hTd]; exact hT0
  have key : ∃ t, Steps p.tables e below (doInvoke e (T.setTop (F0 m pc ls rest)) [] mk As.toArray).1 t ∧ Q t := by
    obtain ⟨mk', methY, cY, q0, q1, q2, -, q4, -, -, -, -⟩ := hy.1.spec hts
    cases hnamed.symm.trans q0
    obtain ⟨kY, hkY, -⟩ := className_of_methodNamed hnamed
    have hiY : kY.init = .initialized := Cond.initialized_spec (findClass_of_methodNamed hnamed) hkY (hts _ hy.2.1)
    obtain ⟨kY', hkY', heY⟩ := X.warmed.alike.2.2 _ _ hkY
    have hfree : ∀ q, va_A ws H.size q → A q := by
      intro q hq
      rcases hq with ⟨j, e1, hj⟩ | hq
      · exact hDw.2 j _ hj
      · exact hA q (Nat.le_trans hS.1 hq)
    have hstat : ∀ (a : Nat) (cell : Cell), s.heap[a]? = some cell → cell.vm.isStatics = true → T.heap[a]? = some cell := by
      intro a cell h1 h2
      have h3 : ¬ A a := fun h => by rw [hst a cell h h1] at h2; cases h2
      rw [hT, hS.2.1 a (Array.getElem?_eq_some_iff.mp h1).1 h3]
      exact h1
    have hPc : bPs D cl tys ws H.size As b L xs As.toArray T := by
      refine ⟨⟨rfl, by rw [hT], by rw [hT]; exact hP, va_K.moved X.warmed.alike hK, hDw.weaken (fun _ _ _ _ => trivial), bX.go X.warmed hstat hX⟩, ?_, Nat.lt_of_lt_of_le hbx2 hS.1, fun k q hk z => hbx3 (z ▸ hDw.2 k q hk)⟩
      refine va_X.moved X.warmed.alike (va_X.kept hbx1 ?_)
      rw [hT]; exact hS.2.1 b hbx2 hbx3
    obtain ⟨o, t, T', L', X', hL, e1, e2, ⟨r, ws1, ho, hpost, hP1, hD1, hF1⟩, hcase⟩ := bcall X (hM l htr H.size) bPs.blind hts (X.named hnamed) (by rw [X.warmed.alike.method?]; exact q1) q2 q4 hkY' (by rw [heY]; exact hiY) hR.1 hR.2 hcs.1 hcs.2
      (g := F0 m pc ls rest) rfl (hl.1.trans hml.symm) (by rw [hb]; exact hd) (lv_room hsum) hPc
    have hT1 : (T.calling (F0 m pc ls rest) mk As.toArray).heap = H := hT
    have hS1 : va_S A s.heap T'.heap (locs ++ L') := by
      refine ⟨Nat.le_trans hS.1 (by rw [e1]; exact hT1 ▸ hF1.1), fun q h1 h2 => ?_, fun q hq => ?_⟩
      · have h3 : q < H.size := Nat.lt_of_lt_of_le h1 hS.1
        rw [e1, hF1.2 q (by rw [hT1]; exact h3) (fun z => h2 (hfree q z)), hT1]
        exact hS.2.1 q h1 h2
      · rcases List.mem_append.mp hq with h | h
        · exact hS.2.2 q h
        · exact hfree _ (hL q h)
    have hP2 : va_P D cl ws1 T'.heap := by rw [e1]; exact hP1
    have hD2 : va_D A ws1 := hD1.weaken (fun _ q _ h => hfree q.1 h)
    rcases hcase with ⟨v, rfl, hgo⟩ | ⟨x, rfl, hgo⟩
    · cases r with
      | inl v' =>
        cases ho
        obtain ⟨x, rfl, h9⟩ := bI.v hpost
        obtain ⟨t2, a1, b1⟩ := kr x ws1 h9 T'.heap (locs ++ L') ls hP2 hD2 hS1 hl T' rfl X'
        exact ⟨t2, hgo.trans a1, b1⟩
      | inr E => obtain ⟨a, ce, h1, -⟩ := ho; cases h1
    · cases r with
      | inl v' => cases ho
      | inr E => exact False.elim (bI.t hpost)
  obtain ⟨t, a1, b1⟩ := key
  exact ⟨t, hstep₁ _ (fun acts => by rw [doInvoke_state, ← hTd]; exact a1), b1⟩
end BSC
theorem lg_cmp_self {x y : Int64} (h : x = y) : lg_cmp x y = 0 := by
  subst h
  unfold lg_cmp
  rw [if_neg (Int64.lt_irrefl), if_pos rfl]
theorem d_W_cell_0 : decode b_W_cell 0 = .ok (.iload_n 1, 1) := by decide +kernel
theorem d_W_cell_1 : decode b_W_cell 1 = .ok (.aload_n 0, 1) := by decide +kernel
theorem d_W_cell_2 : decode b_W_cell 2 = .ok (.arraylength, 1) := by decide +kernel
theorem d_W_cell_3 : decode b_W_cell 3 = .ok (.if_icmp .ge 9, 3) := by decide +kernel
theorem d_W_cell_6 : decode b_W_cell 6 = .ok (.aload_n 0, 1) := by decide +kernel
theorem d_W_cell_7 : decode b_W_cell 7 = .ok (.iload_n 1, 1) := by decide +kernel
theorem d_W_cell_8 : decode b_W_cell 8 = .ok (.iaload, 1) := by decide +kernel
theorem d_W_cell_9 : decode b_W_cell 9 = .ok (.goto 4, 3) := by decide +kernel
theorem d_W_cell_12 : decode b_W_cell 12 = .ok (.iconst 0, 1) := by decide +kernel
theorem d_W_cell_13 : decode b_W_cell 13 = .ok (.ireturn, 1) := by decide +kernel
set_option maxRecDepth 20000 in
set_option maxHeartbeats 4000000 in
theorem c_W_cell {D : va_G} {cI cZ cJ : ClassId} {ws : va_W} {b L : Nat} {xs : Nat → Int32} (hL : L ≤ 2049) : bCs D bcl (tys3 cI cZ cJ) y_W_cell ({ frames := 0, cells := 0, slots := 0, locals := 0 }) ws [.ref b, .int (nI 0)] b L xs (bI (fun x ws9 => x = (if 0 < L then xs 0 else 0) ∧ ws9 = ws) bno) := by
  refine bCs.of (by decide) m_W_cell.1 (Nat.le_of_ble_eq_true rfl) ?_
  intro Γ G E0 hX
  show bV D bcl Γ 2 ws 0 0 0 [(0, .ref b), (1, .int (nI 0))] []
  refine bV.iload_n G d_W_cell_0 rfl ?_
  refine bV.aload_n G d_W_cell_1 rfl ?_
  refine bV.slen G hX d_W_cell_2 ?_
  refine bV.icmp_geN (tgt := 12) G d_W_cell_3 (by decide) (by decide) (by omega) (fun c3 => ?_) (fun c3 => ?_)
  · refine bV.iconst (v := nI 0) G d_W_cell_12 (by decide) ?_
    exact bV.iretI G E0 rfl rfl (by decide) (by decide) d_W_cell_13 ⟨by rw [if_neg (by omega)]; rfl, rfl⟩
  · refine bV.aload_n G d_W_cell_6 rfl ?_
    refine bV.iload_n G d_W_cell_7 rfl ?_
    refine bV.sld G hX (vp_in_nI (by omega) (by omega)) d_W_cell_8 ?_
    refine bV.goto (tgt := 13) G d_W_cell_9 (by decide) ?_
    exact bV.iretI G E0 rfl rfl (by decide) (by decide) d_W_cell_13 ⟨by rw [if_pos (by omega), nI_clamp (by decide)], rfl⟩
