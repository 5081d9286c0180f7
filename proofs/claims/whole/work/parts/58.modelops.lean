/-! ===== the reference does the same; one answer only ===== -/
set_option maxRecDepth 20000 in
set_option maxHeartbeats 4000000 in
theorem r_byteAt {D : va_G} {cI cZ cJ : ClassId} {am : Nat → Nat} {mp th : Nat} {fo lo ps pb ip : Nat → Int32} {nb : Nat} {fr ln tr : Nat → Int32} {nv : Nat} {ct rw dr : Nat → Int32} {en sw : Nat} {rest : va_W} {A : aA} (hA : AI mp A) (hM : MO A fo lo ps pb ip) {v u : Int32} : bC D bcl (tys3 cI cZ cJ) y_M_byteAt ({ frames := 5, cells := 0, slots := 0, locals := 108 }) (wM am cI cZ mp th (aCr A) (aFd A) fo (aN A) lo (aNp A) ps pb ip nb fr ln tr nv ct rw dr en sw rest) [.ref (am 0), .int v, .int u] (bI (fun x ws9 => ∃ (A' : aA) (th1 : Nat) (fo1 lo1 ps1 pb1 ip1 : Nat → Int32) (nb1 nv1 en1 sw1 : Nat) (fr1 ln1 tr1 ct1 rw1 dr1 : Nat → Int32), ((th1 = 0 ∧ OP_byteAt A v u x A') ∨ (th1 ≠ 0 ∧ OT_byteAt A v u th1 ∧ A' = A)) ∧ MO A' fo1 lo1 ps1 pb1 ip1 ∧ ws9 = wM am cI cZ mp th1 (aCr A') (aFd A') fo1 (aN A') lo1 (aNp A') ps1 pb1 ip1 nb1 fr1 ln1 tr1 nv1 ct1 rw1 dr1 en1 sw1 rest) bno) := by
  have hS := hA.okS
  obtain ⟨lg, n, S, fd, fn, mk, np, ql, qa, cr⟩ := A
  obtain ⟨hL, hX, hF, hG, hQ⟩ := hA
  obtain ⟨hRl, hfo, hqR, hip⟩ := hM
  dsimp only [aLg, aN, aSt, aFd, aFn, aMk, aNp, aQl, aQa, aCr] at *
  refine (c_M_byteAt hRl hL (v := v) (u := u)).mono (bI_mono fun x ws9 h => ?_)
  rcases h with ⟨h1, nb1, nv1, en1, sw1, fr1, ln1, tr1, ct1, rw1, dr1, h9⟩ | ⟨h1, h2, nb1, nv1, en1, sw1, fr1, ln1, tr1, ct1, rw1, dr1, h9⟩ | h
  · exact ⟨(lg, n, S, fd, fn, mk, np, ql, qa, cr), 2, fo, lo, ps, pb, ip, nb1, nv1, en1, sw1, fr1, ln1, tr1, ct1, rw1, dr1, Or.inr ⟨by decide, Or.inl ⟨rfl, h1⟩, rfl⟩, ⟨hRl, hfo, hqR, hip⟩, h9⟩
  · exact ⟨(lg, n, S, fd, fn, mk, np, ql, qa, cr), 1, fo, lo, ps, pb, ip, nb1, nv1, en1, sw1, fr1, ln1, tr1, ct1, rw1, dr1, Or.inr ⟨by decide, Or.inr ⟨rfl, h1, h2⟩, rfl⟩, ⟨hRl, hfo, hqR, hip⟩, h9⟩
  · obtain ⟨h1, h2, h3, nb1, nv1, en1, sw1, fr1, ln1, tr1, ct1, rw1, dr1, h9⟩ := h
    exact ⟨(lg, n, S, fd, fn, mk, np, ql, qa, cr), 0, fo, lo, ps, pb, ip, nb1, nv1, en1, sw1, fr1, ln1, tr1, ct1, rw1, dr1, Or.inl ⟨rfl, h1, h2, h3, rfl⟩, ⟨hRl, hfo, hqR, hip⟩, h9⟩
set_option maxRecDepth 20000 in
set_option maxHeartbeats 4000000 in
theorem r_digest {D : va_G} {cI cZ cJ : ClassId} {am : Nat → Nat} {mp th : Nat} {fo lo ps pb ip : Nat → Int32} {nb : Nat} {fr ln tr : Nat → Int32} {nv : Nat} {ct rw dr : Nat → Int32} {en sw : Nat} {rest : va_W} {A : aA} (hA : AI mp A) (hM : MO A fo lo ps pb ip) {v u : Int32} : bC D bcl (tys3 cI cZ cJ) y_M_digest ({ frames := 5, cells := 0, slots := 0, locals := 108 }) (wM am cI cZ mp th (aCr A) (aFd A) fo (aN A) lo (aNp A) ps pb ip nb fr ln tr nv ct rw dr en sw rest) [.ref (am 0), .int v, .int u] (bI (fun x ws9 => ∃ (A' : aA) (th1 : Nat) (fo1 lo1 ps1 pb1 ip1 : Nat → Int32) (nb1 nv1 en1 sw1 : Nat) (fr1 ln1 tr1 ct1 rw1 dr1 : Nat → Int32), ((th1 = 0 ∧ OP_digest A v u x A') ∨ (th1 ≠ 0 ∧ OT_digest A v u th1 ∧ A' = A)) ∧ MO A' fo1 lo1 ps1 pb1 ip1 ∧ ws9 = wM am cI cZ mp th1 (aCr A') (aFd A') fo1 (aN A') lo1 (aNp A') ps1 pb1 ip1 nb1 fr1 ln1 tr1 nv1 ct1 rw1 dr1 en1 sw1 rest) bno) := by
  have hS := hA.okS
  obtain ⟨lg, n, S, fd, fn, mk, np, ql, qa, cr⟩ := A
  obtain ⟨hL, hX, hF, hG, hQ⟩ := hA
  obtain ⟨hRl, hfo, hqR, hip⟩ := hM
  dsimp only [aLg, aN, aSt, aFd, aFn, aMk, aNp, aQl, aQa, aCr] at *
  refine (c_M_digest hRl hL (v := v) (u := u)).mono (bI_mono fun x ws9 h => ?_)
  rcases h with ⟨h1, nb1, nv1, en1, sw1, fr1, ln1, tr1, ct1, rw1, dr1, h9⟩ | ⟨h1, h2, nb1, nv1, en1, sw1, fr1, ln1, tr1, ct1, rw1, dr1, h9⟩ | h
  · exact ⟨(lg, n, S, fd, fn, mk, np, ql, qa, cr), 2, fo, lo, ps, pb, ip, nb1, nv1, en1, sw1, fr1, ln1, tr1, ct1, rw1, dr1, Or.inr ⟨by decide, Or.inl ⟨rfl, h1⟩, rfl⟩, ⟨hRl, hfo, hqR, hip⟩, h9⟩
  · exact ⟨(lg, n, S, fd, fn, mk, np, ql, qa, cr), 1, fo, lo, ps, pb, ip, nb1, nv1, en1, sw1, fr1, ln1, tr1, ct1, rw1, dr1, Or.inr ⟨by decide, Or.inr ⟨rfl, h1, h2⟩, rfl⟩, ⟨hRl, hfo, hqR, hip⟩, h9⟩
  · obtain ⟨h1, h2, h3, nb1, nv1, en1, sw1, fr1, ln1, tr1, ct1, rw1, dr1, h9⟩ := h
    exact ⟨(lg, n, S, fd, fn, mk, np, ql, qa, cr), 0, fo, lo, ps, pb, ip, nb1, nv1, en1, sw1, fr1, ln1, tr1, ct1, rw1, dr1, Or.inl ⟨rfl, h1, h2, h3, rfl⟩, ⟨hRl, hfo, hqR, hip⟩, h9⟩
set_option maxRecDepth 20000 in
set_option maxHeartbeats 4000000 in
theorem r_holds {D : va_G} {cI cZ cJ : ClassId} {am : Nat → Nat} {mp th : Nat} {fo lo ps pb ip : Nat → Int32} {nb : Nat} {fr ln tr : Nat → Int32} {nv : Nat} {ct rw dr : Nat → Int32} {en sw : Nat} {rest : va_W} {A : aA} (hA : AI mp A) (hM : MO A fo lo ps pb ip) {v u : Int32} : bC D bcl (tys3 cI cZ cJ) y_M_holds ({ frames := 5, cells := 0, slots := 0, locals := 108 }) (wM am cI cZ mp th (aCr A) (aFd A) fo (aN A) lo (aNp A) ps pb ip nb fr ln tr nv ct rw dr en sw rest) [.ref (am 0), .int v, .int u] (bI (fun x ws9 => ∃ (A' : aA) (th1 : Nat) (fo1 lo1 ps1 pb1 ip1 : Nat → Int32) (nb1 nv1 en1 sw1 : Nat) (fr1 ln1 tr1 ct1 rw1 dr1 : Nat → Int32), ((th1 = 0 ∧ OP_holds A v u x A') ∨ (th1 ≠ 0 ∧ OT_holds A v u th1 ∧ A' = A)) ∧ MO A' fo1 lo1 ps1 pb1 ip1 ∧ ws9 = wM am cI cZ mp th1 (aCr A') (aFd A') fo1 (aN A') lo1 (aNp A') ps1 pb1 ip1 nb1 fr1 ln1 tr1 nv1 ct1 rw1 dr1 en1 sw1 rest) bno) := by
  have hS := hA.okS
  obtain ⟨lg, n, S, fd, fn, mk, np, ql, qa, cr⟩ := A
  obtain ⟨hL, hX, hF, hG, hQ⟩ := hA
  obtain ⟨hRl, hfo, hqR, hip⟩ := hM
  dsimp only [aLg, aN, aSt, aFd, aFn, aMk, aNp, aQl, aQa, aCr] at *
  refine (c_M_holds hRl hL (v := v) (u := u)).mono (bI_mono fun x ws9 h => ?_)
  rcases h with ⟨h1, nb1, nv1, en1, sw1, fr1, ln1, tr1, ct1, rw1, dr1, h9⟩ | ⟨h1, h2, nb1, nv1, en1, sw1, fr1, ln1, tr1, ct1, rw1, dr1, h9⟩ | h
  · exact ⟨(lg, n, S, fd, fn, mk, np, ql, qa, cr), 2, fo, lo, ps, pb, ip, nb1, nv1, en1, sw1, fr1, ln1, tr1, ct1, rw1, dr1, Or.inr ⟨by decide, Or.inl ⟨rfl, h1⟩, rfl⟩, ⟨hRl, hfo, hqR, hip⟩, h9⟩
  · exact ⟨(lg, n, S, fd, fn, mk, np, ql, qa, cr), 1, fo, lo, ps, pb, ip, nb1, nv1, en1, sw1, fr1, ln1, tr1, ct1, rw1, dr1, Or.inr ⟨by decide, Or.inr ⟨rfl, h1, h2⟩, rfl⟩, ⟨hRl, hfo, hqR, hip⟩, h9⟩
  · obtain ⟨h1, h2, h3, nb1, nv1, en1, sw1, fr1, ln1, tr1, ct1, rw1, dr1, h9⟩ := h
    exact ⟨(lg, n, S, fd, fn, mk, np, ql, qa, cr), 0, fo, lo, ps, pb, ip, nb1, nv1, en1, sw1, fr1, ln1, tr1, ct1, rw1, dr1, Or.inl ⟨rfl, h1, h2, h3, rfl⟩, ⟨hRl, hfo, hqR, hip⟩, h9⟩
set_option maxRecDepth 20000 in
set_option maxHeartbeats 4000000 in
theorem r_root {D : va_G} {cI cZ cJ : ClassId} {am : Nat → Nat} {mp th : Nat} {fo lo ps pb ip : Nat → Int32} {nb : Nat} {fr ln tr : Nat → Int32} {nv : Nat} {ct rw dr : Nat → Int32} {en sw : Nat} {rest : va_W} {A : aA} (hA : AI mp A) (hM : MO A fo lo ps pb ip) {v : Int32} : bC D bcl (tys3 cI cZ cJ) y_M_root ({ frames := 5, cells := 0, slots := 0, locals := 108 }) (wM am cI cZ mp th (aCr A) (aFd A) fo (aN A) lo (aNp A) ps pb ip nb fr ln tr nv ct rw dr en sw rest) [.ref (am 0), .int v] (bI (fun x ws9 => ∃ (A' : aA) (th1 : Nat) (fo1 lo1 ps1 pb1 ip1 : Nat → Int32) (nb1 nv1 en1 sw1 : Nat) (fr1 ln1 tr1 ct1 rw1 dr1 : Nat → Int32), ((th1 = 0 ∧ OP_root A v x A') ∨ (th1 ≠ 0 ∧ OT_root A v th1 ∧ A' = A)) ∧ MO A' fo1 lo1 ps1 pb1 ip1 ∧ ws9 = wM am cI cZ mp th1 (aCr A') (aFd A') fo1 (aN A') lo1 (aNp A') ps1 pb1 ip1 nb1 fr1 ln1 tr1 nv1 ct1 rw1 dr1 en1 sw1 rest) bno) := by
  have hS := hA.okS
  obtain ⟨lg, n, S, fd, fn, mk, np, ql, qa, cr⟩ := A
  obtain ⟨hL, hX, hF, hG, hQ⟩ := hA
  obtain ⟨hRl, hfo, hqR, hip⟩ := hM
  dsimp only [aLg, aN, aSt, aFd, aFn, aMk, aNp, aQl, aQa, aCr] at *
  refine (c_M_root hRl hL (v := v)).mono (bI_mono fun x ws9 h => ?_)
  rcases h with ⟨h1, nb1, nv1, en1, sw1, fr1, ln1, tr1, ct1, rw1, dr1, h9⟩ | ⟨h1, h2, nb1, nv1, en1, sw1, fr1, ln1, tr1, ct1, rw1, dr1, h9⟩ | h
  · exact ⟨(lg, n, S, fd, fn, mk, np, ql, qa, cr), 2, fo, lo, ps, pb, ip, nb1, nv1, en1, sw1, fr1, ln1, tr1, ct1, rw1, dr1, Or.inr ⟨by decide, Or.inl ⟨rfl, h1⟩, rfl⟩, ⟨hRl, hfo, hqR, hip⟩, h9⟩
  · exact ⟨(lg, n, S, fd, fn, mk, np, ql, qa, cr), 1, fo, lo, ps, pb, ip, nb1, nv1, en1, sw1, fr1, ln1, tr1, ct1, rw1, dr1, Or.inr ⟨by decide, Or.inr ⟨rfl, h1, h2⟩, rfl⟩, ⟨hRl, hfo, hqR, hip⟩, h9⟩
  · obtain ⟨h1, h2, h3, nb1, nv1, en1, sw1, fr1, ln1, tr1, ct1, rw1, dr1, h9⟩ := h
    exact ⟨(lg, n, S, fd, fn, mk, np, ql, qa, cr), 0, fo, lo, ps, pb, ip, nb1, nv1, en1, sw1, fr1, ln1, tr1, ct1, rw1, dr1, Or.inl ⟨rfl, h1, h2, h3, rfl⟩, ⟨hRl, hfo, hqR, hip⟩, h9⟩
set_option maxRecDepth 20000 in
set_option maxHeartbeats 4000000 in
theorem r_out {D : va_G} {cI cZ cJ : ClassId} {am : Nat → Nat} {mp th : Nat} {fo lo ps pb ip : Nat → Int32} {nb : Nat} {fr ln tr : Nat → Int32} {nv : Nat} {ct rw dr : Nat → Int32} {en sw : Nat} {rest : va_W} {A : aA} (hA : AI mp A) (hM : MO A fo lo ps pb ip) {v u : Int32} : bC D bcl (tys3 cI cZ cJ) y_M_out ({ frames := 5, cells := 0, slots := 0, locals := 108 }) (wM am cI cZ mp th (aCr A) (aFd A) fo (aN A) lo (aNp A) ps pb ip nb fr ln tr nv ct rw dr en sw rest) [.ref (am 0), .int v, .int u] (bI (fun x ws9 => ∃ (A' : aA) (th1 : Nat) (fo1 lo1 ps1 pb1 ip1 : Nat → Int32) (nb1 nv1 en1 sw1 : Nat) (fr1 ln1 tr1 ct1 rw1 dr1 : Nat → Int32), ((th1 = 0 ∧ OP_out A v u x A') ∨ (th1 ≠ 0 ∧ OT_out A v u th1 ∧ A' = A)) ∧ MO A' fo1 lo1 ps1 pb1 ip1 ∧ ws9 = wM am cI cZ mp th1 (aCr A') (aFd A') fo1 (aN A') lo1 (aNp A') ps1 pb1 ip1 nb1 fr1 ln1 tr1 nv1 ct1 rw1 dr1 en1 sw1 rest) bno) := by
  have hS := hA.okS
  obtain ⟨lg, n, S, fd, fn, mk, np, ql, qa, cr⟩ := A
  obtain ⟨hL, hX, hF, hG, hQ⟩ := hA
  obtain ⟨hRl, hfo, hqR, hip⟩ := hM
  dsimp only [aLg, aN, aSt, aFd, aFn, aMk, aNp, aQl, aQa, aCr] at *
  refine (c_M_out hRl hL (v := v) (u := u)).mono (bI_mono fun x ws9 h => ?_)
  rcases h with ⟨h1, nb1, nv1, en1, sw1, fr1, ln1, tr1, ct1, rw1, dr1, h9⟩ | ⟨h1, h2, nb1, nv1, en1, sw1, fr1, ln1, tr1, ct1, rw1, dr1, h9⟩ | h
  · exact ⟨(lg, n, S, fd, fn, mk, np, ql, qa, cr), 2, fo, lo, ps, pb, ip, nb1, nv1, en1, sw1, fr1, ln1, tr1, ct1, rw1, dr1, Or.inr ⟨by decide, Or.inl ⟨rfl, h1⟩, rfl⟩, ⟨hRl, hfo, hqR, hip⟩, h9⟩
  · exact ⟨(lg, n, S, fd, fn, mk, np, ql, qa, cr), 1, fo, lo, ps, pb, ip, nb1, nv1, en1, sw1, fr1, ln1, tr1, ct1, rw1, dr1, Or.inr ⟨by decide, Or.inr ⟨rfl, h1, h2⟩, rfl⟩, ⟨hRl, hfo, hqR, hip⟩, h9⟩
  · obtain ⟨h1, h2, h3, nb1, nv1, en1, sw1, fr1, ln1, tr1, ct1, rw1, dr1, h9⟩ := h
    exact ⟨(lg, n, S, fd, fn, mk, np, ql, qa, cr), 0, fo, lo, ps, pb, ip, nb1, nv1, en1, sw1, fr1, ln1, tr1, ct1, rw1, dr1, Or.inl ⟨rfl, h1, h2, h3, rfl⟩, ⟨hRl, hfo, hqR, hip⟩, h9⟩
set_option maxRecDepth 20000 in
set_option maxHeartbeats 4000000 in
theorem r_packByte {D : va_G} {cI cZ cJ : ClassId} {am : Nat → Nat} {mp th : Nat} {fo lo ps pb ip : Nat → Int32} {nb : Nat} {fr ln tr : Nat → Int32} {nv : Nat} {ct rw dr : Nat → Int32} {en sw : Nat} {rest : va_W} {A : aA} (hA : AI mp A) (hM : MO A fo lo ps pb ip) {v u : Int32} : bC D bcl (tys3 cI cZ cJ) y_M_packByte ({ frames := 5, cells := 0, slots := 0, locals := 108 }) (wM am cI cZ mp th (aCr A) (aFd A) fo (aN A) lo (aNp A) ps pb ip nb fr ln tr nv ct rw dr en sw rest) [.ref (am 0), .int v, .int u] (bI (fun x ws9 => ∃ (A' : aA) (th1 : Nat) (fo1 lo1 ps1 pb1 ip1 : Nat → Int32) (nb1 nv1 en1 sw1 : Nat) (fr1 ln1 tr1 ct1 rw1 dr1 : Nat → Int32), ((th1 = 0 ∧ OP_packByte A v u x A') ∨ (th1 ≠ 0 ∧ OT_packByte A v u th1 ∧ A' = A)) ∧ MO A' fo1 lo1 ps1 pb1 ip1 ∧ ws9 = wM am cI cZ mp th1 (aCr A') (aFd A') fo1 (aN A') lo1 (aNp A') ps1 pb1 ip1 nb1 fr1 ln1 tr1 nv1 ct1 rw1 dr1 en1 sw1 rest) bno) := by
  have hS := hA.okS
  obtain ⟨lg, n, S, fd, fn, mk, np, ql, qa, cr⟩ := A
  obtain ⟨hL, hX, hF, hG, hQ⟩ := hA
  obtain ⟨hRl, hfo, hqR, hip⟩ := hM
  dsimp only [aLg, aN, aSt, aFd, aFn, aMk, aNp, aQl, aQa, aCr] at *
  refine (c_M_packByte hRl hL hQ hqR (v := v) (u := u)).mono (bI_mono fun x ws9 h => ?_)
  rcases h with ⟨h1, nb1, nv1, en1, sw1, fr1, ln1, tr1, ct1, rw1, dr1, h9⟩ | ⟨h1, h2, nb1, nv1, en1, sw1, fr1, ln1, tr1, ct1, rw1, dr1, h9⟩ | h
  · exact ⟨(lg, n, S, fd, fn, mk, np, ql, qa, cr), 2, fo, lo, ps, pb, ip, nb1, nv1, en1, sw1, fr1, ln1, tr1, ct1, rw1, dr1, Or.inr ⟨by decide, Or.inl ⟨rfl, h1⟩, rfl⟩, ⟨hRl, hfo, hqR, hip⟩, h9⟩
  · exact ⟨(lg, n, S, fd, fn, mk, np, ql, qa, cr), 1, fo, lo, ps, pb, ip, nb1, nv1, en1, sw1, fr1, ln1, tr1, ct1, rw1, dr1, Or.inr ⟨by decide, Or.inr ⟨rfl, h1, h2⟩, rfl⟩, ⟨hRl, hfo, hqR, hip⟩, h9⟩
  · obtain ⟨h1, h2, h3, nb1, nv1, en1, sw1, fr1, ln1, tr1, ct1, rw1, dr1, h9⟩ := h
    exact ⟨(lg, n, S, fd, fn, mk, np, ql, qa, cr), 0, fo, lo, ps, pb, ip, nb1, nv1, en1, sw1, fr1, ln1, tr1, ct1, rw1, dr1, Or.inl ⟨rfl, h1, h2, h3, rfl⟩, ⟨hRl, hfo, hqR, hip⟩, h9⟩
set_option maxRecDepth 20000 in
set_option maxHeartbeats 4000000 in
theorem r_badAt {D : va_G} {cI cZ cJ : ClassId} {am : Nat → Nat} {mp th : Nat} {fo lo ps pb ip : Nat → Int32} {nb : Nat} {fr ln tr : Nat → Int32} {nv : Nat} {ct rw dr : Nat → Int32} {en sw : Nat} {rest : va_W} {A : aA} (hA : AI mp A) (hM : MO A fo lo ps pb ip)  : bC D bcl (tys3 cI cZ cJ) y_M_badAt ({ frames := 5, cells := 0, slots := 0, locals := 108 }) (wM am cI cZ mp th (aCr A) (aFd A) fo (aN A) lo (aNp A) ps pb ip nb fr ln tr nv ct rw dr en sw rest) [.ref (am 0)] (bI (fun x ws9 => ∃ (A' : aA) (th1 : Nat) (fo1 lo1 ps1 pb1 ip1 : Nat → Int32) (nb1 nv1 en1 sw1 : Nat) (fr1 ln1 tr1 ct1 rw1 dr1 : Nat → Int32), ((th1 = 0 ∧ OP_badAt A x A') ∨ (th1 ≠ 0 ∧ OT_badAt A th1 ∧ A' = A)) ∧ MO A' fo1 lo1 ps1 pb1 ip1 ∧ ws9 = wM am cI cZ mp th1 (aCr A') (aFd A') fo1 (aN A') lo1 (aNp A') ps1 pb1 ip1 nb1 fr1 ln1 tr1 nv1 ct1 rw1 dr1 en1 sw1 rest) bno) := by
  have hS := hA.okS
  obtain ⟨lg, n, S, fd, fn, mk, np, ql, qa, cr⟩ := A
  obtain ⟨hL, hX, hF, hG, hQ⟩ := hA
  obtain ⟨hRl, hfo, hqR, hip⟩ := hM
  dsimp only [aLg, aN, aSt, aFd, aFn, aMk, aNp, aQl, aQa, aCr] at *
  refine (c_M_badAt hRl hL hQ hqR).mono (bI_mono fun x ws9 h => ?_)
  rcases h with ⟨h1, nb1, nv1, en1, sw1, fr1, ln1, tr1, ct1, rw1, dr1, h9⟩ | ⟨h1, h⟩
  · exact ⟨(lg, n, S, fd, fn, mk, np, ql, qa, cr), 1, fo, lo, ps, pb, ip, nb1, nv1, en1, sw1, fr1, ln1, tr1, ct1, rw1, dr1, Or.inr ⟨by decide, ⟨rfl, h1⟩, rfl⟩, ⟨hRl, hfo, hqR, hip⟩, h9⟩
  · obtain ⟨h3, nb1, nv1, en1, sw1, fr1, ln1, tr1, ct1, rw1, dr1, h9⟩ := h
    exact ⟨(lg, n, S, fd, fn, mk, np, ql, qa, cr), 0, fo, lo, ps, pb, ip, nb1, nv1, en1, sw1, fr1, ln1, tr1, ct1, rw1, dr1, Or.inl ⟨rfl, h1, h3, rfl⟩, ⟨hRl, hfo, hqR, hip⟩, h9⟩
set_option maxRecDepth 20000 in
set_option maxHeartbeats 4000000 in
theorem r_feed {D : va_G} {cI cZ cJ : ClassId} {am : Nat → Nat} {mp th : Nat} {fo lo ps pb ip : Nat → Int32} {nb : Nat} {fr ln tr : Nat → Int32} {nv : Nat} {ct rw dr : Nat → Int32} {en sw : Nat} {rest : va_W} {A : aA} (hA : AI mp A) (hM : MO A fo lo ps pb ip) {v : Int32} : bC D bcl (tys3 cI cZ cJ) y_M_feed ({ frames := 5, cells := 0, slots := 0, locals := 108 }) (wM am cI cZ mp th (aCr A) (aFd A) fo (aN A) lo (aNp A) ps pb ip nb fr ln tr nv ct rw dr en sw rest) [.ref (am 0), .int v] (bI (fun x ws9 => ∃ (A' : aA) (th1 : Nat) (fo1 lo1 ps1 pb1 ip1 : Nat → Int32) (nb1 nv1 en1 sw1 : Nat) (fr1 ln1 tr1 ct1 rw1 dr1 : Nat → Int32), ((th1 = 0 ∧ OP_feed A v x A') ∨ (th1 ≠ 0 ∧ OT_feed A v th1 ∧ A' = A)) ∧ MO A' fo1 lo1 ps1 pb1 ip1 ∧ ws9 = wM am cI cZ mp th1 (aCr A') (aFd A') fo1 (aN A') lo1 (aNp A') ps1 pb1 ip1 nb1 fr1 ln1 tr1 nv1 ct1 rw1 dr1 en1 sw1 rest) bno) := by
  have hS := hA.okS
  obtain ⟨lg, n, S, fd, fn, mk, np, ql, qa, cr⟩ := A
  obtain ⟨hL, hX, hF, hG, hQ⟩ := hA
  obtain ⟨hRl, hfo, hqR, hip⟩ := hM
  dsimp only [aLg, aN, aSt, aFd, aFn, aMk, aNp, aQl, aQa, aCr] at *
  refine (c_M_feed hRl hL hfo (v := v)).mono (bI_mono fun x ws9 h => ?_)
  rcases h with ⟨h1, nb1, nv1, en1, sw1, fr1, ln1, tr1, ct1, rw1, dr1, h9⟩ | ⟨h1, h⟩
  · exact ⟨(lg, n, S, fd, fn, mk, np, ql, qa, cr), 1, fo, lo, ps, pb, ip, nb1, nv1, en1, sw1, fr1, ln1, tr1, ct1, rw1, dr1, Or.inr ⟨by decide, ⟨rfl, h1⟩, rfl⟩, ⟨hRl, hfo, hqR, hip⟩, h9⟩
  · rcases h with ⟨h3, h4, nb1, nv1, en1, sw1, fr1, ln1, tr1, ct1, rw1, dr1, h9⟩ | ⟨h3, h4, fo1, h5, nb1, nv1, en1, sw1, fr1, ln1, tr1, ct1, rw1, dr1, h9⟩
    · exact ⟨(lg, n, S, fd, fn, mk, np, ql, qa, cr), 0, fo, lo, ps, pb, ip, nb1, nv1, en1, sw1, fr1, ln1, tr1, ct1, rw1, dr1, Or.inl ⟨rfl, h1, Or.inl ⟨h3, h4, rfl⟩⟩, ⟨hRl, hfo, hqR, hip⟩, h9⟩
    · exact ⟨(lg, n, S, fd + 1, fup fn fd v.toNatClampNeg, mk, np, ql, qa, cr), 0, fo1, lo, ps, pb, ip, nb1, nv1, en1, sw1, fr1, ln1, tr1, ct1, rw1, dr1, Or.inl ⟨rfl, h1, Or.inr ⟨h3, h4, rfl⟩⟩, ⟨hRl, h5, hqR, hip⟩, h9⟩
set_option maxRecDepth 20000 in
set_option maxHeartbeats 4000000 in
theorem r_version {D : va_G} {cI cZ cJ : ClassId} {am : Nat → Nat} {mp th : Nat} {fo lo ps pb ip : Nat → Int32} {nb : Nat} {fr ln tr : Nat → Int32} {nv : Nat} {ct rw dr : Nat → Int32} {en sw : Nat} {rest : va_W} {A : aA} (hA : AI mp A) (hM : MO A fo lo ps pb ip)  : bC D bcl (tys3 cI cZ cJ) y_M_version ({ frames := 5, cells := 0, slots := 0, locals := 108 }) (wM am cI cZ mp th (aCr A) (aFd A) fo (aN A) lo (aNp A) ps pb ip nb fr ln tr nv ct rw dr en sw rest) [.ref (am 0)] (bI (fun x ws9 => ∃ (A' : aA) (th1 : Nat) (fo1 lo1 ps1 pb1 ip1 : Nat → Int32) (nb1 nv1 en1 sw1 : Nat) (fr1 ln1 tr1 ct1 rw1 dr1 : Nat → Int32), ((th1 = 0 ∧ OP_version A x A') ∨ (th1 ≠ 0 ∧ OT_version A th1 ∧ A' = A)) ∧ MO A' fo1 lo1 ps1 pb1 ip1 ∧ ws9 = wM am cI cZ mp th1 (aCr A') (aFd A') fo1 (aN A') lo1 (aNp A') ps1 pb1 ip1 nb1 fr1 ln1 tr1 nv1 ct1 rw1 dr1 en1 sw1 rest) bno) := by
  have hS := hA.okS
  obtain ⟨lg, n, S, fd, fn, mk, np, ql, qa, cr⟩ := A
  obtain ⟨hL, hX, hF, hG, hQ⟩ := hA
  obtain ⟨hRl, hfo, hqR, hip⟩ := hM
  dsimp only [aLg, aN, aSt, aFd, aFn, aMk, aNp, aQl, aQa, aCr] at *
  refine (c_M_version hRl hL).mono (bI_mono fun x ws9 h => ?_)
  rcases h with ⟨h1, nb1, nv1, en1, sw1, fr1, ln1, tr1, ct1, rw1, dr1, h9⟩ | ⟨h1, h⟩
  · exact ⟨(lg, n, S, fd, fn, mk, np, ql, qa, cr), 1, fo, lo, ps, pb, ip, nb1, nv1, en1, sw1, fr1, ln1, tr1, ct1, rw1, dr1, Or.inr ⟨by decide, ⟨rfl, h1⟩, rfl⟩, ⟨hRl, hfo, hqR, hip⟩, h9⟩
  · rcases h with ⟨h3, h4, nb1, nv1, en1, sw1, fr1, ln1, tr1, ct1, rw1, dr1, h9⟩ | ⟨h3, h4, lo1, h5, nb1, nv1, en1, sw1, fr1, ln1, tr1, ct1, rw1, dr1, h9⟩
    · exact ⟨(lg, n, S, fd, fn, mk, np, ql, qa, cr), 0, fo, lo, ps, pb, ip, nb1, nv1, en1, sw1, fr1, ln1, tr1, ct1, rw1, dr1, Or.inl ⟨rfl, h1, Or.inl ⟨h3, h4, rfl⟩⟩, ⟨hRl, hfo, hqR, hip⟩, h9⟩
    · exact ⟨(fup lg n 3, n + 1, ac3 S, fd, fn, mk, np, ql, qa, cr), 0, fo, lo1, ps, pb, ip, nb1, nv1, en1, sw1, fr1, ln1, tr1, ct1, rw1, dr1, Or.inl ⟨rfl, h1, Or.inr ⟨h3, h4, rfl⟩⟩, ⟨h5, hfo, hqR, hip⟩, h9⟩
set_option maxRecDepth 20000 in
set_option maxHeartbeats 4000000 in
theorem r_sweep {D : va_G} {cI cZ cJ : ClassId} {am : Nat → Nat} {mp th : Nat} {fo lo ps pb ip : Nat → Int32} {nb : Nat} {fr ln tr : Nat → Int32} {nv : Nat} {ct rw dr : Nat → Int32} {en sw : Nat} {rest : va_W} {A : aA} (hA : AI mp A) (hM : MO A fo lo ps pb ip)  : bC D bcl (tys3 cI cZ cJ) y_M_sweep ({ frames := 5, cells := 0, slots := 0, locals := 108 }) (wM am cI cZ mp th (aCr A) (aFd A) fo (aN A) lo (aNp A) ps pb ip nb fr ln tr nv ct rw dr en sw rest) [.ref (am 0)] (bI (fun x ws9 => ∃ (A' : aA) (th1 : Nat) (fo1 lo1 ps1 pb1 ip1 : Nat → Int32) (nb1 nv1 en1 sw1 : Nat) (fr1 ln1 tr1 ct1 rw1 dr1 : Nat → Int32), ((th1 = 0 ∧ OP_sweep A x A') ∨ (th1 ≠ 0 ∧ OT_sweep A th1 ∧ A' = A)) ∧ MO A' fo1 lo1 ps1 pb1 ip1 ∧ ws9 = wM am cI cZ mp th1 (aCr A') (aFd A') fo1 (aN A') lo1 (aNp A') ps1 pb1 ip1 nb1 fr1 ln1 tr1 nv1 ct1 rw1 dr1 en1 sw1 rest) bno) := by
  have hS := hA.okS
  obtain ⟨lg, n, S, fd, fn, mk, np, ql, qa, cr⟩ := A
  obtain ⟨hL, hX, hF, hG, hQ⟩ := hA
  obtain ⟨hRl, hfo, hqR, hip⟩ := hM
  dsimp only [aLg, aN, aSt, aFd, aFn, aMk, aNp, aQl, aQa, aCr] at *
  refine (c_M_sweep hRl hL).mono (bI_mono fun x ws9 h => ?_)
  rcases h with ⟨h1, nb1, nv1, en1, sw1, fr1, ln1, tr1, ct1, rw1, dr1, h9⟩ | ⟨h1, h⟩
  · exact ⟨(lg, n, S, fd, fn, mk, np, ql, qa, cr), 1, fo, lo, ps, pb, ip, nb1, nv1, en1, sw1, fr1, ln1, tr1, ct1, rw1, dr1, Or.inr ⟨by decide, ⟨rfl, h1⟩, rfl⟩, ⟨hRl, hfo, hqR, hip⟩, h9⟩
  · rcases h with ⟨h3, h4, nb1, nv1, en1, sw1, fr1, ln1, tr1, ct1, rw1, dr1, h9⟩ | ⟨h3, h4, lo1, h5, nb1, nv1, en1, sw1, fr1, ln1, tr1, ct1, rw1, dr1, h9⟩
    · exact ⟨(lg, n, S, fd, fn, mk, np, ql, qa, cr), 0, fo, lo, ps, pb, ip, nb1, nv1, en1, sw1, fr1, ln1, tr1, ct1, rw1, dr1, Or.inl ⟨rfl, h1, Or.inl ⟨h3, h4, rfl⟩⟩, ⟨hRl, hfo, hqR, hip⟩, h9⟩
    · exact ⟨(fup lg n 5, n + 1, ac5 S, fd, fn, mk, np, ql, qa, cr), 0, fo, lo1, ps, pb, ip, nb1, nv1, en1, sw1, fr1, ln1, tr1, ct1, rw1, dr1, Or.inl ⟨rfl, h1, Or.inr ⟨h3, h4, rfl⟩⟩, ⟨h5, hfo, hqR, hip⟩, h9⟩
set_option maxRecDepth 20000 in
set_option maxHeartbeats 4000000 in
theorem r_drop {D : va_G} {cI cZ cJ : ClassId} {am : Nat → Nat} {mp th : Nat} {fo lo ps pb ip : Nat → Int32} {nb : Nat} {fr ln tr : Nat → Int32} {nv : Nat} {ct rw dr : Nat → Int32} {en sw : Nat} {rest : va_W} {A : aA} (hA : AI mp A) (hM : MO A fo lo ps pb ip) {v : Int32} : bC D bcl (tys3 cI cZ cJ) y_M_drop ({ frames := 5, cells := 0, slots := 0, locals := 108 }) (wM am cI cZ mp th (aCr A) (aFd A) fo (aN A) lo (aNp A) ps pb ip nb fr ln tr nv ct rw dr en sw rest) [.ref (am 0), .int v] (bI (fun x ws9 => ∃ (A' : aA) (th1 : Nat) (fo1 lo1 ps1 pb1 ip1 : Nat → Int32) (nb1 nv1 en1 sw1 : Nat) (fr1 ln1 tr1 ct1 rw1 dr1 : Nat → Int32), ((th1 = 0 ∧ OP_drop A v x A') ∨ (th1 ≠ 0 ∧ OT_drop A v th1 ∧ A' = A)) ∧ MO A' fo1 lo1 ps1 pb1 ip1 ∧ ws9 = wM am cI cZ mp th1 (aCr A') (aFd A') fo1 (aN A') lo1 (aNp A') ps1 pb1 ip1 nb1 fr1 ln1 tr1 nv1 ct1 rw1 dr1 en1 sw1 rest) bno) := by
  have hS := hA.okS
  obtain ⟨lg, n, S, fd, fn, mk, np, ql, qa, cr⟩ := A
  obtain ⟨hL, hX, hF, hG, hQ⟩ := hA
  obtain ⟨hRl, hfo, hqR, hip⟩ := hM
  dsimp only [aLg, aN, aSt, aFd, aFn, aMk, aNp, aQl, aQa, aCr] at *
  refine (c_M_drop hRl hL (v := v)).mono (bI_mono fun x ws9 h => ?_)
  rcases h with ⟨h1, nb1, nv1, en1, sw1, fr1, ln1, tr1, ct1, rw1, dr1, h9⟩ | ⟨h1, h2, nb1, nv1, en1, sw1, fr1, ln1, tr1, ct1, rw1, dr1, h9⟩ | h
  · exact ⟨(lg, n, S, fd, fn, mk, np, ql, qa, cr), 2, fo, lo, ps, pb, ip, nb1, nv1, en1, sw1, fr1, ln1, tr1, ct1, rw1, dr1, Or.inr ⟨by decide, Or.inl ⟨rfl, h1⟩, rfl⟩, ⟨hRl, hfo, hqR, hip⟩, h9⟩
  · exact ⟨(lg, n, S, fd, fn, mk, np, ql, qa, cr), 1, fo, lo, ps, pb, ip, nb1, nv1, en1, sw1, fr1, ln1, tr1, ct1, rw1, dr1, Or.inr ⟨by decide, Or.inr ⟨rfl, h1, h2⟩, rfl⟩, ⟨hRl, hfo, hqR, hip⟩, h9⟩
  · obtain ⟨h1, h2, h⟩ := h
    rcases h with ⟨h3, h4, nb1, nv1, en1, sw1, fr1, ln1, tr1, ct1, rw1, dr1, h9⟩ | ⟨h3, h4, lo1, h5, nb1, nv1, en1, sw1, fr1, ln1, tr1, ct1, rw1, dr1, h9⟩
    · exact ⟨(lg, n, S, fd, fn, mk, np, ql, qa, cr), 0, fo, lo, ps, pb, ip, nb1, nv1, en1, sw1, fr1, ln1, tr1, ct1, rw1, dr1, Or.inl ⟨rfl, h1, h2, Or.inl ⟨h3, h4, rfl⟩⟩, ⟨hRl, hfo, hqR, hip⟩, h9⟩
    · exact ⟨(rec2 lg n 4 v.toNatClampNeg, n + 2, ac4 v.toNatClampNeg S, fd, fn, mk, np, ql, qa, cr), 0, fo, lo1, ps, pb, ip, nb1, nv1, en1, sw1, fr1, ln1, tr1, ct1, rw1, dr1, Or.inl ⟨rfl, h1, h2, Or.inr ⟨h3, h4, rfl⟩⟩, ⟨h5, hfo, hqR, hip⟩, h9⟩
set_option maxRecDepth 20000 in
set_option maxHeartbeats 4000000 in
theorem r_block {D : va_G} {cI cZ cJ : ClassId} {am : Nat → Nat} {mp th : Nat} {fo lo ps pb ip : Nat → Int32} {nb : Nat} {fr ln tr : Nat → Int32} {nv : Nat} {ct rw dr : Nat → Int32} {en sw : Nat} {rest : va_W} {A : aA} (hA : AI mp A) (hM : MO A fo lo ps pb ip)  : bC D bcl (tys3 cI cZ cJ) y_M_block ({ frames := 5, cells := 0, slots := 0, locals := 108 }) (wM am cI cZ mp th (aCr A) (aFd A) fo (aN A) lo (aNp A) ps pb ip nb fr ln tr nv ct rw dr en sw rest) [.ref (am 0)] (bI (fun x ws9 => ∃ (A' : aA) (th1 : Nat) (fo1 lo1 ps1 pb1 ip1 : Nat → Int32) (nb1 nv1 en1 sw1 : Nat) (fr1 ln1 tr1 ct1 rw1 dr1 : Nat → Int32), ((th1 = 0 ∧ OP_block A x A') ∨ (th1 ≠ 0 ∧ OT_block A th1 ∧ A' = A)) ∧ MO A' fo1 lo1 ps1 pb1 ip1 ∧ ws9 = wM am cI cZ mp th1 (aCr A') (aFd A') fo1 (aN A') lo1 (aNp A') ps1 pb1 ip1 nb1 fr1 ln1 tr1 nv1 ct1 rw1 dr1 en1 sw1 rest) bno) := by
  have hS := hA.okS
  obtain ⟨lg, n, S, fd, fn, mk, np, ql, qa, cr⟩ := A
  obtain ⟨hL, hX, hF, hG, hQ⟩ := hA
  obtain ⟨hRl, hfo, hqR, hip⟩ := hM
  dsimp only [aLg, aN, aSt, aFd, aFn, aMk, aNp, aQl, aQa, aCr] at *
  refine (c_M_block hRl hL hfo).mono (bI_mono fun x ws9 h => ?_)
  rcases h with ⟨h1, nb1, nv1, en1, sw1, fr1, ln1, tr1, ct1, rw1, dr1, h9⟩ | ⟨h1, h⟩
  · exact ⟨(lg, n, S, fd, fn, mk, np, ql, qa, cr), 1, fo, lo, ps, pb, ip, nb1, nv1, en1, sw1, fr1, ln1, tr1, ct1, rw1, dr1, Or.inr ⟨by decide, ⟨rfl, h1⟩, rfl⟩, ⟨hRl, hfo, hqR, hip⟩, h9⟩
  · rcases h with ⟨h3, h4, nb1, nv1, en1, sw1, fr1, ln1, tr1, ct1, rw1, dr1, h9⟩ | ⟨h3, h⟩
    · exact ⟨(lg, n, S, fd, fn, mk, np, ql, qa, cr), 0, fo, lo, ps, pb, ip, nb1, nv1, en1, sw1, fr1, ln1, tr1, ct1, rw1, dr1, Or.inl ⟨rfl, h1, Or.inl ⟨h3, h4, rfl⟩⟩, ⟨hRl, hfo, hqR, hip⟩, h9⟩
    · rcases h with ⟨j, hj, hq, hm, h⟩ | ⟨hq, h⟩
      · rcases h with ⟨h4, h5, nb1, nv1, en1, sw1, fr1, ln1, tr1, ct1, rw1, dr1, h9⟩ | ⟨h4, h5, lo1, h6, nb1, nv1, en1, sw1, fr1, ln1, tr1, ct1, rw1, dr1, h9⟩
        · exact ⟨(lg, n, S, fd, fn, mk, np, ql, qa, cr), 0, fo, lo, ps, pb, ip, nb1, nv1, en1, sw1, fr1, ln1, tr1, ct1, rw1, dr1, Or.inl ⟨rfl, h1, Or.inr ⟨h3, Or.inl ⟨j, hj, hq, hm, Or.inl ⟨h4, h5, rfl⟩⟩⟩⟩, ⟨hRl, hfo, hqR, hip⟩, h9⟩
        · exact ⟨(rec2 lg n 2 j, n + 2, ac2 j S, 0, fn, mk, np, ql, qa, cr), 0, fo, lo1, ps, pb, ip, nb1, nv1, en1, sw1, fr1, ln1, tr1, ct1, rw1, dr1, Or.inl ⟨rfl, h1, Or.inr ⟨h3, Or.inl ⟨j, hj, hq, hm, Or.inr ⟨h4, h5, rfl⟩⟩⟩⟩, ⟨h6, ⟨Nat.zero_le _, fun i hi => absurd hi (Nat.not_lt_zero _)⟩, hqR, hip⟩, h9⟩
      · rcases h with ⟨h4, h5, nb1, nv1, en1, sw1, fr1, ln1, tr1, ct1, rw1, dr1, h9⟩ | ⟨h4, h5, lo1, h6, nb1, nv1, en1, sw1, fr1, ln1, tr1, ct1, rw1, dr1, h9⟩
        · exact ⟨(lg, n, S, fd, fn, mk, np, ql, qa, cr), 0, fo, lo, ps, pb, ip, nb1, nv1, en1, sw1, fr1, ln1, tr1, ct1, rw1, dr1, Or.inl ⟨rfl, h1, Or.inr ⟨h3, Or.inr ⟨hq, Or.inl ⟨h4, h5, rfl⟩⟩⟩⟩, ⟨hRl, hfo, hqR, hip⟩, h9⟩
        · exact ⟨(rec1 lg n fd fn, n + 2 + fd, ac1 n fd S, 0, fn, mk, np, ql, qa, cr), 0, fo, lo1, ps, pb, ip, nb1, nv1, en1, sw1, fr1, ln1, tr1, ct1, rw1, dr1, Or.inl ⟨rfl, h1, Or.inr ⟨h3, Or.inr ⟨hq, Or.inr ⟨h4, h5, rfl⟩⟩⟩⟩, ⟨h6, ⟨Nat.zero_le _, fun i hi => absurd hi (Nat.not_lt_zero _)⟩, hqR, hip⟩, h9⟩
set_option maxRecDepth 20000 in
set_option maxHeartbeats 4000000 in
theorem r_pack {D : va_G} {cI cZ cJ : ClassId} {am : Nat → Nat} {mp th : Nat} {fo lo ps pb ip : Nat → Int32} {nb : Nat} {fr ln tr : Nat → Int32} {nv : Nat} {ct rw dr : Nat → Int32} {en sw : Nat} {rest : va_W} {A : aA} (hA : AI mp A) (hM : MO A fo lo ps pb ip)  : bC D bcl (tys3 cI cZ cJ) y_M_pack ({ frames := 5, cells := 0, slots := 0, locals := 108 }) (wM am cI cZ mp th (aCr A) (aFd A) fo (aN A) lo (aNp A) ps pb ip nb fr ln tr nv ct rw dr en sw rest) [.ref (am 0)] (bI (fun x ws9 => ∃ (A' : aA) (th1 : Nat) (fo1 lo1 ps1 pb1 ip1 : Nat → Int32) (nb1 nv1 en1 sw1 : Nat) (fr1 ln1 tr1 ct1 rw1 dr1 : Nat → Int32), ((th1 = 0 ∧ OP_pack mp A x A') ∨ (th1 ≠ 0 ∧ OT_pack mp A th1 ∧ A' = A)) ∧ MO A' fo1 lo1 ps1 pb1 ip1 ∧ ws9 = wM am cI cZ mp th1 (aCr A') (aFd A') fo1 (aN A') lo1 (aNp A') ps1 pb1 ip1 nb1 fr1 ln1 tr1 nv1 ct1 rw1 dr1 en1 sw1 rest) bno) := by
  have hS := hA.okS
  obtain ⟨lg, n, S, fd, fn, mk, np, ql, qa, cr⟩ := A
  obtain ⟨hL, hX, hF, hG, hQ⟩ := hA
  obtain ⟨hRl, hfo, hqR, hip⟩ := hM
  dsimp only [aLg, aN, aSt, aFd, aFn, aMk, aNp, aQl, aQa, aCr] at *
  refine (c_M_pack hRl hL hQ hqR hip).mono (bI_mono fun x ws9 h => ?_)
  rcases h with ⟨h1, nb1, nv1, en1, sw1, fr1, ln1, tr1, ct1, rw1, dr1, h9⟩ | ⟨h1, h⟩
  · exact ⟨(lg, n, S, fd, fn, mk, np, ql, qa, cr), 1, fo, lo, ps, pb, ip, nb1, nv1, en1, sw1, fr1, ln1, tr1, ct1, rw1, dr1, Or.inr ⟨by decide, ⟨rfl, h1⟩, rfl⟩, ⟨hRl, hfo, hqR, hip⟩, h9⟩
  · rcases h with ⟨h3, h4, nb1, nv1, en1, sw1, fr1, ln1, tr1, ct1, rw1, dr1, h9⟩ | ⟨h3, h4, ⟨ip1, ps1, pb1, h5, h6, nb1, nv1, en1, sw1, fr1, ln1, tr1, ct1, rw1, dr1, h9⟩⟩
    · exact ⟨(lg, n, S, fd, fn, mk, np, ql, qa, cr), 0, fo, lo, ps, pb, ip, nb1, nv1, en1, sw1, fr1, ln1, tr1, ct1, rw1, dr1, Or.inl ⟨rfl, h1, Or.inl ⟨h3, h4, rfl⟩⟩, ⟨hRl, hfo, hqR, hip⟩, h9⟩
    · exact ⟨(lg, n, S, fd, fn, pkM (sTh S) mk (sNb S), np + 1, _, _, cr), 0, fo, lo, ps1, pb1, ip1, nb1, nv1, en1, sw1, fr1, ln1, tr1, ct1, rw1, dr1, Or.inl ⟨rfl, h1, Or.inr ⟨h3, h4, rfl⟩⟩, ⟨hRl, hfo, h6, h5⟩, h9⟩
set_option maxRecDepth 20000 in
set_option maxHeartbeats 4000000 in
theorem r_poke {D : va_G} {cI cZ cJ : ClassId} {am : Nat → Nat} {mp th : Nat} {fo lo ps pb ip : Nat → Int32} {nb : Nat} {fr ln tr : Nat → Int32} {nv : Nat} {ct rw dr : Nat → Int32} {en sw : Nat} {rest : va_W} {A : aA} (hA : AI mp A) (hM : MO A fo lo ps pb ip) {v u mm : Int32} : bC D bcl (tys3 cI cZ cJ) y_M_poke ({ frames := 5, cells := 0, slots := 0, locals := 108 }) (wM am cI cZ mp th (aCr A) (aFd A) fo (aN A) lo (aNp A) ps pb ip nb fr ln tr nv ct rw dr en sw rest) [.ref (am 0), .int v, .int u, .int mm] (bI (fun x ws9 => ∃ (A' : aA) (th1 : Nat) (fo1 lo1 ps1 pb1 ip1 : Nat → Int32) (nb1 nv1 en1 sw1 : Nat) (fr1 ln1 tr1 ct1 rw1 dr1 : Nat → Int32), ((th1 = 0 ∧ OP_poke A v u mm x A') ∨ (th1 ≠ 0 ∧ OT_poke A v u mm th1 ∧ A' = A)) ∧ MO A' fo1 lo1 ps1 pb1 ip1 ∧ ws9 = wM am cI cZ mp th1 (aCr A') (aFd A') fo1 (aN A') lo1 (aNp A') ps1 pb1 ip1 nb1 fr1 ln1 tr1 nv1 ct1 rw1 dr1 en1 sw1 rest) bno) := by
  have hS := hA.okS
  obtain ⟨lg, n, S, fd, fn, mk, np, ql, qa, cr⟩ := A
  obtain ⟨hL, hX, hF, hG, hQ⟩ := hA
  obtain ⟨hRl, hfo, hqR, hip⟩ := hM
  dsimp only [aLg, aN, aSt, aFd, aFn, aMk, aNp, aQl, aQa, aCr] at *
  refine (c_M_poke hRl hL hQ hqR (v := v) (u := u) (mm := mm)).mono (bI_mono fun x ws9 h => ?_)
  rcases h with ⟨h1, nb1, nv1, en1, sw1, fr1, ln1, tr1, ct1, rw1, dr1, h9⟩ | ⟨h1, h2, nb1, nv1, en1, sw1, fr1, ln1, tr1, ct1, rw1, dr1, h9⟩ | h
  · exact ⟨(lg, n, S, fd, fn, mk, np, ql, qa, cr), 2, fo, lo, ps, pb, ip, nb1, nv1, en1, sw1, fr1, ln1, tr1, ct1, rw1, dr1, Or.inr ⟨by decide, Or.inl ⟨rfl, h1⟩, rfl⟩, ⟨hRl, hfo, hqR, hip⟩, h9⟩
  · exact ⟨(lg, n, S, fd, fn, mk, np, ql, qa, cr), 1, fo, lo, ps, pb, ip, nb1, nv1, en1, sw1, fr1, ln1, tr1, ct1, rw1, dr1, Or.inr ⟨by decide, Or.inr ⟨rfl, h1, h2⟩, rfl⟩, ⟨hRl, hfo, hqR, hip⟩, h9⟩
  · obtain ⟨h1, h2, h3, pb1, h4, nb1, nv1, en1, sw1, fr1, ln1, tr1, ct1, rw1, dr1, h9⟩ := h
    exact ⟨(lg, n, S, fd, fn, mk, np, ql, _, cr), 0, fo, lo, ps, pb1, ip, nb1, nv1, en1, sw1, fr1, ln1, tr1, ct1, rw1, dr1, Or.inl ⟨rfl, h1, h2, h3, rfl⟩, ⟨hRl, hfo, h4, hip⟩, h9⟩
set_option maxRecDepth 20000 in
set_option maxHeartbeats 4000000 in
theorem r_crash {D : va_G} {cI cZ cJ : ClassId} {am : Nat → Nat} {mp th : Nat} {fo lo ps pb ip : Nat → Int32} {nb : Nat} {fr ln tr : Nat → Int32} {nv : Nat} {ct rw dr : Nat → Int32} {en sw : Nat} {rest : va_W} {A : aA} (hA : AI mp A) (hM : MO A fo lo ps pb ip) {v : Int32} : bC D bcl (tys3 cI cZ cJ) y_M_crash ({ frames := 5, cells := 0, slots := 0, locals := 108 }) (wM am cI cZ mp th (aCr A) (aFd A) fo (aN A) lo (aNp A) ps pb ip nb fr ln tr nv ct rw dr en sw rest) [.ref (am 0), .int v] (bI (fun x ws9 => ∃ (A' : aA) (th1 : Nat) (fo1 lo1 ps1 pb1 ip1 : Nat → Int32) (nb1 nv1 en1 sw1 : Nat) (fr1 ln1 tr1 ct1 rw1 dr1 : Nat → Int32), ((th1 = 0 ∧ OP_crash A v x A') ∨ (th1 ≠ 0 ∧ OT_crash A v th1 ∧ A' = A)) ∧ MO A' fo1 lo1 ps1 pb1 ip1 ∧ ws9 = wM am cI cZ mp th1 (aCr A') (aFd A') fo1 (aN A') lo1 (aNp A') ps1 pb1 ip1 nb1 fr1 ln1 tr1 nv1 ct1 rw1 dr1 en1 sw1 rest) bno) := by
  have hS := hA.okS
  obtain ⟨lg, n, S, fd, fn, mk, np, ql, qa, cr⟩ := A
  obtain ⟨hL, hX, hF, hG, hQ⟩ := hA
  obtain ⟨hRl, hfo, hqR, hip⟩ := hM
  dsimp only [aLg, aN, aSt, aFd, aFn, aMk, aNp, aQl, aQa, aCr] at *
  refine (c_M_crash hRl hL (v := v)).mono (bI_mono fun x ws9 h => ?_)
  rcases h with ⟨h1, nb1, nv1, en1, sw1, fr1, ln1, tr1, ct1, rw1, dr1, h9⟩ | ⟨h1, h2, nb1, nv1, en1, sw1, fr1, ln1, tr1, ct1, rw1, dr1, h9⟩ | h
  · exact ⟨(lg, n, S, fd, fn, mk, np, ql, qa, cr), 2, fo, lo, ps, pb, ip, nb1, nv1, en1, sw1, fr1, ln1, tr1, ct1, rw1, dr1, Or.inr ⟨by decide, Or.inl ⟨rfl, h1⟩, rfl⟩, ⟨hRl, hfo, hqR, hip⟩, h9⟩
  · exact ⟨(lg, n, S, fd, fn, mk, np, ql, qa, cr), 1, fo, lo, ps, pb, ip, nb1, nv1, en1, sw1, fr1, ln1, tr1, ct1, rw1, dr1, Or.inr ⟨by decide, Or.inr ⟨rfl, h1, h2⟩, rfl⟩, ⟨hRl, hfo, hqR, hip⟩, h9⟩
  · obtain ⟨h1, h2, h3, ip1, h4, nb1, nv1, en1, sw1, fr1, ln1, tr1, ct1, rw1, dr1, h9⟩ := h
    have hv : v.toNatClampNeg ≤ n := by
      obtain ⟨j, hj, rfl⟩ := kp_btw h2 (Nat.lt_of_le_of_lt hRl.1 (by decide))
      rw [nI_clamp (by have := hRl.1; omega)]; exact hj
    exact ⟨(lg, v.toNatClampNeg, aS0, 0, fn, (fun _ => false), 0, (fun _ => 0), qa, true), 0, fo, lo, ps, pb, ip1, nb1, nv1, en1, sw1, fr1, ln1, tr1, ct1, rw1, dr1, Or.inl ⟨rfl, h1, h2, h3, rfl⟩, ⟨lg_R_cut hRl hv, ⟨Nat.zero_le _, fun i hi => absurd hi (Nat.not_lt_zero _)⟩, ⟨fun p hp => absurd hp (Nat.not_lt_zero _), fun p i hp => absurd hp (Nat.not_lt_zero _)⟩, h4⟩, h9⟩
set_option maxRecDepth 20000 in
set_option maxHeartbeats 4000000 in
theorem r_reopen {D : va_G} {cI cZ cJ : ClassId} {am : Nat → Nat} {mp th : Nat} {fo lo ps pb ip : Nat → Int32} {nb : Nat} {fr ln tr : Nat → Int32} {nv : Nat} {ct rw dr : Nat → Int32} {en sw : Nat} {rest : va_W} {A : aA} (hA : AI mp A) (hM : MO A fo lo ps pb ip)  {r : Nat} (hcut : aCr A = true → cutOk (aLg A) (aN A) r) : bC D bcl (tys3 cI cZ cJ) y_M_reopen ({ frames := 4, cells := 0, slots := 0, locals := 87 }) (wM am cI cZ mp th (aCr A) (aFd A) fo (aN A) lo (aNp A) ps pb ip nb fr ln tr nv ct rw dr en sw rest) [.ref (am 0)] (bI (fun x ws9 => ∃ (A' : aA) (th1 : Nat) (fo1 lo1 ps1 pb1 ip1 : Nat → Int32) (nb1 nv1 en1 sw1 : Nat) (fr1 ln1 tr1 ct1 rw1 dr1 : Nat → Int32), ((th1 = 0 ∧ OP_reopen r A x A') ∨ (th1 ≠ 0 ∧ OT_reopen r A th1 ∧ A' = A)) ∧ MO A' fo1 lo1 ps1 pb1 ip1 ∧ ws9 = wM am cI cZ mp th1 (aCr A') (aFd A') fo1 (aN A') lo1 (aNp A') ps1 pb1 ip1 nb1 fr1 ln1 tr1 nv1 ct1 rw1 dr1 en1 sw1 rest) bno) := by
  have hS := hA.okS
  obtain ⟨lg, n, S, fd, fn, mk, np, ql, qa, cr⟩ := A
  obtain ⟨hL, hX, hF, hG, hQ⟩ := hA
  obtain ⟨hRl, hfo, hqR, hip⟩ := hM
  dsimp only [aLg, aN, aSt, aFd, aFn, aMk, aNp, aQl, aQa, aCr] at *
  refine (c_M_reopen (r := r) hRl hcut).mono (bI_mono fun x ws9 h => ?_)
  rcases h with ⟨h1, nb1, nv1, en1, sw1, fr1, ln1, tr1, ct1, rw1, dr1, h9⟩ | h
  · exact ⟨(lg, n, S, fd, fn, mk, np, ql, qa, cr), 1, fo, lo, ps, pb, ip, nb1, nv1, en1, sw1, fr1, ln1, tr1, ct1, rw1, dr1, Or.inr ⟨by decide, ⟨rfl, h1⟩, rfl⟩, ⟨hRl, hfo, hqR, hip⟩, h9⟩
  · obtain ⟨h1, h3, nb1, nv1, en1, sw1, fr1, ln1, tr1, ct1, rw1, dr1, h9⟩ := h
    exact ⟨(lg, (chS lg r).1, (chS lg r).2, fd, fn, mk, np, ql, qa, false), 0, fo, lo, ps, pb, ip, nb1, nv1, en1, sw1, fr1, ln1, tr1, ct1, rw1, dr1, Or.inl ⟨rfl, h1, h3, rfl⟩, ⟨lg_R_cut hRl (hcut h1).2.1, hfo, hqR, hip⟩, h9⟩
theorem u_gen {P : Int32 → aA → Prop} {T : Nat → Prop} {A A1 A2 : aA} {k th : Nat} {ov : Int64} {y : Int32} (hf : ∀ x y B C, P x B → P y C → x = y ∧ B = C) (hd : ∀ x B k, P x B → ¬ T k) (ht : ∀ a b, T a → T b → a = b) (hk : (k = 0 ∧ ∃ x, P x A1 ∧ ov = x.toInt64) ∨ (k ≠ 0 ∧ T k ∧ A1 = A)) (hm : (th = 0 ∧ P y A2) ∨ (th ≠ 0 ∧ T th ∧ A2 = A)) : k = th ∧ A1 = A2 ∧ (k = 0 → ov = y.toInt64) := by
  rcases hk with ⟨k1, x, k2, k3⟩ | ⟨k1, k2, k3⟩
  · rcases hm with ⟨m1, m2⟩ | ⟨m1, m2, m3⟩
    · obtain ⟨e1, e2⟩ := hf _ _ _ _ k2 m2
      exact ⟨k1.trans m1.symm, e2, fun _ => by rw [k3, e1]⟩
    · exact absurd m2 (hd _ _ _ k2)
  · rcases hm with ⟨m1, m2⟩ | ⟨m1, m2, m3⟩
    · exact absurd k2 (hd _ _ _ m2)
    · exact ⟨ht _ _ k2 m2, k3.trans m3.symm, fun z => absurd z k1⟩
theorem bad_one {ql : Nat → Nat} {qa : Nat → Nat → Nat} {np : Nat} {x y : Int32} (h : (∃ p, p < np ∧ x = nI p ∧ badP ql qa p ∧ ∀ p0, p0 < p → ¬ badP ql qa p0) ∨ (x = -1 ∧ ∀ p, p < np → ¬ badP ql qa p)) (g : (∃ p, p < np ∧ y = nI p ∧ badP ql qa p ∧ ∀ p0, p0 < p → ¬ badP ql qa p0) ∨ (y = -1 ∧ ∀ p, p < np → ¬ badP ql qa p)) : x = y := by
  rcases h with ⟨p, a1, a2, a3, a4⟩ | ⟨a1, a2⟩ <;> rcases g with ⟨q, b1, b2, b3, b4⟩ | ⟨b1, b2⟩
  · rw [a2, b2, min_one a3 b3 a4 b4]
  · exact absurd a3 (b2 p a1)
  · exact absurd b3 (a2 q b1)
  · rw [a1, b1]
theorem u_feed {A A1 A2 : aA} {v : Int32} {k th : Nat} {ov : Int64} {y : Int32} (hk : (k = 0 ∧ ∃ x, OP_feed A v x A1 ∧ ov = x.toInt64) ∨ (k ≠ 0 ∧ OT_feed A v k ∧ A1 = A)) (hm : (th = 0 ∧ OP_feed A v y A2) ∨ (th ≠ 0 ∧ OT_feed A v th ∧ A2 = A)) : k = th ∧ A1 = A2 ∧ (k = 0 → ov = y.toInt64) := by
  refine u_gen (P := (fun x A' => OP_feed A v x A')) (T := (fun k => OT_feed A v k)) (fun x y B C h g => ?_) (fun x B k p t => ?_) (fun a b s t => ?_) hk hm
  · rcases h.2 with ⟨a1, a2, a3⟩ | ⟨a1, a2, a3⟩ <;> rcases g.2 with ⟨b1, b2, b3⟩ | ⟨b1, b2, b3⟩ <;> first | exact ⟨a2.trans b2.symm, a3.trans b3.symm⟩ | exact absurd b1 a1 | exact absurd a1 b1
  · exact absurd (p.1.symm.trans t.2) (by decide)
  · exact s.1.trans t.1.symm
theorem u_block {A A1 A2 : aA} {k th : Nat} {ov : Int64} {y : Int32} (hk : (k = 0 ∧ ∃ x, OP_block A x A1 ∧ ov = x.toInt64) ∨ (k ≠ 0 ∧ OT_block A k ∧ A1 = A)) (hm : (th = 0 ∧ OP_block A y A2) ∨ (th ≠ 0 ∧ OT_block A th ∧ A2 = A)) : k = th ∧ A1 = A2 ∧ (k = 0 → ov = y.toInt64) := by
  refine u_gen (P := (fun x A' => OP_block A x A')) (T := (fun k => OT_block A k)) (fun x y B C h g => ?_) (fun x B k p t => ?_) (fun a b s t => ?_) hk hm
  · rcases h.2 with ⟨a1, a2, a3⟩ | ⟨a0, h2⟩ <;> rcases g.2 with ⟨b1, b2, b3⟩ | ⟨b0, g2⟩
    · exact ⟨a2.trans b2.symm, a3.trans b3.symm⟩
    · exfalso; omega
    · exfalso; omega
    · rcases h2 with ⟨j, hj, hq, hm, h3⟩ | ⟨hq, h3⟩ <;> rcases g2 with ⟨j', gj, gq, gm, g3⟩ | ⟨gq, g3⟩
      · obtain rfl := min_one hq gq hm gm
        rcases h3 with ⟨a1, a2, a3⟩ | ⟨a1, a2, a3⟩ <;> rcases g3 with ⟨b1, b2, b3⟩ | ⟨b1, b2, b3⟩ <;> first | exact ⟨a2.trans b2.symm, a3.trans b3.symm⟩ | (exfalso; omega)
      · exact absurd hq (gq j hj)
      · exact absurd gq (hq j' gj)
      · rcases h3 with ⟨a1, a2, a3⟩ | ⟨a1, a2, a3⟩ <;> rcases g3 with ⟨b1, b2, b3⟩ | ⟨b1, b2, b3⟩ <;> first | exact ⟨a2.trans b2.symm, a3.trans b3.symm⟩ | (exfalso; omega)
  · exact absurd (p.1.symm.trans t.2) (by decide)
  · exact s.1.trans t.1.symm
theorem u_version {A A1 A2 : aA} {k th : Nat} {ov : Int64} {y : Int32} (hk : (k = 0 ∧ ∃ x, OP_version A x A1 ∧ ov = x.toInt64) ∨ (k ≠ 0 ∧ OT_version A k ∧ A1 = A)) (hm : (th = 0 ∧ OP_version A y A2) ∨ (th ≠ 0 ∧ OT_version A th ∧ A2 = A)) : k = th ∧ A1 = A2 ∧ (k = 0 → ov = y.toInt64) := by
  refine u_gen (P := (fun x A' => OP_version A x A')) (T := (fun k => OT_version A k)) (fun x y B C h g => ?_) (fun x B k p t => ?_) (fun a b s t => ?_) hk hm
  · rcases h.2 with ⟨a1, a2, a3⟩ | ⟨a1, a2, a3⟩ <;> rcases g.2 with ⟨b1, b2, b3⟩ | ⟨b1, b2, b3⟩ <;> first | exact ⟨a2.trans b2.symm, a3.trans b3.symm⟩ | (exfalso; omega)
  · exact absurd (p.1.symm.trans t.2) (by decide)
  · exact s.1.trans t.1.symm
theorem u_holds {A A1 A2 : aA} {v : Int32} {u : Int32} {k th : Nat} {ov : Int64} {y : Int32} (hk : (k = 0 ∧ ∃ x, OP_holds A v u x A1 ∧ ov = x.toInt64) ∨ (k ≠ 0 ∧ OT_holds A v u k ∧ A1 = A)) (hm : (th = 0 ∧ OP_holds A v u y A2) ∨ (th ≠ 0 ∧ OT_holds A v u th ∧ A2 = A)) : k = th ∧ A1 = A2 ∧ (k = 0 → ov = y.toInt64) := by
  refine u_gen (P := (fun x A' => OP_holds A v u x A')) (T := (fun k => OT_holds A v u k)) (fun x y B C h g => ?_) (fun x B k p t => ?_) (fun a b s t => ?_) hk hm
  · exact ⟨h.2.2.1.trans g.2.2.1.symm, h.2.2.2.trans g.2.2.2.symm⟩
  · rcases t with ⟨-, t2⟩ | ⟨-, -, t2⟩
    · exact absurd (p.1.symm.trans t2) (by decide)
    · exact t2 p.2.1
  · rcases s with ⟨s1, s2⟩ | ⟨s1, s2, s3⟩ <;> rcases t with ⟨t1, t2⟩ | ⟨t1, t2, t3⟩
    · exact s1.trans t1.symm
    · exact absurd (s2.symm.trans t2) (by decide)
    · exact absurd (s2.symm.trans t2) (by decide)
    · exact s1.trans t1.symm
theorem u_root {A A1 A2 : aA} {v : Int32} {k th : Nat} {ov : Int64} {y : Int32} (hk : (k = 0 ∧ ∃ x, OP_root A v x A1 ∧ ov = x.toInt64) ∨ (k ≠ 0 ∧ OT_root A v k ∧ A1 = A)) (hm : (th = 0 ∧ OP_root A v y A2) ∨ (th ≠ 0 ∧ OT_root A v th ∧ A2 = A)) : k = th ∧ A1 = A2 ∧ (k = 0 → ov = y.toInt64) := by
  refine u_gen (P := (fun x A' => OP_root A v x A')) (T := (fun k => OT_root A v k)) (fun x y B C h g => ?_) (fun x B k p t => ?_) (fun a b s t => ?_) hk hm
  · exact ⟨h.2.2.1.trans g.2.2.1.symm, h.2.2.2.trans g.2.2.2.symm⟩
  · rcases t with ⟨-, t2⟩ | ⟨-, -, t2⟩
    · exact absurd (p.1.symm.trans t2) (by decide)
    · exact t2 p.2.1
  · rcases s with ⟨s1, s2⟩ | ⟨s1, s2, s3⟩ <;> rcases t with ⟨t1, t2⟩ | ⟨t1, t2, t3⟩
    · exact s1.trans t1.symm
    · exact absurd (s2.symm.trans t2) (by decide)
    · exact absurd (s2.symm.trans t2) (by decide)
    · exact s1.trans t1.symm
theorem u_sweep {A A1 A2 : aA} {k th : Nat} {ov : Int64} {y : Int32} (hk : (k = 0 ∧ ∃ x, OP_sweep A x A1 ∧ ov = x.toInt64) ∨ (k ≠ 0 ∧ OT_sweep A k ∧ A1 = A)) (hm : (th = 0 ∧ OP_sweep A y A2) ∨ (th ≠ 0 ∧ OT_sweep A th ∧ A2 = A)) : k = th ∧ A1 = A2 ∧ (k = 0 → ov = y.toInt64) := by
  refine u_gen (P := (fun x A' => OP_sweep A x A')) (T := (fun k => OT_sweep A k)) (fun x y B C h g => ?_) (fun x B k p t => ?_) (fun a b s t => ?_) hk hm
  · rcases h.2 with ⟨a1, a2, a3⟩ | ⟨a1, a2, a3⟩ <;> rcases g.2 with ⟨b1, b2, b3⟩ | ⟨b1, b2, b3⟩ <;> first | exact ⟨a2.trans b2.symm, a3.trans b3.symm⟩ | (exfalso; omega)
  · exact absurd (p.1.symm.trans t.2) (by decide)
  · exact s.1.trans t.1.symm
theorem u_pack {A A1 A2 : aA} {mp : Nat} {k th : Nat} {ov : Int64} {y : Int32} (hk : (k = 0 ∧ ∃ x, OP_pack mp A x A1 ∧ ov = x.toInt64) ∨ (k ≠ 0 ∧ OT_pack mp A k ∧ A1 = A)) (hm : (th = 0 ∧ OP_pack mp A y A2) ∨ (th ≠ 0 ∧ OT_pack mp A th ∧ A2 = A)) : k = th ∧ A1 = A2 ∧ (k = 0 → ov = y.toInt64) := by
  refine u_gen (P := (fun x A' => OP_pack mp A x A')) (T := (fun k => OT_pack mp A k)) (fun x y B C h g => ?_) (fun x B k p t => ?_) (fun a b s t => ?_) hk hm
  · rcases h.2 with ⟨a1, a2, a3⟩ | ⟨a1, a2, a3⟩ <;> rcases g.2 with ⟨b1, b2, b3⟩ | ⟨b1, b2, b3⟩ <;> first | exact ⟨a2.trans b2.symm, a3.trans b3.symm⟩ | (exfalso; omega)
  · exact absurd (p.1.symm.trans t.2) (by decide)
  · exact s.1.trans t.1.symm
theorem u_byteAt {A A1 A2 : aA} {v : Int32} {u : Int32} {k th : Nat} {ov : Int64} {y : Int32} (hk : (k = 0 ∧ ∃ x, OP_byteAt A v u x A1 ∧ ov = x.toInt64) ∨ (k ≠ 0 ∧ OT_byteAt A v u k ∧ A1 = A)) (hm : (th = 0 ∧ OP_byteAt A v u y A2) ∨ (th ≠ 0 ∧ OT_byteAt A v u th ∧ A2 = A)) : k = th ∧ A1 = A2 ∧ (k = 0 → ov = y.toInt64) := by
  refine u_gen (P := (fun x A' => OP_byteAt A v u x A')) (T := (fun k => OT_byteAt A v u k)) (fun x y B C h g => ?_) (fun x B k p t => ?_) (fun a b s t => ?_) hk hm
  · exact ⟨h.2.2.1.trans g.2.2.1.symm, h.2.2.2.trans g.2.2.2.symm⟩
  · rcases t with ⟨-, t2⟩ | ⟨-, -, t2⟩
    · exact absurd (p.1.symm.trans t2) (by decide)
    · exact t2 p.2.1
  · rcases s with ⟨s1, s2⟩ | ⟨s1, s2, s3⟩ <;> rcases t with ⟨t1, t2⟩ | ⟨t1, t2, t3⟩
    · exact s1.trans t1.symm
    · exact absurd (s2.symm.trans t2) (by decide)
    · exact absurd (s2.symm.trans t2) (by decide)
    · exact s1.trans t1.symm
theorem u_crash {A A1 A2 : aA} {v : Int32} {k th : Nat} {ov : Int64} {y : Int32} (hk : (k = 0 ∧ ∃ x, OP_crash A v x A1 ∧ ov = x.toInt64) ∨ (k ≠ 0 ∧ OT_crash A v k ∧ A1 = A)) (hm : (th = 0 ∧ OP_crash A v y A2) ∨ (th ≠ 0 ∧ OT_crash A v th ∧ A2 = A)) : k = th ∧ A1 = A2 ∧ (k = 0 → ov = y.toInt64) := by
  refine u_gen (P := (fun x A' => OP_crash A v x A')) (T := (fun k => OT_crash A v k)) (fun x y B C h g => ?_) (fun x B k p t => ?_) (fun a b s t => ?_) hk hm
  · exact ⟨h.2.2.1.trans g.2.2.1.symm, h.2.2.2.trans g.2.2.2.symm⟩
  · rcases t with ⟨-, t2⟩ | ⟨-, -, t2⟩
    · exact absurd (p.1.symm.trans t2) (by decide)
    · exact t2 p.2.1
  · rcases s with ⟨s1, s2⟩ | ⟨s1, s2, s3⟩ <;> rcases t with ⟨t1, t2⟩ | ⟨t1, t2, t3⟩
    · exact s1.trans t1.symm
    · exact absurd (s2.symm.trans t2) (by decide)
    · exact absurd (s2.symm.trans t2) (by decide)
    · exact s1.trans t1.symm
theorem u_reopen {A A1 A2 : aA} {r : Nat} {k th : Nat} {ov : Int64} {y : Int32} (hk : (k = 0 ∧ ∃ x, OP_reopen r A x A1 ∧ ov = x.toInt64) ∨ (k ≠ 0 ∧ OT_reopen r A k ∧ A1 = A)) (hm : (th = 0 ∧ OP_reopen r A y A2) ∨ (th ≠ 0 ∧ OT_reopen r A th ∧ A2 = A)) : k = th ∧ A1 = A2 ∧ (k = 0 → ov = y.toInt64) := by
  refine u_gen (P := (fun x A' => OP_reopen r A x A')) (T := (fun k => OT_reopen r A k)) (fun x y B C h g => ?_) (fun x B k p t => ?_) (fun a b s t => ?_) hk hm
  · exact ⟨h.2.1.trans g.2.1.symm, h.2.2.trans g.2.2.symm⟩
  · exact absurd (p.1.symm.trans t.2) (by decide)
  · exact s.1.trans t.1.symm
theorem u_poke {A A1 A2 : aA} {v : Int32} {u : Int32} {mm : Int32} {k th : Nat} {ov : Int64} {y : Int32} (hk : (k = 0 ∧ ∃ x, OP_poke A v u mm x A1 ∧ ov = x.toInt64) ∨ (k ≠ 0 ∧ OT_poke A v u mm k ∧ A1 = A)) (hm : (th = 0 ∧ OP_poke A v u mm y A2) ∨ (th ≠ 0 ∧ OT_poke A v u mm th ∧ A2 = A)) : k = th ∧ A1 = A2 ∧ (k = 0 → ov = y.toInt64) := by
  refine u_gen (P := (fun x A' => OP_poke A v u mm x A')) (T := (fun k => OT_poke A v u mm k)) (fun x y B C h g => ?_) (fun x B k p t => ?_) (fun a b s t => ?_) hk hm
  · exact ⟨h.2.2.1.trans g.2.2.1.symm, h.2.2.2.trans g.2.2.2.symm⟩
  · rcases t with ⟨-, t2⟩ | ⟨-, -, t2⟩
    · exact absurd (p.1.symm.trans t2) (by decide)
    · exact t2 p.2.1
  · rcases s with ⟨s1, s2⟩ | ⟨s1, s2, s3⟩ <;> rcases t with ⟨t1, t2⟩ | ⟨t1, t2, t3⟩
    · exact s1.trans t1.symm
    · exact absurd (s2.symm.trans t2) (by decide)
    · exact absurd (s2.symm.trans t2) (by decide)
    · exact s1.trans t1.symm
theorem u_badAt {A A1 A2 : aA} {k th : Nat} {ov : Int64} {y : Int32} (hk : (k = 0 ∧ ∃ x, OP_badAt A x A1 ∧ ov = x.toInt64) ∨ (k ≠ 0 ∧ OT_badAt A k ∧ A1 = A)) (hm : (th = 0 ∧ OP_badAt A y A2) ∨ (th ≠ 0 ∧ OT_badAt A th ∧ A2 = A)) : k = th ∧ A1 = A2 ∧ (k = 0 → ov = y.toInt64) := by
  refine u_gen (P := (fun x A' => OP_badAt A x A')) (T := (fun k => OT_badAt A k)) (fun x y B C h g => ?_) (fun x B k p t => ?_) (fun a b s t => ?_) hk hm
  · exact ⟨bad_one h.2.1 g.2.1, h.2.2.trans g.2.2.symm⟩
  · exact absurd (p.1.symm.trans t.2) (by decide)
  · exact s.1.trans t.1.symm
theorem u_packByte {A A1 A2 : aA} {v : Int32} {u : Int32} {k th : Nat} {ov : Int64} {y : Int32} (hk : (k = 0 ∧ ∃ x, OP_packByte A v u x A1 ∧ ov = x.toInt64) ∨ (k ≠ 0 ∧ OT_packByte A v u k ∧ A1 = A)) (hm : (th = 0 ∧ OP_packByte A v u y A2) ∨ (th ≠ 0 ∧ OT_packByte A v u th ∧ A2 = A)) : k = th ∧ A1 = A2 ∧ (k = 0 → ov = y.toInt64) := by
  refine u_gen (P := (fun x A' => OP_packByte A v u x A')) (T := (fun k => OT_packByte A v u k)) (fun x y B C h g => ?_) (fun x B k p t => ?_) (fun a b s t => ?_) hk hm
  · exact ⟨h.2.2.1.trans g.2.2.1.symm, h.2.2.2.trans g.2.2.2.symm⟩
  · rcases t with ⟨-, t2⟩ | ⟨-, -, t2⟩
    · exact absurd (p.1.symm.trans t2) (by decide)
    · exact t2 p.2.1
  · rcases s with ⟨s1, s2⟩ | ⟨s1, s2, s3⟩ <;> rcases t with ⟨t1, t2⟩ | ⟨t1, t2, t3⟩
    · exact s1.trans t1.symm
    · exact absurd (s2.symm.trans t2) (by decide)
    · exact absurd (s2.symm.trans t2) (by decide)
    · exact s1.trans t1.symm
theorem u_digest {A A1 A2 : aA} {v : Int32} {u : Int32} {k th : Nat} {ov : Int64} {y : Int32} (hk : (k = 0 ∧ ∃ x, OP_digest A v u x A1 ∧ ov = x.toInt64) ∨ (k ≠ 0 ∧ OT_digest A v u k ∧ A1 = A)) (hm : (th = 0 ∧ OP_digest A v u y A2) ∨ (th ≠ 0 ∧ OT_digest A v u th ∧ A2 = A)) : k = th ∧ A1 = A2 ∧ (k = 0 → ov = y.toInt64) := by
  refine u_gen (P := (fun x A' => OP_digest A v u x A')) (T := (fun k => OT_digest A v u k)) (fun x y B C h g => ?_) (fun x B k p t => ?_) (fun a b s t => ?_) hk hm
  · exact ⟨h.2.2.1.trans g.2.2.1.symm, h.2.2.2.trans g.2.2.2.symm⟩
  · rcases t with ⟨-, t2⟩ | ⟨-, -, t2⟩
    · exact absurd (p.1.symm.trans t2) (by decide)
    · exact t2 p.2.1
  · rcases s with ⟨s1, s2⟩ | ⟨s1, s2, s3⟩ <;> rcases t with ⟨t1, t2⟩ | ⟨t1, t2, t3⟩
    · exact s1.trans t1.symm
    · exact absurd (s2.symm.trans t2) (by decide)
    · exact absurd (s2.symm.trans t2) (by decide)
    · exact s1.trans t1.symm
theorem u_out {A A1 A2 : aA} {v : Int32} {u : Int32} {k th : Nat} {ov : Int64} {y : Int32} (hk : (k = 0 ∧ ∃ x, OP_out A v u x A1 ∧ ov = x.toInt64) ∨ (k ≠ 0 ∧ OT_out A v u k ∧ A1 = A)) (hm : (th = 0 ∧ OP_out A v u y A2) ∨ (th ≠ 0 ∧ OT_out A v u th ∧ A2 = A)) : k = th ∧ A1 = A2 ∧ (k = 0 → ov = y.toInt64) := by
  refine u_gen (P := (fun x A' => OP_out A v u x A')) (T := (fun k => OT_out A v u k)) (fun x y B C h g => ?_) (fun x B k p t => ?_) (fun a b s t => ?_) hk hm
  · exact ⟨h.2.2.1.trans g.2.2.1.symm, h.2.2.2.trans g.2.2.2.symm⟩
  · rcases t with ⟨-, t2⟩ | ⟨-, -, t2⟩
    · exact absurd (p.1.symm.trans t2) (by decide)
    · exact t2 p.2.1
  · rcases s with ⟨s1, s2⟩ | ⟨s1, s2, s3⟩ <;> rcases t with ⟨t1, t2⟩ | ⟨t1, t2, t3⟩
    · exact s1.trans t1.symm
    · exact absurd (s2.symm.trans t2) (by decide)
    · exact absurd (s2.symm.trans t2) (by decide)
    · exact s1.trans t1.symm
theorem u_drop {A A1 A2 : aA} {v : Int32} {k th : Nat} {ov : Int64} {y : Int32} (hk : (k = 0 ∧ ∃ x, OP_drop A v x A1 ∧ ov = x.toInt64) ∨ (k ≠ 0 ∧ OT_drop A v k ∧ A1 = A)) (hm : (th = 0 ∧ OP_drop A v y A2) ∨ (th ≠ 0 ∧ OT_drop A v th ∧ A2 = A)) : k = th ∧ A1 = A2 ∧ (k = 0 → ov = y.toInt64) := by
  refine u_gen (P := (fun x A' => OP_drop A v x A')) (T := (fun k => OT_drop A v k)) (fun x y B C h g => ?_) (fun x B k p t => ?_) (fun a b s t => ?_) hk hm
  · rcases h.2.2 with ⟨a1, a2, a3⟩ | ⟨a1, a2, a3⟩ <;> rcases g.2.2 with ⟨b1, b2, b3⟩ | ⟨b1, b2, b3⟩ <;> first | exact ⟨a2.trans b2.symm, a3.trans b3.symm⟩ | (exfalso; rcases a1 with z | z; rw [b1.1] at z; cases z; omega) | (exfalso; rcases b1 with z | z; rw [a1.1] at z; cases z; omega)
  · rcases t with ⟨-, t2⟩ | ⟨-, -, t2⟩
    · exact absurd (p.1.symm.trans t2) (by decide)
    · exact t2 p.2.1
  · rcases s with ⟨s1, s2⟩ | ⟨s1, s2, s3⟩ <;> rcases t with ⟨t1, t2⟩ | ⟨t1, t2, t3⟩
    · exact s1.trans t1.symm
    · exact absurd (s2.symm.trans t2) (by decide)
    · exact absurd (s2.symm.trans t2) (by decide)
    · exact s1.trans t1.symm
