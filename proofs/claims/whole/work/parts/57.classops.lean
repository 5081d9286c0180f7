/-! ===== what each call does to the shared state; the class does it ===== -/
def OP_feed (A : aA) (v : Int32) (x : Int32) (A' : aA) : Prop := aCr A = false ∧ ((¬ ((0 ≤ v ∧ v < nI 256) ∧ aFd A < 24) ∧ x = bB false ∧ A' = A) ∨ (((0 ≤ v ∧ v < nI 256) ∧ aFd A < 24) ∧ x = bB true ∧ A' = (aLg A, aN A, aSt A, aFd A + 1, fup (aFn A) (aFd A) v.toNatClampNeg, aMk A, aNp A, aQl A, aQa A, aCr A)))
def OT_feed (A : aA) (v : Int32) (k : Nat) : Prop := k = 1 ∧ aCr A = true
def OP_block (A : aA)  (x : Int32) (A' : aA) : Prop := aCr A = false ∧ ((8 ≤ sCt (aSt A) (sNv (aSt A)) ∧ x = -1 ∧ A' = A) ∨ (sCt (aSt A) (sNv (aSt A)) < 8 ∧ ((∃ j, j < sNb (aSt A) ∧ eqM (aLg A) (aSt A) (aFd A) (aFn A) j ∧ (∀ j0, j0 < j → ¬ eqM (aLg A) (aSt A) (aFd A) (aFn A) j0) ∧ ((400 < aN A + 2 ∧ x = -1 ∧ A' = A) ∨ (aN A + 2 ≤ 400 ∧ x = nI j ∧ A' = (rec2 (aLg A) (aN A) 2 j, aN A + 2, ac2 j (aSt A), 0, aFn A, aMk A, aNp A, aQl A, aQa A, aCr A)))) ∨ ((∀ j, j < sNb (aSt A) → ¬ eqM (aLg A) (aSt A) (aFd A) (aFn A) j) ∧ (((sNb (aSt A) = 24 ∨ 400 < aN A + 2 + aFd A) ∧ x = -1 ∧ A' = A) ∨ ((sNb (aSt A) < 24 ∧ aN A + 2 + aFd A ≤ 400) ∧ x = nI (sNb (aSt A)) ∧ A' = (rec1 (aLg A) (aN A) (aFd A) (aFn A), aN A + 2 + aFd A, ac1 (aN A) (aFd A) (aSt A), 0, aFn A, aMk A, aNp A, aQl A, aQa A, aCr A)))))))
def OT_block (A : aA)  (k : Nat) : Prop := k = 1 ∧ aCr A = true
def OP_version (A : aA)  (x : Int32) (A' : aA) : Prop := aCr A = false ∧ (((sNv (aSt A) = 12 ∨ aN A = 400) ∧ x = -1 ∧ A' = A) ∨ ((sNv (aSt A) < 12 ∧ aN A < 400) ∧ x = nI (sNv (aSt A)) ∧ A' = (fup (aLg A) (aN A) 3, aN A + 1, ac3 (aSt A), aFd A, aFn A, aMk A, aNp A, aQl A, aQa A, aCr A)))
def OT_version (A : aA)  (k : Nat) : Prop := k = 1 ∧ aCr A = true
def OP_holds (A : aA) (v : Int32) (u : Int32) (x : Int32) (A' : aA) : Prop := aCr A = false ∧ ((0 ≤ v ∧ v < nI (sNv (aSt A))) ∧ (0 ≤ u ∧ u < nI (sNb (aSt A)))) ∧ (x = bB (dcd (∃ k, k < lvS (aSt A) v.toNatClampNeg ∧ sRw (aSt A) v.toNatClampNeg k = u.toNatClampNeg)) ∧ A' = A)
def OT_holds (A : aA) (v : Int32) (u : Int32) (k : Nat) : Prop := (k = 2 ∧ aCr A = true) ∨ (k = 1 ∧ aCr A = false ∧ ¬ ((0 ≤ v ∧ v < nI (sNv (aSt A))) ∧ (0 ≤ u ∧ u < nI (sNb (aSt A)))))
def OP_root (A : aA) (v : Int32) (x : Int32) (A' : aA) : Prop := aCr A = false ∧ (0 ≤ v ∧ v < nI (sNv (aSt A))) ∧ (x = rootS (sRw (aSt A) v.toNatClampNeg) (sLn (aSt A)) (lbS (aLg A) (aSt A)) (lvS (aSt A) v.toNatClampNeg) ∧ A' = A)
def OT_root (A : aA) (v : Int32) (k : Nat) : Prop := (k = 2 ∧ aCr A = true) ∨ (k = 1 ∧ aCr A = false ∧ ¬ (0 ≤ v ∧ v < nI (sNv (aSt A))))
def OP_sweep (A : aA)  (x : Int32) (A' : aA) : Prop := aCr A = false ∧ ((aN A = 400 ∧ x = nI 0 ∧ A' = A) ∨ (aN A < 400 ∧ x = nI (cntU (fun b => sTh (aSt A) b && !hlB (sDr (aSt A)) (sCt (aSt A)) (sRw (aSt A)) (sNv (aSt A)) b) (sNb (aSt A))) ∧ A' = (fup (aLg A) (aN A) 5, aN A + 1, ac5 (aSt A), aFd A, aFn A, aMk A, aNp A, aQl A, aQa A, aCr A)))
def OT_sweep (A : aA)  (k : Nat) : Prop := k = 1 ∧ aCr A = true
def OP_pack (mp : Nat) (A : aA)  (x : Int32) (A' : aA) : Prop := aCr A = false ∧ (((cntU (unp (sTh (aSt A)) (aMk A)) (sNb (aSt A)) = 0 ∨ aNp A = mp) ∧ x = -1 ∧ A' = A) ∨ ((cntU (unp (sTh (aSt A)) (aMk A)) (sNb (aSt A)) ≠ 0 ∧ aNp A < mp) ∧ x = nI (mp - (aNp A + 1)) ∧ A' = (aLg A, aN A, aSt A, aFd A, aFn A, pkM (sTh (aSt A)) (aMk A) (sNb (aSt A)), aNp A + 1, fup ((putN (aNp A) (byteN (sumS (((pkA (sTh (aSt A)) (aMk A) (sLn (aSt A)) (lbS (aLg A) (aSt A)) (aNp A) (putS (aNp A) (cntU (unp (sTh (aSt A)) (aMk A)) (sNb (aSt A))) (aQl A, aQa A)) (sNb (aSt A)))).2 (aNp A)) (nI 1) (((pkA (sTh (aSt A)) (aMk A) (sLn (aSt A)) (lbS (aLg A) (aSt A)) (aNp A) (putS (aNp A) (cntU (unp (sTh (aSt A)) (aMk A)) (sNb (aSt A))) (aQl A, aQa A)) (sNb (aSt A)))).1 (aNp A)))) ((pkA (sTh (aSt A)) (aMk A) (sLn (aSt A)) (lbS (aLg A) (aSt A)) (aNp A) (putS (aNp A) (cntU (unp (sTh (aSt A)) (aMk A)) (sNb (aSt A))) (aQl A, aQa A)) (sNb (aSt A)))) 4)).1 (aNp A + 1) 0, ((putN (aNp A) (byteN (sumS (((pkA (sTh (aSt A)) (aMk A) (sLn (aSt A)) (lbS (aLg A) (aSt A)) (aNp A) (putS (aNp A) (cntU (unp (sTh (aSt A)) (aMk A)) (sNb (aSt A))) (aQl A, aQa A)) (sNb (aSt A)))).2 (aNp A)) (nI 1) (((pkA (sTh (aSt A)) (aMk A) (sLn (aSt A)) (lbS (aLg A) (aSt A)) (aNp A) (putS (aNp A) (cntU (unp (sTh (aSt A)) (aMk A)) (sNb (aSt A))) (aQl A, aQa A)) (sNb (aSt A)))).1 (aNp A)))) ((pkA (sTh (aSt A)) (aMk A) (sLn (aSt A)) (lbS (aLg A) (aSt A)) (aNp A) (putS (aNp A) (cntU (unp (sTh (aSt A)) (aMk A)) (sNb (aSt A))) (aQl A, aQa A)) (sNb (aSt A)))) 4)).2, aCr A)))
def OT_pack (mp : Nat) (A : aA)  (k : Nat) : Prop := k = 1 ∧ aCr A = true
def OP_byteAt (A : aA) (v : Int32) (u : Int32) (x : Int32) (A' : aA) : Prop := aCr A = false ∧ ((0 ≤ v ∧ v < nI (sNb (aSt A))) ∧ 0 ≤ u) ∧ (x = (if sTh (aSt A) v.toNatClampNeg = true then (if u.toNatClampNeg < sLn (aSt A) v.toNatClampNeg then nI (aLg A (sFr (aSt A) v.toNatClampNeg + u.toNatClampNeg)) else (-1)) else (-1)) ∧ A' = A)
def OT_byteAt (A : aA) (v : Int32) (u : Int32) (k : Nat) : Prop := (k = 2 ∧ aCr A = true) ∨ (k = 1 ∧ aCr A = false ∧ ¬ ((0 ≤ v ∧ v < nI (sNb (aSt A))) ∧ 0 ≤ u))
def OP_crash (A : aA) (v : Int32) (x : Int32) (A' : aA) : Prop := aCr A = false ∧ (0 ≤ v ∧ v ≤ nI (aN A)) ∧ (x = bB (decide (v.toNatClampNeg < aN A)) ∧ A' = (aLg A, v.toNatClampNeg, aS0, 0, aFn A, (fun _ => false), 0, (fun _ => 0), aQa A, true))
def OT_crash (A : aA) (v : Int32) (k : Nat) : Prop := (k = 2 ∧ aCr A = true) ∨ (k = 1 ∧ aCr A = false ∧ ¬ (0 ≤ v ∧ v ≤ nI (aN A)))
def OP_reopen (r : Nat) (A : aA)  (x : Int32) (A' : aA) : Prop := aCr A = true ∧ (x = nI (sNv (chS (aLg A) r).2) ∧ A' = (aLg A, (chS (aLg A) r).1, (chS (aLg A) r).2, aFd A, aFn A, aMk A, aNp A, aQl A, aQa A, false))
def OT_reopen (r : Nat) (A : aA)  (k : Nat) : Prop := k = 1 ∧ aCr A = false
def OP_poke (A : aA) (v : Int32) (u : Int32) (mm : Int32) (x : Int32) (A' : aA) : Prop := aCr A = false ∧ ((0 ≤ v ∧ v < nI (aNp A)) ∧ 0 ≤ u ∧ u < nI (aQl A v.toNatClampNeg)) ∧ (x = bB (decide (mkN mm ≠ 0)) ∧ A' = (aLg A, aN A, aSt A, aFd A, aFn A, aMk A, aNp A, aQl A, fup2 (aQa A) v.toNatClampNeg u.toNatClampNeg (pkX (aQa A v.toNatClampNeg u.toNatClampNeg) mm), aCr A))
def OT_poke (A : aA) (v : Int32) (u : Int32) (mm : Int32) (k : Nat) : Prop := (k = 2 ∧ aCr A = true) ∨ (k = 1 ∧ aCr A = false ∧ ¬ ((0 ≤ v ∧ v < nI (aNp A)) ∧ 0 ≤ u ∧ u < nI (aQl A v.toNatClampNeg)))
def OP_badAt (A : aA)  (x : Int32) (A' : aA) : Prop := aCr A = false ∧ (((∃ p, p < aNp A ∧ x = nI p ∧ badP (aQl A) (aQa A) p ∧ ∀ p0, p0 < p → ¬ badP (aQl A) (aQa A) p0) ∨ (x = -1 ∧ ∀ p, p < aNp A → ¬ badP (aQl A) (aQa A) p)) ∧ A' = A)
def OT_badAt (A : aA)  (k : Nat) : Prop := k = 1 ∧ aCr A = true
def OP_packByte (A : aA) (v : Int32) (u : Int32) (x : Int32) (A' : aA) : Prop := aCr A = false ∧ ((0 ≤ v ∧ v < nI (aNp A)) ∧ 0 ≤ u ∧ u < nI (aQl A v.toNatClampNeg)) ∧ (x = nI (aQa A v.toNatClampNeg u.toNatClampNeg) ∧ A' = A)
def OT_packByte (A : aA) (v : Int32) (u : Int32) (k : Nat) : Prop := (k = 2 ∧ aCr A = true) ∨ (k = 1 ∧ aCr A = false ∧ ¬ ((0 ≤ v ∧ v < nI (aNp A)) ∧ 0 ≤ u ∧ u < nI (aQl A v.toNatClampNeg)))
def OP_digest (A : aA) (v : Int32) (u : Int32) (x : Int32) (A' : aA) : Prop := aCr A = false ∧ ((0 ≤ v ∧ v < nI (sNb (aSt A))) ∧ (0 ≤ u ∧ u < 4)) ∧ (x = (if sTh (aSt A) v.toNatClampNeg = true then byteS (sumS (lbS (aLg A) (aSt A) v.toNatClampNeg) (nI 1) (sLn (aSt A) v.toNatClampNeg)) u.toNatClampNeg else (-1)) ∧ A' = A)
def OT_digest (A : aA) (v : Int32) (u : Int32) (k : Nat) : Prop := (k = 2 ∧ aCr A = true) ∨ (k = 1 ∧ aCr A = false ∧ ¬ ((0 ≤ v ∧ v < nI (sNb (aSt A))) ∧ (0 ≤ u ∧ u < 4)))
def OP_out (A : aA) (v : Int32) (u : Int32) (x : Int32) (A' : aA) : Prop := aCr A = false ∧ ((0 ≤ v ∧ v < nI (sNv (aSt A))) ∧ 0 ≤ u) ∧ (x = outS (sRw (aSt A) v.toNatClampNeg) (sLn (aSt A)) (lbS (aLg A) (aSt A)) (lvS (aSt A) v.toNatClampNeg) 0 u.toNatClampNeg ∧ A' = A)
def OT_out (A : aA) (v : Int32) (u : Int32) (k : Nat) : Prop := (k = 2 ∧ aCr A = true) ∨ (k = 1 ∧ aCr A = false ∧ ¬ ((0 ≤ v ∧ v < nI (sNv (aSt A))) ∧ 0 ≤ u))
def OP_drop (A : aA) (v : Int32) (x : Int32) (A' : aA) : Prop := aCr A = false ∧ (0 ≤ v ∧ v < nI (sNv (aSt A))) ∧ ((((sDr (aSt A) v.toNatClampNeg = true ∨ 400 < aN A + 2) ∧ x = bB false ∧ A' = A) ∨ ((sDr (aSt A) v.toNatClampNeg = false ∧ aN A + 2 ≤ 400) ∧ x = bB true ∧ A' = (rec2 (aLg A) (aN A) 4 v.toNatClampNeg, aN A + 2, ac4 v.toNatClampNeg (aSt A), aFd A, aFn A, aMk A, aNp A, aQl A, aQa A, aCr A))))
def OT_drop (A : aA) (v : Int32) (k : Nat) : Prop := (k = 2 ∧ aCr A = true) ∨ (k = 1 ∧ aCr A = false ∧ ¬ (0 ≤ v ∧ v < nI (sNv (aSt A))))
theorem min_one {P : Nat → Prop} {a b : Nat} (ha : P a) (hb : P b) (h1 : ∀ c, c < a → ¬ P c) (h2 : ∀ c, c < b → ¬ P c) : a = b := by
  rcases Nat.lt_trichotomy a b with z | z | z
  · exact absurd ha (h2 a z)
  · exact z
  · exact absurd hb (h1 b z)
set_option maxRecDepth 20000 in
set_option maxHeartbeats 4000000 in
theorem c_S_reopenF {D : va_G} {cI cZ cJ : ClassId} {ad : Nat → Nat} {mp : Nat} {lf : Nat → Int32} {n : Nat} {Pb : pc_C} {gt gp gh : Nat → Int32} {Pv : pc_C} {gd : Nat → Int32} {Pq : pc_C} {cr : Bool} {rest : va_W}   (hcr : cr = false) : bC D bcl (tys3 cI cZ cJ) y_S_reopen ({ frames := 7, cells := 1, slots := 6, locals := 111 }) (wS ad cI cZ mp lf n Pb gt gp gh Pv gd Pq cr rest) [.ref (ad 0)] (bI (fun x ws9 => False) (fun E ws9 => E = "java/lang/IllegalStateException" ∧ ws9 = wS ad cI cZ mp lf n Pb gt gp gh Pv gd Pq cr rest)) := by
  refine bC.of (by decide) m_S_reopen.1 (Nat.le_of_ble_eq_true rfl) ?_
  intro Γ G E0
  show bV D bcl Γ 4 (wS ad cI cZ mp lf n Pb gt gp gh Pv gd Pq cr rest) 0 0 0 [(0, .ref (ad 0))] []
  refine bV.aload_n G d_S_reopen_0 rfl ?_
  refine bV.callVot G m_S_requireCrashed bw_454 bw_s19 bw_452 (c_S_requireCrashed ) 0 rfl rfl rfl rfl rfl ⟨by decide, by decide⟩ ⟨by decide, by decide⟩ (Nat.le_of_ble_eq_true rfl) d_S_reopen_1 (fun ws9 h9 => ?_) (fun E9 ws9 h9 => ?_)
  · obtain ⟨hg1, h9e⟩ := h9
    rw [h9e]
    exact absurd (hg1.symm.trans hcr) (by decide)
  · obtain ⟨hz, rfl, h9e⟩ := h9
    rw [h9e]
    exact bT.leaveI G E0 rfl (by decide) (by decide) ⟨rfl, rfl⟩
set_option maxRecDepth 20000 in
set_option maxHeartbeats 4000000 in
theorem k_byteAt {D : va_G} {cI cZ cJ : ClassId} {ad : Nat → Nat} {mp : Nat} {lf : Nat → Int32} {Pb : pc_C} {gt gp gh : Nat → Int32} {Pv : pc_C} {gd : Nat → Int32} {Pq : pc_C} {rest : va_W} {A : aA} (hA : AI mp A) (hC : CL mp A lf Pb gt gp gh Pv gd Pq) {v u : Int32} : bC D bcl (tys3 cI cZ cJ) y_S_byteAt ({ frames := 7, cells := 3, slots := 18, locals := 106 }) (wS ad cI cZ mp lf (aN A) Pb gt gp gh Pv gd Pq (aCr A) rest) [.ref (ad 0), .int v, .int u] (bI (fun x ws9 => ∃ (A' : aA) (lf1 : Nat → Int32) (Pb1 : pc_C) (gt1 gp1 gh1 : Nat → Int32) (Pv1 : pc_C) (gd1 : Nat → Int32) (Pq1 : pc_C), OP_byteAt A v u x A' ∧ AI mp A' ∧ CL mp A' lf1 Pb1 gt1 gp1 gh1 Pv1 gd1 Pq1 ∧ ws9 = wS ad cI cZ mp lf1 (aN A') Pb1 gt1 gp1 gh1 Pv1 gd1 Pq1 (aCr A') rest) (fun E ws9 => ((E = "java/lang/IllegalStateException" ∧ OT_byteAt A v u 2) ∨ (E = "java/lang/IndexOutOfBoundsException" ∧ OT_byteAt A v u 1)) ∧ ws9 = wS ad cI cZ mp lf (aN A) Pb gt gp gh Pv gd Pq (aCr A) rest)) := by
  have hS := hA.okS
  obtain ⟨lg, n, S, fd, fn, mk, np, ql, qa, cr⟩ := A
  obtain ⟨hL, hX, hF, hG, hQ⟩ := hA
  obtain ⟨hRl, ⟨hRb, hRt, hRv, hRd⟩, hRp, hRq, mh, hRh⟩ := hC
  dsimp only [aLg, aN, aSt, aFd, aFn, aMk, aNp, aQl, aQa, aCr] at *
  refine (c_S_byteAt hRb hRt (v := v) (u := u)).mono (bI_mono2 (fun x ws9 h => ?_) (fun E ws9 h => ?_))
  · obtain ⟨h1, h2, h3, h9⟩ := h
    refine ⟨(lg, n, S, fd, fn, mk, np, ql, qa, cr), lf, Pb, gt, gp, gh, Pv, gd, Pq, ⟨h1, h2, ?_, rfl⟩, ⟨hL, hX, hF, hG, hQ⟩, ⟨hRl, ⟨hRb, hRt, hRv, hRd⟩, hRp, hRq, mh, hRh⟩, h9⟩
    obtain ⟨j, hj, rfl⟩ := nI_btw h2.1 (Nat.lt_of_le_of_lt hS.1 (by decide))
    rw [nI_clamp (by have := hS.1; omega)] at h3 ⊢
    rw [fup_n (Nat.ne_of_lt hj), baS_f hj] at h3
    exact h3
  · rcases h with ⟨h1, rfl, h2⟩ | ⟨h1, h0, rfl, h2⟩
    · exact ⟨Or.inl ⟨rfl, Or.inl ⟨rfl, h1⟩⟩, h2⟩
    · exact ⟨Or.inr ⟨rfl, Or.inr ⟨rfl, h1, h0⟩⟩, h2⟩
set_option maxRecDepth 20000 in
set_option maxHeartbeats 4000000 in
theorem k_digest {D : va_G} {cI cZ cJ : ClassId} {ad : Nat → Nat} {mp : Nat} {lf : Nat → Int32} {Pb : pc_C} {gt gp gh : Nat → Int32} {Pv : pc_C} {gd : Nat → Int32} {Pq : pc_C} {rest : va_W} {A : aA} (hA : AI mp A) (hC : CL mp A lf Pb gt gp gh Pv gd Pq) {v u : Int32} : bC D bcl (tys3 cI cZ cJ) y_S_digest ({ frames := 7, cells := 3, slots := 18, locals := 106 }) (wS ad cI cZ mp lf (aN A) Pb gt gp gh Pv gd Pq (aCr A) rest) [.ref (ad 0), .int v, .int u] (bI (fun x ws9 => ∃ (A' : aA) (lf1 : Nat → Int32) (Pb1 : pc_C) (gt1 gp1 gh1 : Nat → Int32) (Pv1 : pc_C) (gd1 : Nat → Int32) (Pq1 : pc_C), OP_digest A v u x A' ∧ AI mp A' ∧ CL mp A' lf1 Pb1 gt1 gp1 gh1 Pv1 gd1 Pq1 ∧ ws9 = wS ad cI cZ mp lf1 (aN A') Pb1 gt1 gp1 gh1 Pv1 gd1 Pq1 (aCr A') rest) (fun E ws9 => ((E = "java/lang/IllegalStateException" ∧ OT_digest A v u 2) ∨ (E = "java/lang/IndexOutOfBoundsException" ∧ OT_digest A v u 1)) ∧ ws9 = wS ad cI cZ mp lf (aN A) Pb gt gp gh Pv gd Pq (aCr A) rest)) := by
  have hS := hA.okS
  obtain ⟨lg, n, S, fd, fn, mk, np, ql, qa, cr⟩ := A
  obtain ⟨hL, hX, hF, hG, hQ⟩ := hA
  obtain ⟨hRl, ⟨hRb, hRt, hRv, hRd⟩, hRp, hRq, mh, hRh⟩ := hC
  dsimp only [aLg, aN, aSt, aFd, aFn, aMk, aNp, aQl, aQa, aCr] at *
  refine (c_S_digest hRb hRt (v := v) (u := u)).mono (bI_mono2 (fun x ws9 h => ?_) (fun E ws9 h => ?_))
  · obtain ⟨h1, h2, h3, h9⟩ := h
    refine ⟨(lg, n, S, fd, fn, mk, np, ql, qa, cr), lf, Pb, gt, gp, gh, Pv, gd, Pq, ⟨h1, h2, ?_, rfl⟩, ⟨hL, hX, hF, hG, hQ⟩, ⟨hRl, ⟨hRb, hRt, hRv, hRd⟩, hRp, hRq, mh, hRh⟩, h9⟩
    obtain ⟨j, hj, rfl⟩ := nI_btw h2.1 (Nat.lt_of_le_of_lt hS.1 (by decide))
    rw [nI_clamp (by have := hS.1; omega)] at h3 ⊢
    rw [fup_n (Nat.ne_of_lt hj), baS_f hj] at h3
    exact h3
  · rcases h with ⟨h1, rfl, h2⟩ | ⟨h1, h0, rfl, h2⟩
    · exact ⟨Or.inl ⟨rfl, Or.inl ⟨rfl, h1⟩⟩, h2⟩
    · exact ⟨Or.inr ⟨rfl, Or.inr ⟨rfl, h1, h0⟩⟩, h2⟩
set_option maxRecDepth 20000 in
set_option maxHeartbeats 4000000 in
theorem k_holds {D : va_G} {cI cZ cJ : ClassId} {ad : Nat → Nat} {mp : Nat} {lf : Nat → Int32} {Pb : pc_C} {gt gp gh : Nat → Int32} {Pv : pc_C} {gd : Nat → Int32} {Pq : pc_C} {rest : va_W} {A : aA} (hA : AI mp A) (hC : CL mp A lf Pb gt gp gh Pv gd Pq) {v u : Int32} : bC D bcl (tys3 cI cZ cJ) y_S_holds ({ frames := 7, cells := 3, slots := 18, locals := 106 }) (wS ad cI cZ mp lf (aN A) Pb gt gp gh Pv gd Pq (aCr A) rest) [.ref (ad 0), .int v, .int u] (bI (fun x ws9 => (∃ b : Bool, x = bB b) ∧ ∃ (A' : aA) (lf1 : Nat → Int32) (Pb1 : pc_C) (gt1 gp1 gh1 : Nat → Int32) (Pv1 : pc_C) (gd1 : Nat → Int32) (Pq1 : pc_C), OP_holds A v u x A' ∧ AI mp A' ∧ CL mp A' lf1 Pb1 gt1 gp1 gh1 Pv1 gd1 Pq1 ∧ ws9 = wS ad cI cZ mp lf1 (aN A') Pb1 gt1 gp1 gh1 Pv1 gd1 Pq1 (aCr A') rest) (fun E ws9 => ((E = "java/lang/IllegalStateException" ∧ OT_holds A v u 2) ∨ (E = "java/lang/IndexOutOfBoundsException" ∧ OT_holds A v u 1)) ∧ ws9 = wS ad cI cZ mp lf (aN A) Pb gt gp gh Pv gd Pq (aCr A) rest)) := by
  have hS := hA.okS
  obtain ⟨lg, n, S, fd, fn, mk, np, ql, qa, cr⟩ := A
  obtain ⟨hL, hX, hF, hG, hQ⟩ := hA
  obtain ⟨hRl, ⟨hRb, hRt, hRv, hRd⟩, hRp, hRq, mh, hRh⟩ := hC
  dsimp only [aLg, aN, aSt, aFd, aFn, aMk, aNp, aQl, aQa, aCr] at *
  refine (c_S_holds hRb hRv hRd (v := v) (u := u)).mono (bI_mono2 (fun x ws9 h => ?_) (fun E ws9 h => ?_))
  · obtain ⟨h1, h2, h3, h9⟩ := h
    exact ⟨⟨_, h3⟩, ⟨(lg, n, S, fd, fn, mk, np, ql, qa, cr), lf, Pb, gt, gp, gh, Pv, gd, Pq, ⟨h1, h2, h3, rfl⟩, ⟨hL, hX, hF, hG, hQ⟩, ⟨hRl, ⟨hRb, hRt, hRv, hRd⟩, hRp, hRq, mh, hRh⟩, h9⟩⟩
  · rcases h with ⟨h1, rfl, h2⟩ | ⟨h1, h0, rfl, h2⟩
    · exact ⟨Or.inl ⟨rfl, Or.inl ⟨rfl, h1⟩⟩, h2⟩
    · exact ⟨Or.inr ⟨rfl, Or.inr ⟨rfl, h1, h0⟩⟩, h2⟩
set_option maxRecDepth 20000 in
set_option maxHeartbeats 4000000 in
theorem k_root {D : va_G} {cI cZ cJ : ClassId} {ad : Nat → Nat} {mp : Nat} {lf : Nat → Int32} {Pb : pc_C} {gt gp gh : Nat → Int32} {Pv : pc_C} {gd : Nat → Int32} {Pq : pc_C} {rest : va_W} {A : aA} (hA : AI mp A) (hC : CL mp A lf Pb gt gp gh Pv gd Pq) {v : Int32} : bC D bcl (tys3 cI cZ cJ) y_S_root ({ frames := 7, cells := 2, slots := 12, locals := 106 }) (wS ad cI cZ mp lf (aN A) Pb gt gp gh Pv gd Pq (aCr A) rest) [.ref (ad 0), .int v] (bI (fun x ws9 => ∃ (A' : aA) (lf1 : Nat → Int32) (Pb1 : pc_C) (gt1 gp1 gh1 : Nat → Int32) (Pv1 : pc_C) (gd1 : Nat → Int32) (Pq1 : pc_C), OP_root A v x A' ∧ AI mp A' ∧ CL mp A' lf1 Pb1 gt1 gp1 gh1 Pv1 gd1 Pq1 ∧ ws9 = wS ad cI cZ mp lf1 (aN A') Pb1 gt1 gp1 gh1 Pv1 gd1 Pq1 (aCr A') rest) (fun E ws9 => ((E = "java/lang/IllegalStateException" ∧ OT_root A v 2) ∨ (E = "java/lang/IndexOutOfBoundsException" ∧ OT_root A v 1)) ∧ ws9 = wS ad cI cZ mp lf (aN A) Pb gt gp gh Pv gd Pq (aCr A) rest)) := by
  have hS := hA.okS
  obtain ⟨lg, n, S, fd, fn, mk, np, ql, qa, cr⟩ := A
  obtain ⟨hL, hX, hF, hG, hQ⟩ := hA
  obtain ⟨hRl, ⟨hRb, hRt, hRv, hRd⟩, hRp, hRq, mh, hRh⟩ := hC
  dsimp only [aLg, aN, aSt, aFd, aFn, aMk, aNp, aQl, aQa, aCr] at *
  refine (c_S_root hRb hRv hRd (v := v) hS.2.2.2.1).mono (bI_mono2 (fun x ws9 h => ?_) (fun E ws9 h => ?_))
  · obtain ⟨h1, h2, h3, h9⟩ := h
    refine ⟨(lg, n, S, fd, fn, mk, np, ql, qa, cr), lf, Pb, gt, gp, gh, Pv, gd, Pq, ⟨h1, h2, ?_, rfl⟩, ⟨hL, hX, hF, hG, hQ⟩, ⟨hRl, ⟨hRb, hRt, hRv, hRd⟩, hRp, hRq, mh, hRh⟩, h9⟩
    obtain ⟨j, hj, rfl⟩ := nI_btw h2 (Nat.lt_of_le_of_lt hS.2.1 (by decide))
    rw [nI_clamp (by have := hS.2.1; omega)] at h3 ⊢
    rw [h3]
    exact rootS_congr _ (fun q hq => ⟨fup_n (Nat.ne_of_lt (rwS_b hS (Nat.le_of_lt hj) hq)), baS_f (rwS_b hS (Nat.le_of_lt hj) hq)⟩)
  · rcases h with ⟨h1, rfl, h2⟩ | ⟨h1, h0, rfl, h2⟩
    · exact ⟨Or.inl ⟨rfl, Or.inl ⟨rfl, h1⟩⟩, h2⟩
    · exact ⟨Or.inr ⟨rfl, Or.inr ⟨rfl, h1, h0⟩⟩, h2⟩
set_option maxRecDepth 20000 in
set_option maxHeartbeats 4000000 in
theorem k_out {D : va_G} {cI cZ cJ : ClassId} {ad : Nat → Nat} {mp : Nat} {lf : Nat → Int32} {Pb : pc_C} {gt gp gh : Nat → Int32} {Pv : pc_C} {gd : Nat → Int32} {Pq : pc_C} {rest : va_W} {A : aA} (hA : AI mp A) (hC : CL mp A lf Pb gt gp gh Pv gd Pq) {v u : Int32} : bC D bcl (tys3 cI cZ cJ) y_S_out ({ frames := 7, cells := 3, slots := 18, locals := 106 }) (wS ad cI cZ mp lf (aN A) Pb gt gp gh Pv gd Pq (aCr A) rest) [.ref (ad 0), .int v, .int u] (bI (fun x ws9 => ∃ (A' : aA) (lf1 : Nat → Int32) (Pb1 : pc_C) (gt1 gp1 gh1 : Nat → Int32) (Pv1 : pc_C) (gd1 : Nat → Int32) (Pq1 : pc_C), OP_out A v u x A' ∧ AI mp A' ∧ CL mp A' lf1 Pb1 gt1 gp1 gh1 Pv1 gd1 Pq1 ∧ ws9 = wS ad cI cZ mp lf1 (aN A') Pb1 gt1 gp1 gh1 Pv1 gd1 Pq1 (aCr A') rest) (fun E ws9 => ((E = "java/lang/IllegalStateException" ∧ OT_out A v u 2) ∨ (E = "java/lang/IndexOutOfBoundsException" ∧ OT_out A v u 1)) ∧ ws9 = wS ad cI cZ mp lf (aN A) Pb gt gp gh Pv gd Pq (aCr A) rest)) := by
  have hS := hA.okS
  obtain ⟨lg, n, S, fd, fn, mk, np, ql, qa, cr⟩ := A
  obtain ⟨hL, hX, hF, hG, hQ⟩ := hA
  obtain ⟨hRl, ⟨hRb, hRt, hRv, hRd⟩, hRp, hRq, mh, hRh⟩ := hC
  dsimp only [aLg, aN, aSt, aFd, aFn, aMk, aNp, aQl, aQa, aCr] at *
  refine (c_S_out hRb hRv hRd (v := v) (u := u) hS.2.2.2.1).mono (bI_mono2 (fun x ws9 h => ?_) (fun E ws9 h => ?_))
  · obtain ⟨h1, h2, h3, h9⟩ := h
    refine ⟨(lg, n, S, fd, fn, mk, np, ql, qa, cr), lf, Pb, gt, gp, gh, Pv, gd, Pq, ⟨h1, h2, ?_, rfl⟩, ⟨hL, hX, hF, hG, hQ⟩, ⟨hRl, ⟨hRb, hRt, hRv, hRd⟩, hRp, hRq, mh, hRh⟩, h9⟩
    obtain ⟨j, hj, rfl⟩ := nI_btw h2.1 (Nat.lt_of_le_of_lt hS.2.1 (by decide))
    rw [nI_clamp (by have := hS.2.1; omega)] at h3 ⊢
    rw [h3]
    exact outS_congr _ _ _ (fun q _ hq => ⟨fup_n (Nat.ne_of_lt (rwS_b hS (Nat.le_of_lt hj) (by show q < lenV _ _ _; omega))), baS_f (rwS_b hS (Nat.le_of_lt hj) (by show q < lenV _ _ _; omega))⟩)
  · rcases h with ⟨h1, rfl, h2⟩ | ⟨h1, h0, rfl, h2⟩
    · exact ⟨Or.inl ⟨rfl, Or.inl ⟨rfl, h1⟩⟩, h2⟩
    · exact ⟨Or.inr ⟨rfl, Or.inr ⟨rfl, h1, h0⟩⟩, h2⟩
set_option maxRecDepth 20000 in
set_option maxHeartbeats 4000000 in
theorem k_packByte {D : va_G} {cI cZ cJ : ClassId} {ad : Nat → Nat} {mp : Nat} {lf : Nat → Int32} {Pb : pc_C} {gt gp gh : Nat → Int32} {Pv : pc_C} {gd : Nat → Int32} {Pq : pc_C} {rest : va_W} {A : aA} (hA : AI mp A) (hC : CL mp A lf Pb gt gp gh Pv gd Pq) {v u : Int32} : bC D bcl (tys3 cI cZ cJ) y_S_packByte ({ frames := 7, cells := 2, slots := 12, locals := 106 }) (wS ad cI cZ mp lf (aN A) Pb gt gp gh Pv gd Pq (aCr A) rest) [.ref (ad 0), .int v, .int u] (bI (fun x ws9 => ∃ (A' : aA) (lf1 : Nat → Int32) (Pb1 : pc_C) (gt1 gp1 gh1 : Nat → Int32) (Pv1 : pc_C) (gd1 : Nat → Int32) (Pq1 : pc_C), OP_packByte A v u x A' ∧ AI mp A' ∧ CL mp A' lf1 Pb1 gt1 gp1 gh1 Pv1 gd1 Pq1 ∧ ws9 = wS ad cI cZ mp lf1 (aN A') Pb1 gt1 gp1 gh1 Pv1 gd1 Pq1 (aCr A') rest) (fun E ws9 => ((E = "java/lang/IllegalStateException" ∧ OT_packByte A v u 2) ∨ (E = "java/lang/IndexOutOfBoundsException" ∧ OT_packByte A v u 1)) ∧ ws9 = wS ad cI cZ mp lf (aN A) Pb gt gp gh Pv gd Pq (aCr A) rest)) := by
  have hS := hA.okS
  obtain ⟨lg, n, S, fd, fn, mk, np, ql, qa, cr⟩ := A
  obtain ⟨hL, hX, hF, hG, hQ⟩ := hA
  obtain ⟨hRl, ⟨hRb, hRt, hRv, hRd⟩, hRp, hRq, mh, hRh⟩ := hC
  dsimp only [aLg, aN, aSt, aFd, aFn, aMk, aNp, aQl, aQa, aCr] at *
  refine (c_S_packByte hRq (v := v) (u := u) hQ.2.1).mono (bI_mono2 (fun x ws9 h => ?_) (fun E ws9 h => ?_))
  · obtain ⟨h1, h2, h3, h9⟩ := h
    exact ⟨(lg, n, S, fd, fn, mk, np, ql, qa, cr), lf, Pb, gt, gp, gh, Pv, gd, Pq, ⟨h1, h2, h3, rfl⟩, ⟨hL, hX, hF, hG, hQ⟩, ⟨hRl, ⟨hRb, hRt, hRv, hRd⟩, hRp, hRq, mh, hRh⟩, h9⟩
  · rcases h with ⟨h1, rfl, h2⟩ | ⟨h1, h0, rfl, h2⟩
    · exact ⟨Or.inl ⟨rfl, Or.inl ⟨rfl, h1⟩⟩, h2⟩
    · exact ⟨Or.inr ⟨rfl, Or.inr ⟨rfl, h1, h0⟩⟩, h2⟩
set_option maxRecDepth 20000 in
set_option maxHeartbeats 4000000 in
theorem k_badAt {D : va_G} {cI cZ cJ : ClassId} {ad : Nat → Nat} {mp : Nat} {lf : Nat → Int32} {Pb : pc_C} {gt gp gh : Nat → Int32} {Pv : pc_C} {gd : Nat → Int32} {Pq : pc_C} {rest : va_W} {A : aA} (hA : AI mp A) (hC : CL mp A lf Pb gt gp gh Pv gd Pq)  : bC D bcl (tys3 cI cZ cJ) y_S_badAt ({ frames := 7, cells := 1, slots := 6, locals := 104 }) (wS ad cI cZ mp lf (aN A) Pb gt gp gh Pv gd Pq (aCr A) rest) [.ref (ad 0)] (bI (fun x ws9 => ∃ (A' : aA) (lf1 : Nat → Int32) (Pb1 : pc_C) (gt1 gp1 gh1 : Nat → Int32) (Pv1 : pc_C) (gd1 : Nat → Int32) (Pq1 : pc_C), OP_badAt A x A' ∧ AI mp A' ∧ CL mp A' lf1 Pb1 gt1 gp1 gh1 Pv1 gd1 Pq1 ∧ ws9 = wS ad cI cZ mp lf1 (aN A') Pb1 gt1 gp1 gh1 Pv1 gd1 Pq1 (aCr A') rest) (fun E ws9 => (E = "java/lang/IllegalStateException" ∧ OT_badAt A 1) ∧ ws9 = wS ad cI cZ mp lf (aN A) Pb gt gp gh Pv gd Pq (aCr A) rest)) := by
  have hS := hA.okS
  obtain ⟨lg, n, S, fd, fn, mk, np, ql, qa, cr⟩ := A
  obtain ⟨hL, hX, hF, hG, hQ⟩ := hA
  obtain ⟨hRl, ⟨hRb, hRt, hRv, hRd⟩, hRp, hRq, mh, hRh⟩ := hC
  dsimp only [aLg, aN, aSt, aFd, aFn, aMk, aNp, aQl, aQa, aCr] at *
  refine (c_S_badAt hRq hQ.2.1 hQ.2.2.2.2.1).mono (bI_mono2 (fun x ws9 h => ?_) (fun E ws9 h => ?_))
  · obtain ⟨h1, h3, h9⟩ := h
    exact ⟨(lg, n, S, fd, fn, mk, np, ql, qa, cr), lf, Pb, gt, gp, gh, Pv, gd, Pq, ⟨h1, h3, rfl⟩, ⟨hL, hX, hF, hG, hQ⟩, ⟨hRl, ⟨hRb, hRt, hRv, hRd⟩, hRp, hRq, mh, hRh⟩, h9⟩
  · obtain ⟨h1, rfl, h2⟩ := h
    exact ⟨⟨rfl, rfl, h1⟩, h2⟩
set_option maxRecDepth 20000 in
set_option maxHeartbeats 4000000 in
theorem k_feed {D : va_G} {cI cZ cJ : ClassId} {ad : Nat → Nat} {mp : Nat} {lf : Nat → Int32} {Pb : pc_C} {gt gp gh : Nat → Int32} {Pv : pc_C} {gd : Nat → Int32} {Pq : pc_C} {rest : va_W} {A : aA} (hA : AI mp A) (hC : CL mp A lf Pb gt gp gh Pv gd Pq) {v : Int32} : bC D bcl (tys3 cI cZ cJ) y_S_feed ({ frames := 7, cells := 1, slots := 6, locals := 104 }) (wS ad cI cZ mp lf (aN A) Pb gt gp gh Pv gd Pq (aCr A) rest) [.ref (ad 0), .int v] (bI (fun x ws9 => (∃ b : Bool, x = bB b) ∧ ∃ (A' : aA) (lf1 : Nat → Int32) (Pb1 : pc_C) (gt1 gp1 gh1 : Nat → Int32) (Pv1 : pc_C) (gd1 : Nat → Int32) (Pq1 : pc_C), OP_feed A v x A' ∧ AI mp A' ∧ CL mp A' lf1 Pb1 gt1 gp1 gh1 Pv1 gd1 Pq1 ∧ ws9 = wS ad cI cZ mp lf1 (aN A') Pb1 gt1 gp1 gh1 Pv1 gd1 Pq1 (aCr A') rest) (fun E ws9 => (E = "java/lang/IllegalStateException" ∧ OT_feed A v 1) ∧ ws9 = wS ad cI cZ mp lf (aN A) Pb gt gp gh Pv gd Pq (aCr A) rest)) := by
  have hS := hA.okS
  obtain ⟨lg, n, S, fd, fn, mk, np, ql, qa, cr⟩ := A
  obtain ⟨hL, hX, hF, hG, hQ⟩ := hA
  obtain ⟨hRl, ⟨hRb, hRt, hRv, hRd⟩, hRp, hRq, mh, hRh⟩ := hC
  dsimp only [aLg, aN, aSt, aFd, aFn, aMk, aNp, aQl, aQa, aCr] at *
  refine (c_S_feed hRb (v := v) (hb_of hS hF)).mono (bI_mono2 (fun x ws9 h => ?_) (fun E ws9 h => ?_))
  · obtain ⟨h1, h2⟩ := h
    rw [fup_s] at h2
    rcases h2 with ⟨h3, h4, h9⟩ | ⟨h3, h4, Pb1, h5, h9⟩
    · exact ⟨⟨_, h4⟩, ⟨(lg, n, S, fd, fn, mk, np, ql, qa, cr), lf, Pb, gt, gp, gh, Pv, gd, Pq, ⟨h1, Or.inl ⟨h3, h4, rfl⟩⟩, ⟨hL, hX, hF, hG, hQ⟩, ⟨hRl, ⟨hRb, hRt, hRv, hRd⟩, hRp, hRq, mh, hRh⟩, h9⟩⟩
    · have h6 := clB_feed h5
      refine ⟨⟨_, h4⟩, (lg, n, S, fd + 1, fup fn fd v.toNatClampNeg, mk, np, ql, qa, cr), lf, Pb1, gt, gp, gh, Pv, gd, Pq, ⟨h1, Or.inr ⟨h3, h4, rfl⟩⟩, ⟨hL, fun z => absurd (h1.symm.trans z) (by decide), h3.2, fun i hi => ?_, hQ⟩, ⟨hRl, ⟨h6, hRt, hRv, hRd⟩, hRp, hRq, mh, hRh⟩, h9⟩
      obtain ⟨x0, hx0, rfl⟩ := nI_btw h3.1 (by decide)
      show fup fn fd (nI x0).toNatClampNeg i < 256
      rw [nI_clamp (by omega)]
      by_cases z : i = fd
      · rw [z, fup_s]; exact hx0
      · rw [fup_n z]; exact hG i (by have : i < fd + 1 := hi; omega)
  · obtain ⟨h1, rfl, h2⟩ := h
    exact ⟨⟨rfl, rfl, h1⟩, h2⟩
set_option maxRecDepth 20000 in
set_option maxHeartbeats 4000000 in
theorem k_version {D : va_G} {cI cZ cJ : ClassId} {ad : Nat → Nat} {mp : Nat} {lf : Nat → Int32} {Pb : pc_C} {gt gp gh : Nat → Int32} {Pv : pc_C} {gd : Nat → Int32} {Pq : pc_C} {rest : va_W} {A : aA} (hA : AI mp A) (hC : CL mp A lf Pb gt gp gh Pv gd Pq)  : bC D bcl (tys3 cI cZ cJ) y_S_version ({ frames := 7, cells := 1, slots := 6, locals := 104 }) (wS ad cI cZ mp lf (aN A) Pb gt gp gh Pv gd Pq (aCr A) rest) [.ref (ad 0)] (bI (fun x ws9 => ∃ (A' : aA) (lf1 : Nat → Int32) (Pb1 : pc_C) (gt1 gp1 gh1 : Nat → Int32) (Pv1 : pc_C) (gd1 : Nat → Int32) (Pq1 : pc_C), OP_version A x A' ∧ AI mp A' ∧ CL mp A' lf1 Pb1 gt1 gp1 gh1 Pv1 gd1 Pq1 ∧ ws9 = wS ad cI cZ mp lf1 (aN A') Pb1 gt1 gp1 gh1 Pv1 gd1 Pq1 (aCr A') rest) (fun E ws9 => (E = "java/lang/IllegalStateException" ∧ OT_version A 1) ∧ ws9 = wS ad cI cZ mp lf (aN A) Pb gt gp gh Pv gd Pq (aCr A) rest)) := by
  have hS := hA.okS
  obtain ⟨lg, n, S, fd, fn, mk, np, ql, qa, cr⟩ := A
  obtain ⟨hL, hX, hF, hG, hQ⟩ := hA
  obtain ⟨hRl, ⟨hRb, hRt, hRv, hRd⟩, hRp, hRq, mh, hRh⟩ := hC
  dsimp only [aLg, aN, aSt, aFd, aFn, aMk, aNp, aQl, aQa, aCr] at *
  refine (c_S_version hRl hRv).mono (bI_mono2 (fun x ws9 h => ?_) (fun E ws9 h => ?_))
  · obtain ⟨h1, h2⟩ := h
    rcases h2 with ⟨h3, h4, h9⟩ | ⟨h3, h4, lf1, Pv1, h5, h6, h9⟩
    · exact ⟨(lg, n, S, fd, fn, mk, np, ql, qa, cr), lf, Pb, gt, gp, gh, Pv, gd, Pq, ⟨h1, Or.inl ⟨h3, h4, rfl⟩⟩, ⟨hL, hX, hF, hG, hQ⟩, ⟨hRl, ⟨hRb, hRt, hRv, hRd⟩, hRp, hRq, mh, hRh⟩, h9⟩
    · have e0 : fup lg n 3 n = 3 := fup_s
      have hb9 := clB_lg (lg' := fup lg n 3) hRb hS (fun i hi => fup_n (by omega))
      have hlog : logOk (fup lg n 3) (n + 1) (ac3 S) := (hL h1).ext (fun i hi => fup_n (by omega)) (Or.inr (Or.inr (Or.inl ⟨e0, h3.1⟩))) (by rw [(act_3 (S := S) e0).2]) (act_3 e0).1.symm
      exact ⟨(fup lg n 3, n + 1, ac3 S, fd, fn, mk, np, ql, qa, cr), lf1, Pb, gt, gp, gh, Pv1, gd, Pq, ⟨h1, Or.inr ⟨h3, h4, rfl⟩⟩, ⟨fun _ => hlog, fun z => absurd (h1.symm.trans z) (by decide), hF, hG, hQ⟩, ⟨h5, ⟨hb9, hRt, h6, hRd⟩, hRp, hRq, mh, hRh⟩, h9⟩
  · obtain ⟨h1, rfl, h2⟩ := h
    exact ⟨⟨rfl, rfl, h1⟩, h2⟩
set_option maxRecDepth 20000 in
set_option maxHeartbeats 4000000 in
theorem k_sweep {D : va_G} {cI cZ cJ : ClassId} {ad : Nat → Nat} {mp : Nat} {lf : Nat → Int32} {Pb : pc_C} {gt gp gh : Nat → Int32} {Pv : pc_C} {gd : Nat → Int32} {Pq : pc_C} {rest : va_W} {A : aA} (hA : AI mp A) (hC : CL mp A lf Pb gt gp gh Pv gd Pq)  : bC D bcl (tys3 cI cZ cJ) y_S_sweep ({ frames := 7, cells := 1, slots := 6, locals := 104 }) (wS ad cI cZ mp lf (aN A) Pb gt gp gh Pv gd Pq (aCr A) rest) [.ref (ad 0)] (bI (fun x ws9 => ∃ (A' : aA) (lf1 : Nat → Int32) (Pb1 : pc_C) (gt1 gp1 gh1 : Nat → Int32) (Pv1 : pc_C) (gd1 : Nat → Int32) (Pq1 : pc_C), OP_sweep A x A' ∧ AI mp A' ∧ CL mp A' lf1 Pb1 gt1 gp1 gh1 Pv1 gd1 Pq1 ∧ ws9 = wS ad cI cZ mp lf1 (aN A') Pb1 gt1 gp1 gh1 Pv1 gd1 Pq1 (aCr A') rest) (fun E ws9 => (E = "java/lang/IllegalStateException" ∧ OT_sweep A 1) ∧ ws9 = wS ad cI cZ mp lf (aN A) Pb gt gp gh Pv gd Pq (aCr A) rest)) := by
  have hS := hA.okS
  obtain ⟨lg, n, S, fd, fn, mk, np, ql, qa, cr⟩ := A
  obtain ⟨hL, hX, hF, hG, hQ⟩ := hA
  obtain ⟨hRl, ⟨hRb, hRt, hRv, hRd⟩, hRp, hRq, mh, hRh⟩ := hC
  dsimp only [aLg, aN, aSt, aFd, aFn, aMk, aNp, aQl, aQa, aCr] at *
  refine (c_S_sweep hRl hRb hRt hRv hRd hRh hS.2.2.2.1).mono (bI_mono2 (fun x ws9 h => ?_) (fun E ws9 h => ?_))
  · obtain ⟨h1, h2⟩ := h
    rcases h2 with ⟨h3, h4, h9⟩ | ⟨h3, h4, lf1, gt1, gh1, h5, h6, h7, h9⟩
    · exact ⟨(lg, n, S, fd, fn, mk, np, ql, qa, cr), lf, Pb, gt, gp, gh, Pv, gd, Pq, ⟨h1, Or.inl ⟨h3, h4, rfl⟩⟩, ⟨hL, hX, hF, hG, hQ⟩, ⟨hRl, ⟨hRb, hRt, hRv, hRd⟩, hRp, hRq, mh, hRh⟩, h9⟩
    · have e0 : fup lg n 5 n = 5 := fup_s
      have hb9 := clB_lg (lg' := fup lg n 5) hRb hS (fun i hi => fup_n (by omega))
      have hlog : logOk (fup lg n 5) (n + 1) (ac5 S) := (hL h1).ext (fun i hi => fup_n (by omega)) (Or.inr (Or.inr (Or.inr (Or.inr e0)))) (by rw [(act_5 (S := S) e0).2]) (act_5 e0).1.symm
      exact ⟨(fup lg n 5, n + 1, ac5 S, fd, fn, mk, np, ql, qa, cr), lf1, Pb, gt1, gp, gh1, Pv, gd, Pq, ⟨h1, Or.inr ⟨h3, h4, rfl⟩⟩, ⟨fun _ => hlog, fun z => absurd (h1.symm.trans z) (by decide), hF, hG, hQ⟩, ⟨h5, ⟨hb9, h6, hRv, hRd⟩, hRp, hRq, _, h7⟩, h9⟩
  · obtain ⟨h1, rfl, h2⟩ := h
    exact ⟨⟨rfl, rfl, h1⟩, h2⟩
set_option maxRecDepth 20000 in
set_option maxHeartbeats 4000000 in
theorem k_drop {D : va_G} {cI cZ cJ : ClassId} {ad : Nat → Nat} {mp : Nat} {lf : Nat → Int32} {Pb : pc_C} {gt gp gh : Nat → Int32} {Pv : pc_C} {gd : Nat → Int32} {Pq : pc_C} {rest : va_W} {A : aA} (hA : AI mp A) (hC : CL mp A lf Pb gt gp gh Pv gd Pq) {v : Int32} : bC D bcl (tys3 cI cZ cJ) y_S_drop ({ frames := 7, cells := 2, slots := 12, locals := 105 }) (wS ad cI cZ mp lf (aN A) Pb gt gp gh Pv gd Pq (aCr A) rest) [.ref (ad 0), .int v] (bI (fun x ws9 => (∃ b : Bool, x = bB b) ∧ ∃ (A' : aA) (lf1 : Nat → Int32) (Pb1 : pc_C) (gt1 gp1 gh1 : Nat → Int32) (Pv1 : pc_C) (gd1 : Nat → Int32) (Pq1 : pc_C), OP_drop A v x A' ∧ AI mp A' ∧ CL mp A' lf1 Pb1 gt1 gp1 gh1 Pv1 gd1 Pq1 ∧ ws9 = wS ad cI cZ mp lf1 (aN A') Pb1 gt1 gp1 gh1 Pv1 gd1 Pq1 (aCr A') rest) (fun E ws9 => ((E = "java/lang/IllegalStateException" ∧ OT_drop A v 2) ∨ (E = "java/lang/IndexOutOfBoundsException" ∧ OT_drop A v 1)) ∧ ws9 = wS ad cI cZ mp lf (aN A) Pb gt gp gh Pv gd Pq (aCr A) rest)) := by
  have hS := hA.okS
  obtain ⟨lg, n, S, fd, fn, mk, np, ql, qa, cr⟩ := A
  obtain ⟨hL, hX, hF, hG, hQ⟩ := hA
  obtain ⟨hRl, ⟨hRb, hRt, hRv, hRd⟩, hRp, hRq, mh, hRh⟩ := hC
  dsimp only [aLg, aN, aSt, aFd, aFn, aMk, aNp, aQl, aQa, aCr] at *
  refine (c_S_drop hRl hRv hRd (v := v)).mono (bI_mono2 (fun x ws9 h => ?_) (fun E ws9 h => ?_))
  · obtain ⟨h1, h2, h8⟩ := h
    rcases h8 with ⟨h3, h4, h9⟩ | ⟨h3, h4, lf1, gd1, h5, h6, h9⟩
    · exact ⟨⟨_, h4⟩, ⟨(lg, n, S, fd, fn, mk, np, ql, qa, cr), lf, Pb, gt, gp, gh, Pv, gd, Pq, ⟨h1, h2, Or.inl ⟨h3, h4, rfl⟩⟩, ⟨hL, hX, hF, hG, hQ⟩, ⟨hRl, ⟨hRb, hRt, hRv, hRd⟩, hRp, hRq, mh, hRh⟩, h9⟩⟩
    · obtain ⟨e0, e1, e2⟩ := rec2_n (lg := lg) (n := n) (k := 4) (v := v.toNatClampNeg)
      have hb9 := clB_lg (lg' := rec2 lg n 4 v.toNatClampNeg) hRb hS e2
      have hv : v.toNatClampNeg < sNv S := by obtain ⟨j, hj, rfl⟩ := nI_btw h2 (Nat.lt_of_le_of_lt hS.2.1 (by decide)); rw [nI_clamp (by have := hS.2.1; omega)]; exact hj
      have hlog : logOk (rec2 lg n 4 v.toNatClampNeg) (n + 2) (ac4 v.toNatClampNeg S) := (hL h1).ext e2 (Or.inr (Or.inr (Or.inr (Or.inl ⟨e0, by rw [e1]; exact hv⟩)))) (by rw [(act_4 (S := S) e0).2]) (by rw [(act_4 (S := S) e0).1, e1])
      exact ⟨⟨_, h4⟩, (rec2 lg n 4 v.toNatClampNeg, n + 2, ac4 v.toNatClampNeg S, fd, fn, mk, np, ql, qa, cr), lf1, Pb, gt, gp, gh, Pv, gd1, Pq, ⟨h1, h2, Or.inr ⟨h3, h4, rfl⟩⟩, ⟨fun _ => hlog, fun z => absurd (h1.symm.trans z) (by decide), hF, hG, hQ⟩, ⟨h5, ⟨hb9, hRt, hRv, h6⟩, hRp, hRq, mh, hRh⟩, h9⟩
  · rcases h with ⟨h1, rfl, h2⟩ | ⟨h1, h0, rfl, h2⟩
    · exact ⟨Or.inl ⟨rfl, Or.inl ⟨rfl, h1⟩⟩, h2⟩
    · exact ⟨Or.inr ⟨rfl, Or.inr ⟨rfl, h1, h0⟩⟩, h2⟩
set_option maxRecDepth 20000 in
set_option maxHeartbeats 4000000 in
theorem k_block {D : va_G} {cI cZ cJ : ClassId} {ad : Nat → Nat} {mp : Nat} {lf : Nat → Int32} {Pb : pc_C} {gt gp gh : Nat → Int32} {Pv : pc_C} {gd : Nat → Int32} {Pq : pc_C} {rest : va_W} {A : aA} (hA : AI mp A) (hC : CL mp A lf Pb gt gp gh Pv gd Pq)  : bC D bcl (tys3 cI cZ cJ) y_S_block ({ frames := 7, cells := 1, slots := 6, locals := 115 }) (wS ad cI cZ mp lf (aN A) Pb gt gp gh Pv gd Pq (aCr A) rest) [.ref (ad 0)] (bI (fun x ws9 => ∃ (A' : aA) (lf1 : Nat → Int32) (Pb1 : pc_C) (gt1 gp1 gh1 : Nat → Int32) (Pv1 : pc_C) (gd1 : Nat → Int32) (Pq1 : pc_C), OP_block A x A' ∧ AI mp A' ∧ CL mp A' lf1 Pb1 gt1 gp1 gh1 Pv1 gd1 Pq1 ∧ ws9 = wS ad cI cZ mp lf1 (aN A') Pb1 gt1 gp1 gh1 Pv1 gd1 Pq1 (aCr A') rest) (fun E ws9 => (E = "java/lang/IllegalStateException" ∧ OT_block A 1) ∧ ws9 = wS ad cI cZ mp lf (aN A) Pb gt gp gh Pv gd Pq (aCr A) rest)) := by
  have hS := hA.okS
  obtain ⟨lg, n, S, fd, fn, mk, np, ql, qa, cr⟩ := A
  obtain ⟨hL, hX, hF, hG, hQ⟩ := hA
  obtain ⟨hRl, ⟨hRb, hRt, hRv, hRd⟩, hRp, hRq, mh, hRh⟩ := hC
  dsimp only [aLg, aN, aSt, aFd, aFn, aMk, aNp, aQl, aQa, aCr] at *
  have hbo : ∀ i, i < fup (sLn S) (sNb S) fd (sNb S) → baS lg S fn (sNb S) i < 256 := fun i hi => by rw [fup_s] at hi; rw [baS_o]; exact hG i hi
  refine (c_S_block hRl hRb hRt hRv (by rw [fup_s]; exact hF) hbo hS.2.2.1).mono (bI_mono2 (fun x ws9 h => ?_) (fun E ws9 h => ?_))
  · obtain ⟨h1, h2⟩ := h
    rw [fup_s] at h2
    rcases h2 with ⟨h3, h4, h9⟩ | ⟨h3, h2⟩
    · exact ⟨(lg, n, S, fd, fn, mk, np, ql, qa, cr), lf, Pb, gt, gp, gh, Pv, gd, Pq, ⟨h1, Or.inl ⟨h3, h4, rfl⟩⟩, ⟨hL, hX, hF, hG, hQ⟩, ⟨hRl, ⟨hRb, hRt, hRv, hRd⟩, hRp, hRq, mh, hRh⟩, h9⟩
    · rcases h2 with ⟨j, hj, hq, hm, h2⟩ | ⟨hq, h2⟩
      · have hq2 := (eqF_eqM hj).mp hq
        have hm2 : ∀ j0, j0 < j → ¬ eqM lg S fd fn j0 := fun j0 h z => hm j0 h ((eqF_eqM (by omega)).mpr z)
        rcases h2 with ⟨h4, h5, h9⟩ | ⟨h4, h5, lf1, Pb1, Pv1, h6, h7, h8, h9⟩
        · exact ⟨(lg, n, S, fd, fn, mk, np, ql, qa, cr), lf, Pb, gt, gp, gh, Pv, gd, Pq, ⟨h1, Or.inr ⟨h3, Or.inl ⟨j, hj, hq2, hm2, Or.inl ⟨h4, h5, rfl⟩⟩⟩⟩, ⟨hL, hX, hF, hG, hQ⟩, ⟨hRl, ⟨hRb, hRt, hRv, hRd⟩, hRp, hRq, mh, hRh⟩, h9⟩
        · obtain ⟨e0, e1, e2⟩ := rec2_n (lg := lg) (n := n) (k := 2) (v := j)
          have hb9 := clB_0 (lg' := rec2 lg n 2 j) (fn' := fn) h7 hS e2
          have hlog : logOk (rec2 lg n 2 j) (n + 2) (ac2 j S) := (hL h1).ext e2 (Or.inr (Or.inl ⟨e0, by rw [e1]; exact hj, h3⟩)) (by rw [(act_2 (S := S) e0).2]) (by rw [(act_2 (S := S) e0).1, e1])
          exact ⟨(rec2 lg n 2 j, n + 2, ac2 j S, 0, fn, mk, np, ql, qa, cr), lf1, Pb1, gt, gp, gh, Pv1, gd, Pq, ⟨h1, Or.inr ⟨h3, Or.inl ⟨j, hj, hq2, hm2, Or.inr ⟨h4, h5, rfl⟩⟩⟩⟩, ⟨fun _ => hlog, fun z => absurd (h1.symm.trans z) (by decide), Nat.zero_le _, fun i hi => absurd hi (Nat.not_lt_zero _), hQ⟩, ⟨h6, ⟨hb9, hRt, h8, hRd⟩, hRp, hRq, mh, hRh⟩, h9⟩
      · have hq2 : ∀ j, j < sNb S → ¬ eqM lg S fd fn j := fun j h z => hq j h ((eqF_eqM h).mpr z)
        rcases h2 with ⟨h4, h5, h9⟩ | ⟨h4, h5, lf1, h6, Pb1, gt1, Pv1, h7, h8, h10, h9⟩
        · exact ⟨(lg, n, S, fd, fn, mk, np, ql, qa, cr), lf, Pb, gt, gp, gh, Pv, gd, Pq, ⟨h1, Or.inr ⟨h3, Or.inr ⟨hq2, Or.inl ⟨h4, h5, rfl⟩⟩⟩⟩, ⟨hL, hX, hF, hG, hQ⟩, ⟨hRl, ⟨hRb, hRt, hRv, hRd⟩, hRp, hRq, mh, hRh⟩, h9⟩
        · rw [show baS lg S fn (sNb S) = fn from funext fun i => baS_o] at h6
          obtain ⟨e0, e1, e2, e3⟩ := rec1_n (lg := lg) (n := n) (len := fd) (f := fn)
          have hlog : logOk (rec1 lg n fd fn) (n + 2 + fd) (ac1 n fd S) := (hL h1).ext e2 (Or.inl ⟨e0, h4.1, by rw [e1]; exact hF, h3⟩) (by rw [(act_1 (S := S) e0).2, e1]; omega) (by rw [(act_1 (S := S) e0).1, e1])
          exact ⟨(rec1 lg n fd fn, n + 2 + fd, ac1 n fd S, 0, fn, mk, np, ql, qa, cr), lf1, Pb1, gt1, gp, gh, Pv1, gd, Pq, ⟨h1, Or.inr ⟨h3, Or.inr ⟨hq2, Or.inr ⟨h4, h5, rfl⟩⟩⟩⟩, ⟨fun _ => hlog, fun z => absurd (h1.symm.trans z) (by decide), Nat.zero_le _, fun i hi => absurd hi (Nat.not_lt_zero _), hQ⟩, ⟨h6, ⟨clB_new h7 hS, h8, h10, hRd⟩, hRp, hRq, mh, hRh⟩, h9⟩
  · obtain ⟨h1, rfl, h2⟩ := h
    exact ⟨⟨rfl, rfl, h1⟩, h2⟩
set_option maxRecDepth 20000 in
set_option maxHeartbeats 4000000 in
theorem k_pack {D : va_G} {cI cZ cJ : ClassId} {ad : Nat → Nat} {mp : Nat} {lf : Nat → Int32} {Pb : pc_C} {gt gp gh : Nat → Int32} {Pv : pc_C} {gd : Nat → Int32} {Pq : pc_C} {rest : va_W} {A : aA} (hA : AI mp A) (hC : CL mp A lf Pb gt gp gh Pv gd Pq)  : bC D bcl (tys3 cI cZ cJ) y_S_pack ({ frames := 7, cells := 1, slots := 6, locals := 104 }) (wS ad cI cZ mp lf (aN A) Pb gt gp gh Pv gd Pq (aCr A) rest) [.ref (ad 0)] (bI (fun x ws9 => ∃ (A' : aA) (lf1 : Nat → Int32) (Pb1 : pc_C) (gt1 gp1 gh1 : Nat → Int32) (Pv1 : pc_C) (gd1 : Nat → Int32) (Pq1 : pc_C), OP_pack mp A x A' ∧ AI mp A' ∧ CL mp A' lf1 Pb1 gt1 gp1 gh1 Pv1 gd1 Pq1 ∧ ws9 = wS ad cI cZ mp lf1 (aN A') Pb1 gt1 gp1 gh1 Pv1 gd1 Pq1 (aCr A') rest) (fun E ws9 => (E = "java/lang/IllegalStateException" ∧ OT_pack mp A 1) ∧ ws9 = wS ad cI cZ mp lf (aN A) Pb gt gp gh Pv gd Pq (aCr A) rest)) := by
  have hS := hA.okS
  obtain ⟨lg, n, S, fd, fn, mk, np, ql, qa, cr⟩ := A
  obtain ⟨hL, hX, hF, hG, hQ⟩ := hA
  obtain ⟨hRl, ⟨hRb, hRt, hRv, hRd⟩, hRp, hRq, mh, hRh⟩ := hC
  dsimp only [aLg, aN, aSt, aFd, aFn, aMk, aNp, aQl, aQa, aCr] at *
  have hb24 : ∀ j, j < sNb S → fup (sLn S) (sNb S) fd j ≤ 24 := fun j hj => hb_of hS hF j (Nat.le_of_lt hj)
  refine (c_S_pack hRb hRt hRp hRq hQ.2.1 hb24 (fun z => by have y := hQ.2.2.2.1; have y2 := hQ.2.1; omega)).mono (bI_mono2 (fun x ws9 h => ?_) (fun E ws9 h => ?_))
  · obtain ⟨h1, h2⟩ := h
    rcases h2 with ⟨h3, h4, h9⟩ | ⟨h3, h4, gp1, Pq1, h5, h6, h9⟩
    · exact ⟨(lg, n, S, fd, fn, mk, np, ql, qa, cr), lf, Pb, gt, gp, gh, Pv, gd, Pq, ⟨h1, Or.inl ⟨h3, h4, rfl⟩⟩, ⟨hL, hX, hF, hG, hQ⟩, ⟨hRl, ⟨hRb, hRt, hRv, hRd⟩, hRp, hRq, mh, hRh⟩, h9⟩
    · rw [pkA_congr (bl' := sLn S) (ba' := lbS lg S) (sNb S) (fun q hq => ⟨fup_n (Nat.ne_of_lt hq), baS_f hq⟩)] at h6
      have hok := okQ_pack (mt := sTh S) (bl := sLn S) (ba := lbS lg S) (s := sumS ((pkA (sTh S) mk (sLn S) (lbS lg S) np (putS np (cntU (unp (sTh S) mk) (sNb S)) (ql, qa)) (sNb S)).2 np) (nI 1) ((pkA (sTh S) mk (sLn S) (lbS lg S) np (putS np (cntU (unp (sTh S) mk) (sNb S)) (ql, qa)) (sNb S)).1 np)) hQ h3.2 hS.1 (fun q hq => ⟨(hS.2.2.2.2.1 q hq).1, fun i hi => hRl.2.2 _ (by have := (hS.2.2.2.2.1 q hq).2; omega)⟩) rfl
      exact ⟨(lg, n, S, fd, fn, pkM (sTh S) mk (sNb S), np + 1, _, _, cr), lf, Pb, gt, gp1, gh, Pv, gd, Pq1, ⟨h1, Or.inr ⟨h3, h4, rfl⟩⟩, ⟨hL, hX, hF, hG, hok⟩, ⟨hRl, ⟨hRb, hRt, hRv, hRd⟩, h5, h6, mh, hRh⟩, h9⟩
  · obtain ⟨h1, rfl, h2⟩ := h
    exact ⟨⟨rfl, rfl, h1⟩, h2⟩
set_option maxRecDepth 20000 in
set_option maxHeartbeats 4000000 in
theorem k_poke {D : va_G} {cI cZ cJ : ClassId} {ad : Nat → Nat} {mp : Nat} {lf : Nat → Int32} {Pb : pc_C} {gt gp gh : Nat → Int32} {Pv : pc_C} {gd : Nat → Int32} {Pq : pc_C} {rest : va_W} {A : aA} (hA : AI mp A) (hC : CL mp A lf Pb gt gp gh Pv gd Pq) {v u mm : Int32} : bC D bcl (tys3 cI cZ cJ) y_S_poke ({ frames := 7, cells := 2, slots := 12, locals := 106 }) (wS ad cI cZ mp lf (aN A) Pb gt gp gh Pv gd Pq (aCr A) rest) [.ref (ad 0), .int v, .int u, .int mm] (bI (fun x ws9 => (∃ b : Bool, x = bB b) ∧ ∃ (A' : aA) (lf1 : Nat → Int32) (Pb1 : pc_C) (gt1 gp1 gh1 : Nat → Int32) (Pv1 : pc_C) (gd1 : Nat → Int32) (Pq1 : pc_C), OP_poke A v u mm x A' ∧ AI mp A' ∧ CL mp A' lf1 Pb1 gt1 gp1 gh1 Pv1 gd1 Pq1 ∧ ws9 = wS ad cI cZ mp lf1 (aN A') Pb1 gt1 gp1 gh1 Pv1 gd1 Pq1 (aCr A') rest) (fun E ws9 => ((E = "java/lang/IllegalStateException" ∧ OT_poke A v u mm 2) ∨ (E = "java/lang/IndexOutOfBoundsException" ∧ OT_poke A v u mm 1)) ∧ ws9 = wS ad cI cZ mp lf (aN A) Pb gt gp gh Pv gd Pq (aCr A) rest)) := by
  have hS := hA.okS
  obtain ⟨lg, n, S, fd, fn, mk, np, ql, qa, cr⟩ := A
  obtain ⟨hL, hX, hF, hG, hQ⟩ := hA
  obtain ⟨hRl, ⟨hRb, hRt, hRv, hRd⟩, hRp, hRq, mh, hRh⟩ := hC
  dsimp only [aLg, aN, aSt, aFd, aFn, aMk, aNp, aQl, aQa, aCr] at *
  refine (c_S_poke hRq (v := v) (u := u) (mm := mm) hQ.2.1 hQ.2.2.2.2.2).mono (bI_mono2 (fun x ws9 h => ?_) (fun E ws9 h => ?_))
  · obtain ⟨h1, h2, h3, Pq1, h4, h9⟩ := h
    have hq : okQ mp np ql (fup2 qa v.toNatClampNeg u.toNatClampNeg (pkX (qa v.toNatClampNeg u.toNatClampNeg) mm)) mk := by
      have y1 := hQ.1; have y2 := hQ.2.1
      obtain ⟨j, hj, rfl⟩ := nI_btw h2.1 (by omega)
      rw [nI_clamp (by omega)] at h2 ⊢
      have y3 := okQ_le hQ (Nat.le_of_lt hj)
      obtain ⟨i, hi, rfl⟩ := nI_btw h2.2 (by omega)
      rw [nI_clamp (by omega)]
      exact okQ_poke hQ hj hi
    exact ⟨⟨_, h3⟩, (lg, n, S, fd, fn, mk, np, ql, _, cr), lf, Pb, gt, gp, gh, Pv, gd, Pq1, ⟨h1, h2, h3, rfl⟩, ⟨hL, hX, hF, hG, hq⟩, ⟨hRl, ⟨hRb, hRt, hRv, hRd⟩, hRp, h4, mh, hRh⟩, h9⟩
  · rcases h with ⟨h1, rfl, h2⟩ | ⟨h1, h0, rfl, h2⟩
    · exact ⟨Or.inl ⟨rfl, Or.inl ⟨rfl, h1⟩⟩, h2⟩
    · exact ⟨Or.inr ⟨rfl, Or.inr ⟨rfl, h1, h0⟩⟩, h2⟩
set_option maxRecDepth 20000 in
set_option maxHeartbeats 4000000 in
theorem k_crash {D : va_G} {cI cZ cJ : ClassId} {ad : Nat → Nat} {mp : Nat} {lf : Nat → Int32} {Pb : pc_C} {gt gp gh : Nat → Int32} {Pv : pc_C} {gd : Nat → Int32} {Pq : pc_C} {rest : va_W} {A : aA} (hA : AI mp A) (hC : CL mp A lf Pb gt gp gh Pv gd Pq) {v : Int32} : bC D bcl (tys3 cI cZ cJ) y_S_crash ({ frames := 7, cells := 2, slots := 12, locals := 105 }) (wS ad cI cZ mp lf (aN A) Pb gt gp gh Pv gd Pq (aCr A) rest) [.ref (ad 0), .int v] (bI (fun x ws9 => (∃ b : Bool, x = bB b) ∧ ∃ (A' : aA) (lf1 : Nat → Int32) (Pb1 : pc_C) (gt1 gp1 gh1 : Nat → Int32) (Pv1 : pc_C) (gd1 : Nat → Int32) (Pq1 : pc_C), OP_crash A v x A' ∧ AI mp A' ∧ CL mp A' lf1 Pb1 gt1 gp1 gh1 Pv1 gd1 Pq1 ∧ ws9 = wS ad cI cZ mp lf1 (aN A') Pb1 gt1 gp1 gh1 Pv1 gd1 Pq1 (aCr A') rest) (fun E ws9 => ((E = "java/lang/IllegalStateException" ∧ OT_crash A v 2) ∨ (E = "java/lang/IllegalArgumentException" ∧ OT_crash A v 1)) ∧ ws9 = wS ad cI cZ mp lf (aN A) Pb gt gp gh Pv gd Pq (aCr A) rest)) := by
  have hS := hA.okS
  obtain ⟨lg, n, S, fd, fn, mk, np, ql, qa, cr⟩ := A
  obtain ⟨hL, hX, hF, hG, hQ⟩ := hA
  obtain ⟨hRl, ⟨hRb, hRt, hRv, hRd⟩, hRp, hRq, mh, hRh⟩ := hC
  dsimp only [aLg, aN, aSt, aFd, aFn, aMk, aNp, aQl, aQa, aCr] at *
  refine (c_S_crash hRl hRb hRt hRp hRv hRd hRq (v := v)).mono (bI_mono2 (fun x ws9 h => ?_) (fun E ws9 h => ?_))
  · obtain ⟨h1, h2, h3, h4, Pb1, gt1, gp1, Pv1, gd1, Pq1, h5, h6, h7, h8, h10, h11, h9⟩ := h
    have hcut : ∃ r, cutOk lg v.toNatClampNeg r := by
      obtain ⟨r, r1, r2⟩ := hL h1
      refine ch_cut r r1 ?_
      rw [r2]
      obtain ⟨j, hj, rfl⟩ := kp_btw h2 (Nat.lt_of_le_of_lt hRl.1 (by decide))
      rw [nI_clamp (by have := hRl.1; omega)]; exact hj
    exact ⟨⟨_, h3⟩, (lg, v.toNatClampNeg, aS0, 0, fn, (fun _ => false), 0, (fun _ => 0), qa, true), lf, Pb1, gt1, gp1, gh, Pv1, gd1, Pq1, ⟨h1, h2, h3, rfl⟩, ⟨fun (z : true = false) => absurd z (by decide), fun _ => ⟨rfl, rfl, hcut⟩, Nat.zero_le _, fun i hi => absurd hi (Nat.not_lt_zero _), okQ_0 hQ.2.1⟩, ⟨h4, clR_0 h5 h6 h8 h10, h7, h11, mh, hRh⟩, h9⟩
  · rcases h with ⟨h1, rfl, h2⟩ | ⟨h1, h0, rfl, h2⟩
    · exact ⟨Or.inl ⟨rfl, Or.inl ⟨rfl, h1⟩⟩, h2⟩
    · exact ⟨Or.inr ⟨rfl, Or.inr ⟨rfl, h1, h0⟩⟩, h2⟩
set_option maxRecDepth 20000 in
set_option maxHeartbeats 4000000 in
theorem k_reopen {D : va_G} {cI cZ cJ : ClassId} {ad : Nat → Nat} {mp : Nat} {lf : Nat → Int32} {Pb : pc_C} {gt gp gh : Nat → Int32} {Pv : pc_C} {gd : Nat → Int32} {Pq : pc_C} {rest : va_W} {A : aA} (hA : AI mp A) (hC : CL mp A lf Pb gt gp gh Pv gd Pq)  {r : Nat} (hcut : aCr A = true → cutOk (aLg A) (aN A) r) : bC D bcl (tys3 cI cZ cJ) y_S_reopen ({ frames := 7, cells := 1, slots := 6, locals := 111 }) (wS ad cI cZ mp lf (aN A) Pb gt gp gh Pv gd Pq (aCr A) rest) [.ref (ad 0)] (bI (fun x ws9 => ∃ (A' : aA) (lf1 : Nat → Int32) (Pb1 : pc_C) (gt1 gp1 gh1 : Nat → Int32) (Pv1 : pc_C) (gd1 : Nat → Int32) (Pq1 : pc_C), OP_reopen r A x A' ∧ AI mp A' ∧ CL mp A' lf1 Pb1 gt1 gp1 gh1 Pv1 gd1 Pq1 ∧ ws9 = wS ad cI cZ mp lf1 (aN A') Pb1 gt1 gp1 gh1 Pv1 gd1 Pq1 (aCr A') rest) (fun E ws9 => (E = "java/lang/IllegalStateException" ∧ OT_reopen r A 1) ∧ ws9 = wS ad cI cZ mp lf (aN A) Pb gt gp gh Pv gd Pq (aCr A) rest)) := by
  have hS := hA.okS
  obtain ⟨lg, n, S, fd, fn, mk, np, ql, qa, cr⟩ := A
  obtain ⟨hL, hX, hF, hG, hQ⟩ := hA
  obtain ⟨hRl, ⟨hRb, hRt, hRv, hRd⟩, hRp, hRq, mh, hRh⟩ := hC
  dsimp only [aLg, aN, aSt, aFd, aFn, aMk, aNp, aQl, aQa, aCr] at *
  cases cr
  · refine (c_S_reopenF rfl).mono (bI_mono2 (fun x ws9 h => h.elim) (fun E ws9 h => ?_))
    exact ⟨⟨h.1, rfl, rfl⟩, h.2⟩
  obtain ⟨hX1, hX2, hX3⟩ := hX rfl
  subst hX1
  subst hX2
  refine (c_S_reopen (S0 := aS0) hRl (hcut rfl) ⟨hRb, hRt, hRv, hRd⟩ hRh).mono (bI_mono2 (fun x ws9 h => ?_) (fun E ws9 h => absurd h.1 (by decide)))
  · obtain ⟨h1, h3, Pb1, gt1, gh1, Pv1, gd1, mh1, h4, h5, h6, h9⟩ := h
    exact ⟨(lg, (chS lg r).1, (chS lg r).2, 0, fn, mk, np, ql, qa, false), lf, Pb1, gt1, gp, gh1, Pv1, gd1, Pq, ⟨rfl, h3, rfl⟩, ⟨fun _ => ⟨r, (hcut rfl).1, rfl⟩, fun (z : false = true) => absurd z (by decide), Nat.zero_le _, fun i hi => absurd hi (Nat.not_lt_zero _), hQ⟩, ⟨h6, h4, hRp, hRq, mh1, h5⟩, h9⟩
