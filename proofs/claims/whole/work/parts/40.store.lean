/-! ===== the store: its world, and its parts' contracts over it ===== -/
theorem bC.mono {D : va_G} {cl : List vw_C} {tys : List (ClassId × FieldType)} {y : MethodName} {rm : Room} {ws : va_W} {av : List Value} {post post' : bo → va_W → Prop} (h : bC D cl tys y rm ws av post) (hp : ∀ r ws', post r ws' → post' r ws') : bC D cl tys y rm ws av post' := by
  intro l hl sz p e ha hc hk s m args below hf happ hP hK
  obtain ⟨n, o, h1, h2, h3, ⟨r, ws1, q1, q2, q3⟩, h4⟩ := h l hl sz p e ha hc hk s m args below hf happ hP hK
  exact ⟨n, o, h1, h2, h3, ⟨r, ws1, q1, hp r ws1 q2, q3⟩, h4⟩
theorem bO_mono {Ψ Ψ' : va_W → Prop} {Θ : String → va_W → Prop} (h : ∀ ws', Ψ ws' → Ψ' ws') : ∀ r ws', bO Ψ Θ r ws' → bO Ψ' Θ r ws' := fun r ws' hp => hp.elim (fun z => Or.inl ⟨z.1, h _ z.2⟩) Or.inr
theorem bI_mono {Ψ Ψ' : Int32 → va_W → Prop} {Θ : String → va_W → Prop} (h : ∀ x ws', Ψ x ws' → Ψ' x ws') : ∀ r ws', bI Ψ Θ r ws' → bI Ψ' Θ r ws' := fun r ws' hp => hp.elim (fun ⟨x, z1, z2⟩ => Or.inl ⟨x, z1, h _ _ z2⟩) Or.inr
def wS (ad : Nat → Nat) (cI cZ : ClassId) (mp : Nat) (lf : Nat → Int32) (n : Nat) (Pb : pc_C) (gt gp gh : Nat → Int32) (Pv : pc_C) (gd : Nat → Int32) (Pq : pc_C) (cr : Bool) (rest : va_W) : va_W :=
  (ad 0, .inr (3, [.ref (ad 1), .ref (ad 3), .ref (ad 6), .ref (ad 8), .ref (ad 10), .ref (ad 12), .ref (ad 15), .ref (ad 17), .int (bB cr)])) ::
  (ad 1, .inr (0, [.ref (ad 2), .int (nI n)])) :: (ad 2, .inl (cI, 400, .inl lf)) ::
  (ad 3, .inr (2, [.ref (ad 4), .ref (ad 5), .int (nI Pb.2.2.1), .int (nI Pb.2.2.2)])) :: (ad 4, .inl (cI, 600, .inl Pb.1)) :: (ad 5, .inl (cI, 25, .inl Pb.2.1)) ::
  (ad 6, .inr (1, [.ref (ad 7)])) :: (ad 7, .inl (cZ, 24, .inl gt)) ::
  (ad 8, .inr (1, [.ref (ad 9)])) :: (ad 9, .inl (cZ, 24, .inl gp)) ::
  (ad 10, .inr (1, [.ref (ad 11)])) :: (ad 11, .inl (cZ, 24, .inl gh)) ::
  (ad 12, .inr (2, [.ref (ad 13), .ref (ad 14), .int (nI Pv.2.2.1), .int (nI Pv.2.2.2)])) :: (ad 13, .inl (cI, 104, .inl Pv.1)) :: (ad 14, .inl (cI, 13, .inl Pv.2.1)) ::
  (ad 15, .inr (1, [.ref (ad 16)])) :: (ad 16, .inl (cZ, 12, .inl gd)) ::
  (ad 17, .inr (2, [.ref (ad 18), .ref (ad 19), .int (nI Pq.2.2.1), .int (nI Pq.2.2.2)])) :: (ad 18, .inl (cI, 664, .inl Pq.1)) :: (ad 19, .inl (cI, mp + 1, .inl Pq.2.1)) :: rest
section WSF
variable {D : va_G} {cI cZ cJ : ClassId} {ad : Nat → Nat} {mp : Nat} {lf : Nat → Int32} {n : Nat} {Pb : pc_C} {gt gp gh : Nat → Int32} {Pv : pc_C} {gd : Nat → Int32} {Pq : pc_C} {cr : Bool} {rest : va_W} {A : pc_A} {m : Nat → Bool} {lg : Nat → Nat}
theorem wS_l : lg_at cI (wS ad cI cZ mp lf n Pb gt gp gh Pv gd Pq cr rest) 1 2 (ad 1) (ad 2) lf n := ⟨rfl, rfl, by decide⟩
theorem wS_b : pc_at cI (wS ad cI cZ mp lf n Pb gt gp gh Pv gd Pq cr rest) 3 4 5 (ad 3) (ad 4) (ad 5) 600 25 Pb := ⟨rfl, rfl, rfl, by decide, by decide, by decide⟩
theorem wS_v : pc_at cI (wS ad cI cZ mp lf n Pb gt gp gh Pv gd Pq cr rest) 12 13 14 (ad 12) (ad 13) (ad 14) 104 13 Pv := ⟨rfl, rfl, rfl, by decide, by decide, by decide⟩
theorem wS_q : pc_at cI (wS ad cI cZ mp lf n Pb gt gp gh Pv gd Pq cr rest) 17 18 19 (ad 17) (ad 18) (ad 19) 664 (mp + 1) Pq := ⟨rfl, rfl, rfl, by decide, by decide, by decide⟩
theorem wS_t : mk_at cZ (wS ad cI cZ mp lf n Pb gt gp gh Pv gd Pq cr rest) 6 7 (ad 6) (ad 7) 24 gt := ⟨rfl, rfl, by decide⟩
theorem wS_p : mk_at cZ (wS ad cI cZ mp lf n Pb gt gp gh Pv gd Pq cr rest) 8 9 (ad 8) (ad 9) 24 gp := ⟨rfl, rfl, by decide⟩
theorem wS_h : mk_at cZ (wS ad cI cZ mp lf n Pb gt gp gh Pv gd Pq cr rest) 10 11 (ad 10) (ad 11) 24 gh := ⟨rfl, rfl, by decide⟩
theorem wS_d : mk_at cZ (wS ad cI cZ mp lf n Pb gt gp gh Pv gd Pq cr rest) 15 16 (ad 15) (ad 16) 12 gd := ⟨rfl, rfl, by decide⟩
theorem cS_b_add {x : Nat} (hR : pc_R 600 25 Pb A) (hx : x < 2 ^ 31) (hr : pcS A.2.1 (A.1 + 1) < 600) : bC D bcl (tys3 cI cZ cJ) y_P_add (rmL 0 0) (wS ad cI cZ mp lf n Pb gt gp gh Pv gd Pq cr rest) [.ref (ad 3), .int (nI x)] (bO (fun ws9 => ∃ z : pc_C, pc_R 600 25 z (A.1, fup A.2.1 A.1 (A.2.1 A.1 + 1), fup2 A.2.2 A.1 (A.2.1 A.1) x) ∧ ws9 = wS ad cI cZ mp lf n z gt gp gh Pv gd Pq cr rest) bno) :=
  (c_P_add wS_b hR (by rw [hR.2.2.2.2.1]; exact hr)).mono (bO_mono fun ws' h => ⟨_, pc_R_add hR hx (by rw [hR.2.2.2.2.1]; exact hr), h⟩)
theorem cS_b_close (hR : pc_R 600 25 Pb A) (hr : A.1 + 1 < 25) : bC D bcl (tys3 cI cZ cJ) y_P_close (rmL 0 0) (wS ad cI cZ mp lf n Pb gt gp gh Pv gd Pq cr rest) [.ref (ad 3)] (bI (fun x ws9 => x = nI A.1 ∧ ∃ z : pc_C, pc_R 600 25 z (A.1 + 1, fup A.2.1 (A.1 + 1) 0, A.2.2) ∧ ws9 = wS ad cI cZ mp lf n z gt gp gh Pv gd Pq cr rest) bno) :=
  (c_P_close wS_b hR hr).mono (bI_mono fun x ws' h => ⟨h.1, _, pc_R_close hR hr, h.2⟩)
theorem cS_b_clearOpen (hR : pc_R 600 25 Pb A) : bC D bcl (tys3 cI cZ cJ) y_P_clearOpen (rmL 2 42) (wS ad cI cZ mp lf n Pb gt gp gh Pv gd Pq cr rest) [.ref (ad 3)] (bO (fun ws9 => ∃ z : pc_C, pc_R 600 25 z (A.1, fup A.2.1 A.1 0, A.2.2) ∧ ws9 = wS ad cI cZ mp lf n z gt gp gh Pv gd Pq cr rest) bno) :=
  (c_P_clearOpen wS_b hR).mono (bO_mono fun ws' h => ⟨_, pc_R_clearOpen hR, h⟩)
theorem cS_b_clear (hR : pc_R 600 25 Pb A) : bC D bcl (tys3 cI cZ cJ) y_P_clear (rmL 0 0) (wS ad cI cZ mp lf n Pb gt gp gh Pv gd Pq cr rest) [.ref (ad 3)] (bO (fun ws9 => ∃ z : pc_C, pc_R 600 25 z (0, fun _ => 0, A.2.2) ∧ ws9 = wS ad cI cZ mp lf n z gt gp gh Pv gd Pq cr rest) bno) :=
  (c_P_clear wS_b hR).mono (bO_mono fun ws' h => ⟨_, pc_R_clear hR, h⟩)
theorem cS_b_put {j i x : Nat} (hR : pc_R 600 25 Pb A) (hj : j ≤ A.1) (hi : i < A.2.1 j) (hx : x < 2 ^ 31) : bC D bcl (tys3 cI cZ cJ) y_P_put (rmL 1 22) (wS ad cI cZ mp lf n Pb gt gp gh Pv gd Pq cr rest) [.ref (ad 3), .int (nI j), .int (nI i), .int (nI x)] (bO (fun ws9 => ∃ z : pc_C, pc_R 600 25 z (A.1, A.2.1, fup2 A.2.2 j i x) ∧ ws9 = wS ad cI cZ mp lf n z gt gp gh Pv gd Pq cr rest) bno) :=
  (c_P_put wS_b hR hj hi).mono (bO_mono fun ws' h => ⟨_, pc_R_put hR hj hi hx, h⟩)
theorem cS_v_add {x : Nat} (hR : pc_R 104 13 Pv A) (hx : x < 2 ^ 31) (hr : pcS A.2.1 (A.1 + 1) < 104) : bC D bcl (tys3 cI cZ cJ) y_P_add (rmL 0 0) (wS ad cI cZ mp lf n Pb gt gp gh Pv gd Pq cr rest) [.ref (ad 12), .int (nI x)] (bO (fun ws9 => ∃ z : pc_C, pc_R 104 13 z (A.1, fup A.2.1 A.1 (A.2.1 A.1 + 1), fup2 A.2.2 A.1 (A.2.1 A.1) x) ∧ ws9 = wS ad cI cZ mp lf n Pb gt gp gh z gd Pq cr rest) bno) :=
  (c_P_add wS_v hR (by rw [hR.2.2.2.2.1]; exact hr)).mono (bO_mono fun ws' h => ⟨_, pc_R_add hR hx (by rw [hR.2.2.2.2.1]; exact hr), h⟩)
theorem cS_v_close (hR : pc_R 104 13 Pv A) (hr : A.1 + 1 < 13) : bC D bcl (tys3 cI cZ cJ) y_P_close (rmL 0 0) (wS ad cI cZ mp lf n Pb gt gp gh Pv gd Pq cr rest) [.ref (ad 12)] (bI (fun x ws9 => x = nI A.1 ∧ ∃ z : pc_C, pc_R 104 13 z (A.1 + 1, fup A.2.1 (A.1 + 1) 0, A.2.2) ∧ ws9 = wS ad cI cZ mp lf n Pb gt gp gh z gd Pq cr rest) bno) :=
  (c_P_close wS_v hR hr).mono (bI_mono fun x ws' h => ⟨h.1, _, pc_R_close hR hr, h.2⟩)
theorem cS_v_clearOpen (hR : pc_R 104 13 Pv A) : bC D bcl (tys3 cI cZ cJ) y_P_clearOpen (rmL 2 42) (wS ad cI cZ mp lf n Pb gt gp gh Pv gd Pq cr rest) [.ref (ad 12)] (bO (fun ws9 => ∃ z : pc_C, pc_R 104 13 z (A.1, fup A.2.1 A.1 0, A.2.2) ∧ ws9 = wS ad cI cZ mp lf n Pb gt gp gh z gd Pq cr rest) bno) :=
  (c_P_clearOpen wS_v hR).mono (bO_mono fun ws' h => ⟨_, pc_R_clearOpen hR, h⟩)
theorem cS_v_clear (hR : pc_R 104 13 Pv A) : bC D bcl (tys3 cI cZ cJ) y_P_clear (rmL 0 0) (wS ad cI cZ mp lf n Pb gt gp gh Pv gd Pq cr rest) [.ref (ad 12)] (bO (fun ws9 => ∃ z : pc_C, pc_R 104 13 z (0, fun _ => 0, A.2.2) ∧ ws9 = wS ad cI cZ mp lf n Pb gt gp gh z gd Pq cr rest) bno) :=
  (c_P_clear wS_v hR).mono (bO_mono fun ws' h => ⟨_, pc_R_clear hR, h⟩)
theorem cS_v_put {j i x : Nat} (hR : pc_R 104 13 Pv A) (hj : j ≤ A.1) (hi : i < A.2.1 j) (hx : x < 2 ^ 31) : bC D bcl (tys3 cI cZ cJ) y_P_put (rmL 1 22) (wS ad cI cZ mp lf n Pb gt gp gh Pv gd Pq cr rest) [.ref (ad 12), .int (nI j), .int (nI i), .int (nI x)] (bO (fun ws9 => ∃ z : pc_C, pc_R 104 13 z (A.1, A.2.1, fup2 A.2.2 j i x) ∧ ws9 = wS ad cI cZ mp lf n Pb gt gp gh z gd Pq cr rest) bno) :=
  (c_P_put wS_v hR hj hi).mono (bO_mono fun ws' h => ⟨_, pc_R_put hR hj hi hx, h⟩)
theorem cS_q_add {x : Nat} (hR : pc_R 664 (mp + 1) Pq A) (hx : x < 2 ^ 31) (hr : pcS A.2.1 (A.1 + 1) < 664) : bC D bcl (tys3 cI cZ cJ) y_P_add (rmL 0 0) (wS ad cI cZ mp lf n Pb gt gp gh Pv gd Pq cr rest) [.ref (ad 17), .int (nI x)] (bO (fun ws9 => ∃ z : pc_C, pc_R 664 (mp + 1) z (A.1, fup A.2.1 A.1 (A.2.1 A.1 + 1), fup2 A.2.2 A.1 (A.2.1 A.1) x) ∧ ws9 = wS ad cI cZ mp lf n Pb gt gp gh Pv gd z cr rest) bno) :=
  (c_P_add wS_q hR (by rw [hR.2.2.2.2.1]; exact hr)).mono (bO_mono fun ws' h => ⟨_, pc_R_add hR hx (by rw [hR.2.2.2.2.1]; exact hr), h⟩)
theorem cS_q_close (hR : pc_R 664 (mp + 1) Pq A) (hr : A.1 + 1 < (mp + 1)) : bC D bcl (tys3 cI cZ cJ) y_P_close (rmL 0 0) (wS ad cI cZ mp lf n Pb gt gp gh Pv gd Pq cr rest) [.ref (ad 17)] (bI (fun x ws9 => x = nI A.1 ∧ ∃ z : pc_C, pc_R 664 (mp + 1) z (A.1 + 1, fup A.2.1 (A.1 + 1) 0, A.2.2) ∧ ws9 = wS ad cI cZ mp lf n Pb gt gp gh Pv gd z cr rest) bno) :=
  (c_P_close wS_q hR hr).mono (bI_mono fun x ws' h => ⟨h.1, _, pc_R_close hR hr, h.2⟩)
theorem cS_q_clearOpen (hR : pc_R 664 (mp + 1) Pq A) : bC D bcl (tys3 cI cZ cJ) y_P_clearOpen (rmL 2 42) (wS ad cI cZ mp lf n Pb gt gp gh Pv gd Pq cr rest) [.ref (ad 17)] (bO (fun ws9 => ∃ z : pc_C, pc_R 664 (mp + 1) z (A.1, fup A.2.1 A.1 0, A.2.2) ∧ ws9 = wS ad cI cZ mp lf n Pb gt gp gh Pv gd z cr rest) bno) :=
  (c_P_clearOpen wS_q hR).mono (bO_mono fun ws' h => ⟨_, pc_R_clearOpen hR, h⟩)
theorem cS_q_clear (hR : pc_R 664 (mp + 1) Pq A) : bC D bcl (tys3 cI cZ cJ) y_P_clear (rmL 0 0) (wS ad cI cZ mp lf n Pb gt gp gh Pv gd Pq cr rest) [.ref (ad 17)] (bO (fun ws9 => ∃ z : pc_C, pc_R 664 (mp + 1) z (0, fun _ => 0, A.2.2) ∧ ws9 = wS ad cI cZ mp lf n Pb gt gp gh Pv gd z cr rest) bno) :=
  (c_P_clear wS_q hR).mono (bO_mono fun ws' h => ⟨_, pc_R_clear hR, h⟩)
theorem cS_q_put {j i x : Nat} (hR : pc_R 664 (mp + 1) Pq A) (hj : j ≤ A.1) (hi : i < A.2.1 j) (hx : x < 2 ^ 31) : bC D bcl (tys3 cI cZ cJ) y_P_put (rmL 1 22) (wS ad cI cZ mp lf n Pb gt gp gh Pv gd Pq cr rest) [.ref (ad 17), .int (nI j), .int (nI i), .int (nI x)] (bO (fun ws9 => ∃ z : pc_C, pc_R 664 (mp + 1) z (A.1, A.2.1, fup2 A.2.2 j i x) ∧ ws9 = wS ad cI cZ mp lf n Pb gt gp gh Pv gd z cr rest) bno) :=
  (c_P_put wS_q hR hj hi).mono (bO_mono fun ws' h => ⟨_, pc_R_put hR hj hi hx, h⟩)
theorem cS_t_turnOn {j : Nat} (hR : mk_R 24 gt m) (hj : j < 24) : bC D bcl (tys3 cI cZ cJ) y_K_turnOn (rmL 0 0) (wS ad cI cZ mp lf n Pb gt gp gh Pv gd Pq cr rest) [.ref (ad 6), .int (nI j)] (bO (fun ws9 => ∃ z : Nat → Int32, mk_R 24 z (mk_up m j true) ∧ ws9 = wS ad cI cZ mp lf n Pb z gp gh Pv gd Pq cr rest) bno) :=
  (c_K_turnOn wS_t hR hj).mono (bO_mono fun ws' h => ⟨_, mk_R_up hR, h⟩)
theorem cS_t_turnOff {j : Nat} (hR : mk_R 24 gt m) (hj : j < 24) : bC D bcl (tys3 cI cZ cJ) y_K_turnOff (rmL 0 0) (wS ad cI cZ mp lf n Pb gt gp gh Pv gd Pq cr rest) [.ref (ad 6), .int (nI j)] (bO (fun ws9 => ∃ z : Nat → Int32, mk_R 24 z (mk_up m j false) ∧ ws9 = wS ad cI cZ mp lf n Pb z gp gh Pv gd Pq cr rest) bno) :=
  (c_K_turnOff wS_t hR hj).mono (bO_mono fun ws' h => ⟨_, mk_R_up hR, h⟩)
theorem cS_t_clear (hR : mk_R 24 gt m) : bC D bcl (tys3 cI cZ cJ) y_K_clear (rmL 0 0) (wS ad cI cZ mp lf n Pb gt gp gh Pv gd Pq cr rest) [.ref (ad 6)] (bO (fun ws9 => ∃ z : Nat → Int32, mk_R 24 z (fun _ => false) ∧ ws9 = wS ad cI cZ mp lf n Pb z gp gh Pv gd Pq cr rest) bno) :=
  (c_K_clear wS_t hR).mono (bO_mono fun ws' h => by obtain ⟨g0, h1, h2⟩ := h; exact ⟨g0, ⟨hR.1, h1⟩, h2⟩)
theorem cS_p_turnOn {j : Nat} (hR : mk_R 24 gp m) (hj : j < 24) : bC D bcl (tys3 cI cZ cJ) y_K_turnOn (rmL 0 0) (wS ad cI cZ mp lf n Pb gt gp gh Pv gd Pq cr rest) [.ref (ad 8), .int (nI j)] (bO (fun ws9 => ∃ z : Nat → Int32, mk_R 24 z (mk_up m j true) ∧ ws9 = wS ad cI cZ mp lf n Pb gt z gh Pv gd Pq cr rest) bno) :=
  (c_K_turnOn wS_p hR hj).mono (bO_mono fun ws' h => ⟨_, mk_R_up hR, h⟩)
theorem cS_p_turnOff {j : Nat} (hR : mk_R 24 gp m) (hj : j < 24) : bC D bcl (tys3 cI cZ cJ) y_K_turnOff (rmL 0 0) (wS ad cI cZ mp lf n Pb gt gp gh Pv gd Pq cr rest) [.ref (ad 8), .int (nI j)] (bO (fun ws9 => ∃ z : Nat → Int32, mk_R 24 z (mk_up m j false) ∧ ws9 = wS ad cI cZ mp lf n Pb gt z gh Pv gd Pq cr rest) bno) :=
  (c_K_turnOff wS_p hR hj).mono (bO_mono fun ws' h => ⟨_, mk_R_up hR, h⟩)
theorem cS_p_clear (hR : mk_R 24 gp m) : bC D bcl (tys3 cI cZ cJ) y_K_clear (rmL 0 0) (wS ad cI cZ mp lf n Pb gt gp gh Pv gd Pq cr rest) [.ref (ad 8)] (bO (fun ws9 => ∃ z : Nat → Int32, mk_R 24 z (fun _ => false) ∧ ws9 = wS ad cI cZ mp lf n Pb gt z gh Pv gd Pq cr rest) bno) :=
  (c_K_clear wS_p hR).mono (bO_mono fun ws' h => by obtain ⟨g0, h1, h2⟩ := h; exact ⟨g0, ⟨hR.1, h1⟩, h2⟩)
theorem cS_h_turnOn {j : Nat} (hR : mk_R 24 gh m) (hj : j < 24) : bC D bcl (tys3 cI cZ cJ) y_K_turnOn (rmL 0 0) (wS ad cI cZ mp lf n Pb gt gp gh Pv gd Pq cr rest) [.ref (ad 10), .int (nI j)] (bO (fun ws9 => ∃ z : Nat → Int32, mk_R 24 z (mk_up m j true) ∧ ws9 = wS ad cI cZ mp lf n Pb gt gp z Pv gd Pq cr rest) bno) :=
  (c_K_turnOn wS_h hR hj).mono (bO_mono fun ws' h => ⟨_, mk_R_up hR, h⟩)
theorem cS_h_turnOff {j : Nat} (hR : mk_R 24 gh m) (hj : j < 24) : bC D bcl (tys3 cI cZ cJ) y_K_turnOff (rmL 0 0) (wS ad cI cZ mp lf n Pb gt gp gh Pv gd Pq cr rest) [.ref (ad 10), .int (nI j)] (bO (fun ws9 => ∃ z : Nat → Int32, mk_R 24 z (mk_up m j false) ∧ ws9 = wS ad cI cZ mp lf n Pb gt gp z Pv gd Pq cr rest) bno) :=
  (c_K_turnOff wS_h hR hj).mono (bO_mono fun ws' h => ⟨_, mk_R_up hR, h⟩)
theorem cS_h_clear (hR : mk_R 24 gh m) : bC D bcl (tys3 cI cZ cJ) y_K_clear (rmL 0 0) (wS ad cI cZ mp lf n Pb gt gp gh Pv gd Pq cr rest) [.ref (ad 10)] (bO (fun ws9 => ∃ z : Nat → Int32, mk_R 24 z (fun _ => false) ∧ ws9 = wS ad cI cZ mp lf n Pb gt gp z Pv gd Pq cr rest) bno) :=
  (c_K_clear wS_h hR).mono (bO_mono fun ws' h => by obtain ⟨g0, h1, h2⟩ := h; exact ⟨g0, ⟨hR.1, h1⟩, h2⟩)
theorem cS_d_turnOn {j : Nat} (hR : mk_R 12 gd m) (hj : j < 12) : bC D bcl (tys3 cI cZ cJ) y_K_turnOn (rmL 0 0) (wS ad cI cZ mp lf n Pb gt gp gh Pv gd Pq cr rest) [.ref (ad 15), .int (nI j)] (bO (fun ws9 => ∃ z : Nat → Int32, mk_R 12 z (mk_up m j true) ∧ ws9 = wS ad cI cZ mp lf n Pb gt gp gh Pv z Pq cr rest) bno) :=
  (c_K_turnOn wS_d hR hj).mono (bO_mono fun ws' h => ⟨_, mk_R_up hR, h⟩)
theorem cS_d_turnOff {j : Nat} (hR : mk_R 12 gd m) (hj : j < 12) : bC D bcl (tys3 cI cZ cJ) y_K_turnOff (rmL 0 0) (wS ad cI cZ mp lf n Pb gt gp gh Pv gd Pq cr rest) [.ref (ad 15), .int (nI j)] (bO (fun ws9 => ∃ z : Nat → Int32, mk_R 12 z (mk_up m j false) ∧ ws9 = wS ad cI cZ mp lf n Pb gt gp gh Pv z Pq cr rest) bno) :=
  (c_K_turnOff wS_d hR hj).mono (bO_mono fun ws' h => ⟨_, mk_R_up hR, h⟩)
theorem cS_d_clear (hR : mk_R 12 gd m) : bC D bcl (tys3 cI cZ cJ) y_K_clear (rmL 0 0) (wS ad cI cZ mp lf n Pb gt gp gh Pv gd Pq cr rest) [.ref (ad 15)] (bO (fun ws9 => ∃ z : Nat → Int32, mk_R 12 z (fun _ => false) ∧ ws9 = wS ad cI cZ mp lf n Pb gt gp gh Pv z Pq cr rest) bno) :=
  (c_K_clear wS_d hR).mono (bO_mono fun ws' h => by obtain ⟨g0, h1, h2⟩ := h; exact ⟨g0, ⟨hR.1, h1⟩, h2⟩)
theorem lg_R_add {f : Nat → Int32} {n x : Nat} {lg : Nat → Nat} (h : lg_R f n lg) (hn : n < 400) (hx : x < 256) : lg_R (upd f n (nI x)) (n + 1) (fup lg n x) := by
  obtain ⟨h1, h2, h3⟩ := h
  refine ⟨by omega, fun j hj => ?_, fun j hj => ?_⟩
  · by_cases hk : j = n
    · subst hk; rw [pk_us, fup_s]
    · rw [pk_un hk, fup_n hk]; exact h2 j (by omega)
  · by_cases hk : j = n
    · subst hk; rw [fup_s]; exact hx
    · rw [fup_n hk]; exact h3 j (by omega)
theorem lg_R_cut {f : Nat → Int32} {n k : Nat} {lg : Nat → Nat} (h : lg_R f n lg) (hk : k ≤ n) : lg_R f k lg := ⟨by have := h.1; omega, fun j hj => h.2.1 j (by omega), fun j hj => h.2.2 j (by omega)⟩
theorem cS_l_add {x : Nat} (hR : lg_R lf n lg) (hn : n < 400) (hx : x < 256) : bC D bcl (tys3 cI cZ cJ) y_L_add (rmL 0 0) (wS ad cI cZ mp lf n Pb gt gp gh Pv gd Pq cr rest) [.ref (ad 1), .int (nI x)] (bO (fun ws9 => ∃ z : Nat → Int32, lg_R z (n + 1) (fup lg n x) ∧ ws9 = wS ad cI cZ mp z (n + 1) Pb gt gp gh Pv gd Pq cr rest) bno) :=
  (c_L_add wS_l hR hn).mono (bO_mono fun ws' h => ⟨_, lg_R_add hR hn hx, h⟩)
theorem cS_l_cutTo {i : Nat} (hR : lg_R lf n lg) (hi : i ≤ n) : bC D bcl (tys3 cI cZ cJ) y_L_cutTo (rmL 0 0) (wS ad cI cZ mp lf n Pb gt gp gh Pv gd Pq cr rest) [.ref (ad 1), .int (nI i)] (bO (fun ws9 => ws9 = wS ad cI cZ mp lf i Pb gt gp gh Pv gd Pq cr rest) bno) :=
  (c_L_cutTo wS_l hR hi).mono (bO_mono fun ws' h => h)
end WSF
theorem oa_187 : ∀ w ∈ Bundle.ownAtoms "BoardStore" 187 "java/lang/IllegalStateException" ["java/lang/RuntimeException", "java/lang/Exception"], w ∈ bw ∨ w = .laysStatic Bundle.tN "UNASSIGNED_STACK" Bundle.steD ∨ w = .laysStatic Bundle.tN "SUPPRESSED_SENTINEL" Bundle.listD ∨ w = .isRef (.static Bundle.tN "UNASSIGNED_STACK" Bundle.steD) ∨ w = .isRef (.static Bundle.tN "SUPPRESSED_SENTINEL" Bundle.listD) := by decide +kernel
theorem oa_199 : ∀ w ∈ Bundle.ownAtoms "BoardStore" 199 "java/lang/IndexOutOfBoundsException" ["java/lang/RuntimeException", "java/lang/Exception"], w ∈ bw ∨ w = .laysStatic Bundle.tN "UNASSIGNED_STACK" Bundle.steD ∨ w = .laysStatic Bundle.tN "SUPPRESSED_SENTINEL" Bundle.listD ∨ w = .isRef (.static Bundle.tN "UNASSIGNED_STACK" Bundle.steD) ∨ w = .isRef (.static Bundle.tN "SUPPRESSED_SENTINEL" Bundle.listD) := by decide +kernel
theorem oa_212 : ∀ w ∈ Bundle.ownAtoms "BoardStore" 212 "java/lang/IllegalArgumentException" ["java/lang/RuntimeException", "java/lang/Exception"], w ∈ bw ∨ w = .laysStatic Bundle.tN "UNASSIGNED_STACK" Bundle.steD ∨ w = .laysStatic Bundle.tN "SUPPRESSED_SENTINEL" Bundle.listD ∨ w = .isRef (.static Bundle.tN "UNASSIGNED_STACK" Bundle.steD) ∨ w = .isRef (.static Bundle.tN "SUPPRESSED_SENTINEL" Bundle.listD) := by decide +kernel
