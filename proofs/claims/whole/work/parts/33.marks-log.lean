/-! ===== Marks, Log: contracts ===== -/
def mk_at (cZ : ClassId) (ws : va_W) (q0 q1 a am NM : Nat) (g : Nat → Int32) : Prop := ws[q0]? = some (a, .inr (1, [.ref am])) ∧ ws[q1]? = some (am, .inl (cZ, NM, .inl g)) ∧ q0 ≠ q1
def mk_put (cZ : ClassId) (ws : va_W) (q1 am NM : Nat) (g : Nat → Int32) : va_W := ws.set q1 (am, .inl (cZ, NM, .inl g))
def mk_R (NM : Nat) (g : Nat → Int32) (m : Nat → Bool) : Prop := NM < 2 ^ 31 ∧ ∀ j, j < NM → g j = bB (m j)
def mk_up (m : Nat → Bool) (k : Nat) (b : Bool) : Nat → Bool := fun j => if j = k then b else m j
theorem mk_R_up {NM : Nat} {g : Nat → Int32} {m : Nat → Bool} {k : Nat} {b : Bool} (h : mk_R NM g m) : mk_R NM (upd g k (bB b)) (mk_up m k b) := by
  refine ⟨h.1, fun j hj => ?_⟩
  unfold mk_up
  by_cases hk : j = k
  · subst hk; rw [pk_us, if_pos rfl]
  · rw [pk_un hk, if_neg hk]; exact h.2 j hj
def lg_at (cI : ClassId) (ws : va_W) (q0 q1 a al : Nat) (f : Nat → Int32) (n : Nat) : Prop := ws[q0]? = some (a, .inr (0, [.ref al, .int (nI n)])) ∧ ws[q1]? = some (al, .inl (cI, 400, .inl f)) ∧ q0 ≠ q1
def lg_put (cI : ClassId) (ws : va_W) (q0 q1 a al : Nat) (f : Nat → Int32) (n : Nat) : va_W := (ws.set q1 (al, .inl (cI, 400, .inl f))).set q0 (a, .inr (0, [.ref al, .int (nI n)]))
def lg_R (f : Nat → Int32) (n : Nat) (lg : Nat → Nat) : Prop := n ≤ 400 ∧ (∀ j, j < n → f j = nI (lg j)) ∧ (∀ j, j < n → lg j < 256)
/-- how long the record that begins there is; 0: none begins there -/
def recLen (lg : Nat → Nat) (n i : Nat) : Nat := if i < n then (if lg i = 1 then 2 + (if i + 1 < n then lg (i + 1) else 0) else if lg i = 2 ∨ lg i = 4 then 2 else if lg i = 3 ∨ lg i = 5 then 1 else 0) else 0
theorem lmax {a : Nat} (h : a < 2 ^ 31) : (if nI 0 < nI a then nI a else nI 0) = nI a := by
  by_cases h0 : a = 0
  · subst h0; simp
  · rw [if_pos (nI_lt (by omega) h)]
theorem lmax2 {lg : Nat → Nat} {n i : Nat} (r3 : ∀ j, j < n → lg j < 256) : (if nI 0 < (if i < n then nI (lg i) else -1) then (if i < n then nI (lg i) else -1) else nI 0) = nI (if i < n then lg i else 0) := by
  by_cases hz : i < n
  · rw [if_pos hz, if_pos hz]
    exact lmax (by have := r3 _ hz; omega)
  · rw [if_neg hz, if_neg hz]
    decide
theorem d_K_isOn_0 : decode b_K_isOn 0 = .ok (.iload_n 1, 1) := by decide +kernel
theorem d_K_isOn_1 : decode b_K_isOn 1 = .ok (.ifCond .lt 25, 3) := by decide +kernel
theorem d_K_isOn_4 : decode b_K_isOn 4 = .ok (.iload_n 1, 1) := by decide +kernel
theorem d_K_isOn_5 : decode b_K_isOn 5 = .ok (.aload_n 0, 1) := by decide +kernel
theorem d_K_isOn_6 : decode b_K_isOn 6 = .ok (.getfield 13, 3) := by decide +kernel
theorem d_K_isOn_9 : decode b_K_isOn 9 = .ok (.arraylength, 1) := by decide +kernel
theorem d_K_isOn_10 : decode b_K_isOn 10 = .ok (.if_icmp .ge 16, 3) := by decide +kernel
theorem d_K_isOn_13 : decode b_K_isOn 13 = .ok (.aload_n 0, 1) := by decide +kernel
theorem d_K_isOn_14 : decode b_K_isOn 14 = .ok (.getfield 13, 3) := by decide +kernel
theorem d_K_isOn_17 : decode b_K_isOn 17 = .ok (.iload_n 1, 1) := by decide +kernel
theorem d_K_isOn_18 : decode b_K_isOn 18 = .ok (.baload, 1) := by decide +kernel
theorem d_K_isOn_19 : decode b_K_isOn 19 = .ok (.ifCond .eq 7, 3) := by decide +kernel
theorem d_K_isOn_22 : decode b_K_isOn 22 = .ok (.iconst 1, 1) := by decide +kernel
theorem d_K_isOn_23 : decode b_K_isOn 23 = .ok (.goto 4, 3) := by decide +kernel
theorem d_K_isOn_26 : decode b_K_isOn 26 = .ok (.iconst 0, 1) := by decide +kernel
theorem d_K_isOn_27 : decode b_K_isOn 27 = .ok (.ireturn, 1) := by decide +kernel
set_option maxRecDepth 20000 in
set_option maxHeartbeats 4000000 in
theorem c_K_isOn {D : va_G} {cI cZ cJ : ClassId} {ws : va_W} {q0 q1 a am NM : Nat} {g : Nat → Int32} {m : Nat → Bool} (hW : mk_at cZ ws q0 q1 a am NM g) (hR : mk_R NM g m) {j : Nat} (hj : j < 2 ^ 31) : bC D bcl (tys3 cI cZ cJ) y_K_isOn (rmL 0 0) ws [.ref a, .int (nI (j))] (bI (fun x ws9 => x = bB (decide (j < NM) && m j) ∧ ws9 = ws) bno) := by
  obtain ⟨h0, h1, n01⟩ := hW
  obtain ⟨r1, r2⟩ := hR
  refine bC.of (by decide) m_K_isOn.1 (Nat.le_of_ble_eq_true rfl) ?_
  intro Γ G E0
  show bV D bcl Γ 2 ws 0 0 0 [(0, .ref a), (1, .int (nI (j)))] []
  refine bV.iload_n G d_K_isOn_0 rfl ?_
  refine bV.if_ltN (tgt := 26) G d_K_isOn_1 (by decide) (by omega) ?_
  refine bV.iload_n G d_K_isOn_4 rfl ?_
  refine bV.aload_n G d_K_isOn_5 rfl ?_
  refine bV.getf G cl_K q0 0 h0 (by decide) bw_64 rfl d_K_isOn_6 ?_
  refine bV.alenN G q1 1 h1 rfl d_K_isOn_9 ?_
  refine bV.icmp_geN (tgt := 26) G d_K_isOn_10 (by decide) (by omega) (by omega) (fun c10 => ?_) (fun c10 => ?_)
  · refine bV.iconst (v := nI 0) G d_K_isOn_26 (by decide) ?_
    refine bV.topi (x := nI 0) (y := bB false) (by decide) ?_
    exact bV.iretI G E0 rfl (bB_n _) (by decide) (by decide) d_K_isOn_27 ⟨by first | rw [c19, Bool.and_false] | rw [decide_eq_false (by omega), Bool.false_and], rfl⟩
  · refine bV.aload_n G d_K_isOn_13 rfl ?_
    refine bV.getf G cl_K q0 0 h0 (by decide) bw_64 rfl d_K_isOn_14 ?_
    refine bV.iload_n G d_K_isOn_17 rfl ?_
    refine bV.zaloadN G q1 1 h1 rfl (by omega) (by omega) d_K_isOn_18 ?_
    refine bV.topi (y := (bB (m j))) (r2 _ (by omega)) ?_
    refine bV.if_eqB (tgt := 26) G d_K_isOn_19 (by decide) (fun c19 => ?_) (fun c19 => ?_)
    · refine bV.iconst (v := nI 0) G d_K_isOn_26 (by decide) ?_
      refine bV.topi (x := nI 0) (y := bB false) (by decide) ?_
      exact bV.iretI G E0 rfl (bB_n _) (by decide) (by decide) d_K_isOn_27 ⟨by first | rw [c19, Bool.and_false] | rw [decide_eq_false (by omega), Bool.false_and], rfl⟩
    · refine bV.iconst (v := nI 1) G d_K_isOn_22 (by decide) ?_
      refine bV.goto (tgt := 27) G d_K_isOn_23 (by decide) ?_
      refine bV.topi (x := nI 1) (y := bB true) (by decide) ?_
      exact bV.iretI G E0 rfl (bB_n _) (by decide) (by decide) d_K_isOn_27 ⟨by rw [decide_eq_true (by omega), c19]; rfl, rfl⟩
theorem d_K_turnOn_0 : decode b_K_turnOn 0 = .ok (.iload_n 1, 1) := by decide +kernel
theorem d_K_turnOn_1 : decode b_K_turnOn 1 = .ok (.ifCond .lt 19, 3) := by decide +kernel
theorem d_K_turnOn_4 : decode b_K_turnOn 4 = .ok (.iload_n 1, 1) := by decide +kernel
theorem d_K_turnOn_5 : decode b_K_turnOn 5 = .ok (.aload_n 0, 1) := by decide +kernel
theorem d_K_turnOn_6 : decode b_K_turnOn 6 = .ok (.getfield 13, 3) := by decide +kernel
theorem d_K_turnOn_9 : decode b_K_turnOn 9 = .ok (.arraylength, 1) := by decide +kernel
theorem d_K_turnOn_10 : decode b_K_turnOn 10 = .ok (.if_icmp .ge 10, 3) := by decide +kernel
theorem d_K_turnOn_13 : decode b_K_turnOn 13 = .ok (.aload_n 0, 1) := by decide +kernel
theorem d_K_turnOn_14 : decode b_K_turnOn 14 = .ok (.getfield 13, 3) := by decide +kernel
theorem d_K_turnOn_17 : decode b_K_turnOn 17 = .ok (.iload_n 1, 1) := by decide +kernel
theorem d_K_turnOn_18 : decode b_K_turnOn 18 = .ok (.iconst 1, 1) := by decide +kernel
theorem d_K_turnOn_19 : decode b_K_turnOn 19 = .ok (.bastore, 1) := by decide +kernel
theorem d_K_turnOn_20 : decode b_K_turnOn 20 = .ok (.return_, 1) := by decide +kernel
set_option maxRecDepth 20000 in
set_option maxHeartbeats 4000000 in
theorem c_K_turnOn {D : va_G} {cI cZ cJ : ClassId} {ws : va_W} {q0 q1 a am NM : Nat} {g : Nat → Int32} {m : Nat → Bool} (hW : mk_at cZ ws q0 q1 a am NM g) (hR : mk_R NM g m) {j : Nat} (hj : j < NM) : bC D bcl (tys3 cI cZ cJ) y_K_turnOn (rmL 0 0) ws [.ref a, .int (nI (j))] (bO (fun ws9 => ws9 = mk_put cZ ws q1 am NM (upd g j (bB true))) bno) := by
  obtain ⟨h0, h1, n01⟩ := hW
  obtain ⟨r1, r2⟩ := hR
  refine bC.of (by decide) m_K_turnOn.1 (Nat.le_of_ble_eq_true rfl) ?_
  intro Γ G E0
  show bV D bcl Γ 2 ws 0 0 0 [(0, .ref a), (1, .int (nI (j)))] []
  refine bV.iload_n G d_K_turnOn_0 rfl ?_
  refine bV.if_ltN (tgt := 20) G d_K_turnOn_1 (by decide) (by omega) ?_
  refine bV.iload_n G d_K_turnOn_4 rfl ?_
  refine bV.aload_n G d_K_turnOn_5 rfl ?_
  refine bV.getf G cl_K q0 0 h0 (by decide) bw_64 rfl d_K_turnOn_6 ?_
  refine bV.alenN G q1 1 h1 rfl d_K_turnOn_9 ?_
  refine bV.icmp_geN (tgt := 20) G d_K_turnOn_10 (by decide) (by omega) (by omega) (fun c10 => ?_) (fun c10 => ?_)
  · exfalso; omega
  · refine bV.aload_n G d_K_turnOn_13 rfl ?_
    refine bV.getf G cl_K q0 0 h0 (by decide) bw_64 rfl d_K_turnOn_14 ?_
    refine bV.iload_n G d_K_turnOn_17 rfl ?_
    refine bV.iconst (v := nI 1) G d_K_turnOn_18 (by decide) ?_
    refine bV.topi (x := nI 1) (y := bB true) (by decide) ?_
    refine bV.zastoreN G (ws' := (ws.set q1 (am, .inl (cZ, NM, .inl (upd g j ((bB (true)))))))) q1 1 h1 rfl (by omega) (by omega) d_K_turnOn_19 rfl ?_
    have g1_q0 := bs_ne (x := (am, .inl (cZ, NM, .inl (upd g j ((bB (true))))))) (show q1 ≠ q0 from by omega) h0
    have g1_q1 := bs_eq (x := (am, .inl (cZ, NM, .inl (upd g j ((bB (true))))))) h1
    exact bV.vretO G E0 rfl (by decide) (by decide) d_K_turnOn_20 rfl
theorem d_K_turnOff_0 : decode b_K_turnOff 0 = .ok (.iload_n 1, 1) := by decide +kernel
theorem d_K_turnOff_1 : decode b_K_turnOff 1 = .ok (.ifCond .lt 19, 3) := by decide +kernel
theorem d_K_turnOff_4 : decode b_K_turnOff 4 = .ok (.iload_n 1, 1) := by decide +kernel
theorem d_K_turnOff_5 : decode b_K_turnOff 5 = .ok (.aload_n 0, 1) := by decide +kernel
theorem d_K_turnOff_6 : decode b_K_turnOff 6 = .ok (.getfield 13, 3) := by decide +kernel
theorem d_K_turnOff_9 : decode b_K_turnOff 9 = .ok (.arraylength, 1) := by decide +kernel
theorem d_K_turnOff_10 : decode b_K_turnOff 10 = .ok (.if_icmp .ge 10, 3) := by decide +kernel
theorem d_K_turnOff_13 : decode b_K_turnOff 13 = .ok (.aload_n 0, 1) := by decide +kernel
theorem d_K_turnOff_14 : decode b_K_turnOff 14 = .ok (.getfield 13, 3) := by decide +kernel
theorem d_K_turnOff_17 : decode b_K_turnOff 17 = .ok (.iload_n 1, 1) := by decide +kernel
theorem d_K_turnOff_18 : decode b_K_turnOff 18 = .ok (.iconst 0, 1) := by decide +kernel
theorem d_K_turnOff_19 : decode b_K_turnOff 19 = .ok (.bastore, 1) := by decide +kernel
theorem d_K_turnOff_20 : decode b_K_turnOff 20 = .ok (.return_, 1) := by decide +kernel
set_option maxRecDepth 20000 in
set_option maxHeartbeats 4000000 in
theorem c_K_turnOff {D : va_G} {cI cZ cJ : ClassId} {ws : va_W} {q0 q1 a am NM : Nat} {g : Nat → Int32} {m : Nat → Bool} (hW : mk_at cZ ws q0 q1 a am NM g) (hR : mk_R NM g m) {j : Nat} (hj : j < NM) : bC D bcl (tys3 cI cZ cJ) y_K_turnOff (rmL 0 0) ws [.ref a, .int (nI (j))] (bO (fun ws9 => ws9 = mk_put cZ ws q1 am NM (upd g j (bB false))) bno) := by
  obtain ⟨h0, h1, n01⟩ := hW
  obtain ⟨r1, r2⟩ := hR
  refine bC.of (by decide) m_K_turnOff.1 (Nat.le_of_ble_eq_true rfl) ?_
  intro Γ G E0
  show bV D bcl Γ 2 ws 0 0 0 [(0, .ref a), (1, .int (nI (j)))] []
  refine bV.iload_n G d_K_turnOff_0 rfl ?_
  refine bV.if_ltN (tgt := 20) G d_K_turnOff_1 (by decide) (by omega) ?_
  refine bV.iload_n G d_K_turnOff_4 rfl ?_
  refine bV.aload_n G d_K_turnOff_5 rfl ?_
  refine bV.getf G cl_K q0 0 h0 (by decide) bw_64 rfl d_K_turnOff_6 ?_
  refine bV.alenN G q1 1 h1 rfl d_K_turnOff_9 ?_
  refine bV.icmp_geN (tgt := 20) G d_K_turnOff_10 (by decide) (by omega) (by omega) (fun c10 => ?_) (fun c10 => ?_)
  · exfalso; omega
  · refine bV.aload_n G d_K_turnOff_13 rfl ?_
    refine bV.getf G cl_K q0 0 h0 (by decide) bw_64 rfl d_K_turnOff_14 ?_
    refine bV.iload_n G d_K_turnOff_17 rfl ?_
    refine bV.iconst (v := nI 0) G d_K_turnOff_18 (by decide) ?_
    refine bV.topi (x := nI 0) (y := bB false) (by decide) ?_
    refine bV.zastoreN G (ws' := (ws.set q1 (am, .inl (cZ, NM, .inl (upd g j ((bB (false)))))))) q1 1 h1 rfl (by omega) (by omega) d_K_turnOff_19 rfl ?_
    have g1_q0 := bs_ne (x := (am, .inl (cZ, NM, .inl (upd g j ((bB (false))))))) (show q1 ≠ q0 from by omega) h0
    have g1_q1 := bs_eq (x := (am, .inl (cZ, NM, .inl (upd g j ((bB (false))))))) h1
    exact bV.vretO G E0 rfl (by decide) (by decide) d_K_turnOff_20 rfl
theorem d_K_clear_0 : decode b_K_clear 0 = .ok (.iconst 0, 1) := by decide +kernel
theorem d_K_clear_1 : decode b_K_clear 1 = .ok (.istore_n 1, 1) := by decide +kernel
theorem d_K_clear_2 : decode b_K_clear 2 = .ok (.iload_n 1, 1) := by decide +kernel
theorem d_K_clear_3 : decode b_K_clear 3 = .ok (.aload_n 0, 1) := by decide +kernel
theorem d_K_clear_4 : decode b_K_clear 4 = .ok (.getfield 13, 3) := by decide +kernel
theorem d_K_clear_7 : decode b_K_clear 7 = .ok (.arraylength, 1) := by decide +kernel
theorem d_K_clear_8 : decode b_K_clear 8 = .ok (.if_icmp .ge 16, 3) := by decide +kernel
theorem d_K_clear_11 : decode b_K_clear 11 = .ok (.aload_n 0, 1) := by decide +kernel
theorem d_K_clear_12 : decode b_K_clear 12 = .ok (.getfield 13, 3) := by decide +kernel
theorem d_K_clear_15 : decode b_K_clear 15 = .ok (.iload_n 1, 1) := by decide +kernel
theorem d_K_clear_16 : decode b_K_clear 16 = .ok (.iconst 0, 1) := by decide +kernel
theorem d_K_clear_17 : decode b_K_clear 17 = .ok (.bastore, 1) := by decide +kernel
theorem d_K_clear_18 : decode b_K_clear 18 = .ok (.iinc 1 1, 3) := by decide +kernel
theorem d_K_clear_21 : decode b_K_clear 21 = .ok (.goto (-19), 3) := by decide +kernel
theorem d_K_clear_24 : decode b_K_clear 24 = .ok (.return_, 1) := by decide +kernel
set_option maxRecDepth 20000 in
set_option maxHeartbeats 4000000 in
theorem c_K_clear {D : va_G} {cI cZ cJ : ClassId} {ws : va_W} {q0 q1 a am NM : Nat} {g : Nat → Int32} {m : Nat → Bool} (hW : mk_at cZ ws q0 q1 a am NM g) (hR : mk_R NM g m) : bC D bcl (tys3 cI cZ cJ) y_K_clear (rmL 0 0) ws [.ref a] (bO (fun ws9 => ∃ g0 : Nat → Int32, (∀ j, j < NM → g0 j = bB false) ∧ ws9 = mk_put cZ ws q1 am NM g0) bno) := by
  obtain ⟨h0, h1, n01⟩ := hW
  obtain ⟨r1, r2⟩ := hR
  refine bC.of (by decide) m_K_clear.1 (Nat.le_of_ble_eq_true rfl) ?_
  intro Γ G E0
  show bV D bcl Γ 2 ws 0 0 0 [(0, .ref a)] []
  have loop : ∀ (d i : Nat) (g0 : Nat → Int32), d + i = NM → (∀ j, j < i → g0 j = bB false) → bV D bcl Γ 2 (ws.set q1 (am, .inl (cZ, NM, .inl g0))) 0 0 2 [(0, .ref a), (1, .int (nI (i)))] [] := by
    intro d
    induction d with
    | zero =>
      intro i g0 hd hg
      have k0 := bs_ne (x := (am, .inl (cZ, NM, .inl g0))) (show q1 ≠ q0 from by omega) h0
      have k1 := bs_eq (x := (am, .inl (cZ, NM, .inl g0))) h1
      refine bV.iload_n G d_K_clear_2 rfl ?_
      refine bV.aload_n G d_K_clear_3 rfl ?_
      refine bV.getf G cl_K q0 0 k0 (by decide) bw_64 rfl d_K_clear_4 ?_
      refine bV.alenN G q1 1 k1 rfl d_K_clear_7 ?_
      refine bV.icmp_geN (tgt := 24) G d_K_clear_8 (by decide) (by omega) (by omega) (fun c8 => ?_) (fun c8 => ?_)
      · exact bV.vretO G E0 rfl (by decide) (by decide) d_K_clear_24 ⟨g0, fun j hj => hg j (by omega), rfl⟩
      · exfalso; omega
    | succ d ih =>
      intro i g0 hd hg
      have k0 := bs_ne (x := (am, .inl (cZ, NM, .inl g0))) (show q1 ≠ q0 from by omega) h0
      have k1 := bs_eq (x := (am, .inl (cZ, NM, .inl g0))) h1
      refine bV.iload_n G d_K_clear_2 rfl ?_
      refine bV.aload_n G d_K_clear_3 rfl ?_
      refine bV.getf G cl_K q0 0 k0 (by decide) bw_64 rfl d_K_clear_4 ?_
      refine bV.alenN G q1 1 k1 rfl d_K_clear_7 ?_
      refine bV.icmp_geN (tgt := 24) G d_K_clear_8 (by decide) (by omega) (by omega) (fun c8 => ?_) (fun c8 => ?_)
      · exfalso; omega
      · refine bV.aload_n G d_K_clear_11 rfl ?_
        refine bV.getf G cl_K q0 0 k0 (by decide) bw_64 rfl d_K_clear_12 ?_
        refine bV.iload_n G d_K_clear_15 rfl ?_
        refine bV.iconst (v := nI 0) G d_K_clear_16 (by decide) ?_
        refine bV.topi (x := nI 0) (y := bB false) (by decide) ?_
        refine bV.zastoreN G (ws' := ((ws.set q1 (am, .inl (cZ, NM, .inl g0))).set q1 (am, .inl (cZ, NM, .inl (upd g0 i ((bB (false)))))))) q1 1 k1 rfl (by omega) (by omega) d_K_clear_17 rfl ?_
        have g1_q0 := bs_ne (x := (am, .inl (cZ, NM, .inl (upd g0 i ((bB (false))))))) (show q1 ≠ q0 from by omega) k0
        have g1_q1 := bs_eq (x := (am, .inl (cZ, NM, .inl (upd g0 i ((bB (false))))))) k1
        refine bV.iincN G (lv' := [(0, .ref a), (1, .int (nI (i + 1)))]) d_K_clear_18 rfl (by decide) rfl rfl ?_
        refine bV.goto (tgt := 2) G d_K_clear_21 (by decide) ?_
        rw [List.set_set]
        exact ih (i + 1) (upd g0 i (bB false)) (by omega) (fun j hj => by rcases Nat.lt_or_ge j i with z | z; rw [pk_un (by omega)]; exact hg j z; rw [show j = i by omega, pk_us])
  refine bV.iconst (v := nI 0) G d_K_clear_0 (by decide) ?_
  refine bV.istore_n G (lv' := [(0, .ref a), (1, .int (nI (0)))]) d_K_clear_1 (by decide) rfl rfl ?_
  have e := loop NM 0 g (by omega) (fun j hj => absurd hj (Nat.not_lt_zero _))
  rw [bs_same h1] at e
  exact e
theorem d_L_length_0 : decode b_L_length 0 = .ok (.aload_n 0, 1) := by decide +kernel
theorem d_L_length_1 : decode b_L_length 1 = .ok (.getfield 15, 3) := by decide +kernel
theorem d_L_length_4 : decode b_L_length 4 = .ok (.ireturn, 1) := by decide +kernel
set_option maxRecDepth 20000 in
set_option maxHeartbeats 4000000 in
theorem c_L_length {D : va_G} {cI cZ cJ : ClassId} {ws : va_W} {q0 q1 a al : Nat} {f : Nat → Int32} {n : Nat} {lg : Nat → Nat} (hW : lg_at cI ws q0 q1 a al f n) (hR : lg_R f n lg) : bC D bcl (tys3 cI cZ cJ) y_L_length (rmL 0 0) ws [.ref a] (bI (fun x ws9 => x = nI n ∧ ws9 = ws) bno) := by
  have hW0 := hW
  have hR0 := hR
  obtain ⟨h0, h1, n01⟩ := hW
  obtain ⟨r1, r2, r3⟩ := hR
  refine bC.of (by decide) m_L_length.1 (Nat.le_of_ble_eq_true rfl) ?_
  intro Γ G E0
  show bV D bcl Γ 1 ws 0 0 0 [(0, .ref a)] []
  refine bV.aload_n G d_L_length_0 rfl ?_
  refine bV.getf G cl_L q0 1 h0 (by decide) bw_28 rfl d_L_length_1 ?_
  exact bV.iretI G E0 rfl rfl (by decide) (by decide) d_L_length_4 ⟨rfl, rfl⟩
theorem d_L_hasRoom_0 : decode b_L_hasRoom 0 = .ok (.iload_n 1, 1) := by decide +kernel
theorem d_L_hasRoom_1 : decode b_L_hasRoom 1 = .ok (.aload_n 0, 1) := by decide +kernel
theorem d_L_hasRoom_2 : decode b_L_hasRoom 2 = .ok (.getfield 9, 3) := by decide +kernel
theorem d_L_hasRoom_5 : decode b_L_hasRoom 5 = .ok (.arraylength, 1) := by decide +kernel
theorem d_L_hasRoom_6 : decode b_L_hasRoom 6 = .ok (.aload_n 0, 1) := by decide +kernel
theorem d_L_hasRoom_7 : decode b_L_hasRoom 7 = .ok (.getfield 15, 3) := by decide +kernel
theorem d_L_hasRoom_10 : decode b_L_hasRoom 10 = .ok (.isub, 1) := by decide +kernel
theorem d_L_hasRoom_11 : decode b_L_hasRoom 11 = .ok (.if_icmp .gt 7, 3) := by decide +kernel
theorem d_L_hasRoom_14 : decode b_L_hasRoom 14 = .ok (.iconst 1, 1) := by decide +kernel
theorem d_L_hasRoom_15 : decode b_L_hasRoom 15 = .ok (.goto 4, 3) := by decide +kernel
theorem d_L_hasRoom_18 : decode b_L_hasRoom 18 = .ok (.iconst 0, 1) := by decide +kernel
theorem d_L_hasRoom_19 : decode b_L_hasRoom 19 = .ok (.ireturn, 1) := by decide +kernel
set_option maxRecDepth 20000 in
set_option maxHeartbeats 4000000 in
theorem c_L_hasRoom {D : va_G} {cI cZ cJ : ClassId} {ws : va_W} {q0 q1 a al : Nat} {f : Nat → Int32} {n : Nat} {lg : Nat → Nat} (hW : lg_at cI ws q0 q1 a al f n) (hR : lg_R f n lg) {y : Nat} (hx : y < 2 ^ 31) : bC D bcl (tys3 cI cZ cJ) y_L_hasRoom (rmL 0 0) ws [.ref a, .int (nI (y))] (bI (fun x ws9 => x = bB (decide (y + n ≤ 400)) ∧ ws9 = ws) bno) := by
  have hW0 := hW
  have hR0 := hR
  obtain ⟨h0, h1, n01⟩ := hW
  obtain ⟨r1, r2, r3⟩ := hR
  refine bC.of (by decide) m_L_hasRoom.1 (Nat.le_of_ble_eq_true rfl) ?_
  intro Γ G E0
  show bV D bcl Γ 2 ws 0 0 0 [(0, .ref a), (1, .int (nI (y)))] []
  refine bV.iload_n G d_L_hasRoom_0 rfl ?_
  refine bV.aload_n G d_L_hasRoom_1 rfl ?_
  refine bV.getf G cl_L q0 0 h0 (by decide) bw_27 rfl d_L_hasRoom_2 ?_
  refine bV.alenN G q1 0 h1 rfl d_L_hasRoom_5 ?_
  refine bV.aload_n G d_L_hasRoom_6 rfl ?_
  refine bV.getf G cl_L q0 1 h0 (by decide) bw_28 rfl d_L_hasRoom_7 ?_
  refine bV.isubN G d_L_hasRoom_10 (by omega) ?_
  refine bV.icmp_gtN (tgt := 18) G d_L_hasRoom_11 (by decide) (by omega) (by omega) (fun c11 => ?_) (fun c11 => ?_)
  · refine bV.iconst (v := nI 0) G d_L_hasRoom_18 (by decide) ?_
    refine bV.topi (x := nI 0) (y := bB false) (by decide) ?_
    exact bV.iretI G E0 rfl (bB_n _) (by decide) (by decide) d_L_hasRoom_19 ⟨by rw [decide_eq_false (by omega)], rfl⟩
  · refine bV.iconst (v := nI 1) G d_L_hasRoom_14 (by decide) ?_
    refine bV.goto (tgt := 19) G d_L_hasRoom_15 (by decide) ?_
    refine bV.topi (x := nI 1) (y := bB true) (by decide) ?_
    exact bV.iretI G E0 rfl (bB_n _) (by decide) (by decide) d_L_hasRoom_19 ⟨by rw [decide_eq_true (by omega)], rfl⟩
theorem d_L_add_0 : decode b_L_add 0 = .ok (.aload_n 0, 1) := by decide +kernel
theorem d_L_add_1 : decode b_L_add 1 = .ok (.getfield 15, 3) := by decide +kernel
theorem d_L_add_4 : decode b_L_add 4 = .ok (.ifCond .lt 35, 3) := by decide +kernel
theorem d_L_add_7 : decode b_L_add 7 = .ok (.aload_n 0, 1) := by decide +kernel
theorem d_L_add_8 : decode b_L_add 8 = .ok (.getfield 15, 3) := by decide +kernel
theorem d_L_add_11 : decode b_L_add 11 = .ok (.aload_n 0, 1) := by decide +kernel
theorem d_L_add_12 : decode b_L_add 12 = .ok (.getfield 9, 3) := by decide +kernel
theorem d_L_add_15 : decode b_L_add 15 = .ok (.arraylength, 1) := by decide +kernel
theorem d_L_add_16 : decode b_L_add 16 = .ok (.if_icmp .ge 23, 3) := by decide +kernel
theorem d_L_add_19 : decode b_L_add 19 = .ok (.aload_n 0, 1) := by decide +kernel
theorem d_L_add_20 : decode b_L_add 20 = .ok (.getfield 9, 3) := by decide +kernel
theorem d_L_add_23 : decode b_L_add 23 = .ok (.aload_n 0, 1) := by decide +kernel
theorem d_L_add_24 : decode b_L_add 24 = .ok (.getfield 15, 3) := by decide +kernel
theorem d_L_add_27 : decode b_L_add 27 = .ok (.iload_n 1, 1) := by decide +kernel
theorem d_L_add_28 : decode b_L_add 28 = .ok (.iastore, 1) := by decide +kernel
theorem d_L_add_29 : decode b_L_add 29 = .ok (.aload_n 0, 1) := by decide +kernel
theorem d_L_add_30 : decode b_L_add 30 = .ok (.dup, 1) := by decide +kernel
theorem d_L_add_31 : decode b_L_add 31 = .ok (.getfield 15, 3) := by decide +kernel
theorem d_L_add_34 : decode b_L_add 34 = .ok (.iconst 1, 1) := by decide +kernel
theorem d_L_add_35 : decode b_L_add 35 = .ok (.iadd, 1) := by decide +kernel
theorem d_L_add_36 : decode b_L_add 36 = .ok (.putfield 15, 3) := by decide +kernel
theorem d_L_add_39 : decode b_L_add 39 = .ok (.return_, 1) := by decide +kernel
set_option maxRecDepth 20000 in
set_option maxHeartbeats 4000000 in
theorem c_L_add {D : va_G} {cI cZ cJ : ClassId} {ws : va_W} {q0 q1 a al : Nat} {f : Nat → Int32} {n : Nat} {lg : Nat → Nat} (hW : lg_at cI ws q0 q1 a al f n) (hR : lg_R f n lg) {x : Nat} (hx : n < 400) : bC D bcl (tys3 cI cZ cJ) y_L_add (rmL 0 0) ws [.ref a, .int (nI (x))] (bO (fun ws9 => ws9 = lg_put cI ws q0 q1 a al (upd f n (nI x)) (n + 1)) bno) := by
  have hW0 := hW
  have hR0 := hR
  obtain ⟨h0, h1, n01⟩ := hW
  obtain ⟨r1, r2, r3⟩ := hR
  refine bC.of (by decide) m_L_add.1 (Nat.le_of_ble_eq_true rfl) ?_
  intro Γ G E0
  show bV D bcl Γ 2 ws 0 0 0 [(0, .ref a), (1, .int (nI (x)))] []
  refine bV.aload_n G d_L_add_0 rfl ?_
  refine bV.getf G cl_L q0 1 h0 (by decide) bw_28 rfl d_L_add_1 ?_
  refine bV.if_ltN (tgt := 39) G d_L_add_4 (by decide) (by omega) ?_
  refine bV.aload_n G d_L_add_7 rfl ?_
  refine bV.getf G cl_L q0 1 h0 (by decide) bw_28 rfl d_L_add_8 ?_
  refine bV.aload_n G d_L_add_11 rfl ?_
  refine bV.getf G cl_L q0 0 h0 (by decide) bw_27 rfl d_L_add_12 ?_
  refine bV.alenN G q1 0 h1 rfl d_L_add_15 ?_
  refine bV.icmp_geN (tgt := 39) G d_L_add_16 (by decide) (by omega) (by omega) (fun c16 => ?_) (fun c16 => ?_)
  · exfalso; omega
  · refine bV.aload_n G d_L_add_19 rfl ?_
    refine bV.getf G cl_L q0 0 h0 (by decide) bw_27 rfl d_L_add_20 ?_
    refine bV.aload_n G d_L_add_23 rfl ?_
    refine bV.getf G cl_L q0 1 h0 (by decide) bw_28 rfl d_L_add_24 ?_
    refine bV.iload_n G d_L_add_27 rfl ?_
    refine bV.iastoreN G (ws' := (ws.set q1 (al, .inl (cI, 400, .inl (upd f n ((nI (x)))))))) q1 0 h1 rfl (by omega) (by omega) d_L_add_28 rfl ?_
    have g1_q0 := bs_ne (x := (al, .inl (cI, 400, .inl (upd f n ((nI (x))))))) (show q1 ≠ q0 from by omega) h0
    have g1_q1 := bs_eq (x := (al, .inl (cI, 400, .inl (upd f n ((nI (x))))))) h1
    refine bV.aload_n G d_L_add_29 rfl ?_
    refine bV.dup G d_L_add_30 rfl ?_
    refine bV.getf G cl_L q0 1 g1_q0 (by decide) bw_28 rfl d_L_add_31 ?_
    refine bV.iconst (v := nI 1) G d_L_add_34 (by decide) ?_
    refine bV.iaddN G d_L_add_35 ?_
    refine bV.putf G (ws' := ((ws.set q1 (al, .inl (cI, 400, .inl (upd f n ((nI (x))))))).set q0 (a, .inr (0, [.ref al, .int (nI (n + 1))])))) cl_L q0 1 g1_q0 (by decide) bw_28 rfl rfl rfl (Nat.le_of_ble_eq_true rfl) d_L_add_36 rfl ?_
    have g2_q0 := bs_eq (x := (a, .inr (0, [.ref al, .int (nI (n + 1))]))) g1_q0
    have g2_q1 := bs_ne (x := (a, .inr (0, [.ref al, .int (nI (n + 1))]))) (show q0 ≠ q1 from by omega) g1_q1
    exact bV.vretO G E0 rfl (by decide) (by decide) d_L_add_39 rfl
theorem d_L_at_0 : decode b_L_at 0 = .ok (.iload_n 1, 1) := by decide +kernel
theorem d_L_at_1 : decode b_L_at 1 = .ok (.ifCond .lt 29, 3) := by decide +kernel
theorem d_L_at_4 : decode b_L_at 4 = .ok (.iload_n 1, 1) := by decide +kernel
theorem d_L_at_5 : decode b_L_at 5 = .ok (.aload_n 0, 1) := by decide +kernel
theorem d_L_at_6 : decode b_L_at 6 = .ok (.getfield 15, 3) := by decide +kernel
theorem d_L_at_9 : decode b_L_at 9 = .ok (.if_icmp .ge 21, 3) := by decide +kernel
theorem d_L_at_12 : decode b_L_at 12 = .ok (.iload_n 1, 1) := by decide +kernel
theorem d_L_at_13 : decode b_L_at 13 = .ok (.aload_n 0, 1) := by decide +kernel
theorem d_L_at_14 : decode b_L_at 14 = .ok (.getfield 9, 3) := by decide +kernel
theorem d_L_at_17 : decode b_L_at 17 = .ok (.arraylength, 1) := by decide +kernel
theorem d_L_at_18 : decode b_L_at 18 = .ok (.if_icmp .ge 12, 3) := by decide +kernel
theorem d_L_at_21 : decode b_L_at 21 = .ok (.aload_n 0, 1) := by decide +kernel
theorem d_L_at_22 : decode b_L_at 22 = .ok (.getfield 9, 3) := by decide +kernel
theorem d_L_at_25 : decode b_L_at 25 = .ok (.iload_n 1, 1) := by decide +kernel
theorem d_L_at_26 : decode b_L_at 26 = .ok (.iaload, 1) := by decide +kernel
theorem d_L_at_27 : decode b_L_at 27 = .ok (.goto 4, 3) := by decide +kernel
theorem d_L_at_30 : decode b_L_at 30 = .ok (.iconst (-1), 1) := by decide +kernel
theorem d_L_at_31 : decode b_L_at 31 = .ok (.ireturn, 1) := by decide +kernel
set_option maxRecDepth 20000 in
set_option maxHeartbeats 4000000 in
theorem c_L_at {D : va_G} {cI cZ cJ : ClassId} {ws : va_W} {q0 q1 a al : Nat} {f : Nat → Int32} {n : Nat} {lg : Nat → Nat} (hW : lg_at cI ws q0 q1 a al f n) (hR : lg_R f n lg) {i : Nat} (hi : i < 2 ^ 31) : bC D bcl (tys3 cI cZ cJ) y_L_at (rmL 0 0) ws [.ref a, .int (nI (i))] (bI (fun x ws9 => x = (if i < n then nI (lg i) else (-1)) ∧ ws9 = ws) bno) := by
  have hW0 := hW
  have hR0 := hR
  obtain ⟨h0, h1, n01⟩ := hW
  obtain ⟨r1, r2, r3⟩ := hR
  refine bC.of (by decide) m_L_at.1 (Nat.le_of_ble_eq_true rfl) ?_
  intro Γ G E0
  show bV D bcl Γ 2 ws 0 0 0 [(0, .ref a), (1, .int (nI (i)))] []
  refine bV.iload_n G d_L_at_0 rfl ?_
  refine bV.if_ltN (tgt := 30) G d_L_at_1 (by decide) (by omega) ?_
  refine bV.iload_n G d_L_at_4 rfl ?_
  refine bV.aload_n G d_L_at_5 rfl ?_
  refine bV.getf G cl_L q0 1 h0 (by decide) bw_28 rfl d_L_at_6 ?_
  refine bV.icmp_geN (tgt := 30) G d_L_at_9 (by decide) (by omega) (by omega) (fun c9 => ?_) (fun c9 => ?_)
  · refine bV.iconst (v := (-1)) G d_L_at_30 (by decide) ?_
    exact bV.iretI G E0 rfl rfl (by decide) (by decide) d_L_at_31 ⟨(if_neg (by omega)).symm, rfl⟩
  · refine bV.iload_n G d_L_at_12 rfl ?_
    refine bV.aload_n G d_L_at_13 rfl ?_
    refine bV.getf G cl_L q0 0 h0 (by decide) bw_27 rfl d_L_at_14 ?_
    refine bV.alenN G q1 0 h1 rfl d_L_at_17 ?_
    refine bV.icmp_geN (tgt := 30) G d_L_at_18 (by decide) (by omega) (by omega) (fun c18 => ?_) (fun c18 => ?_)
    · exfalso; omega
    · refine bV.aload_n G d_L_at_21 rfl ?_
      refine bV.getf G cl_L q0 0 h0 (by decide) bw_27 rfl d_L_at_22 ?_
      refine bV.iload_n G d_L_at_25 rfl ?_
      refine bV.ialoadN G q1 0 h1 rfl (by omega) (by omega) d_L_at_26 ?_
      refine bV.topi (y := (nI (lg i))) (r2 _ (by omega)) ?_
      refine bV.goto (tgt := 31) G d_L_at_27 (by decide) ?_
      exact bV.iretI G E0 rfl rfl (by decide) (by decide) d_L_at_31 ⟨(if_pos (by omega)).symm, rfl⟩
theorem d_L_cutTo_0 : decode b_L_cutTo 0 = .ok (.iload_n 1, 1) := by decide +kernel
theorem d_L_cutTo_1 : decode b_L_cutTo 1 = .ok (.ifCond .lt 16, 3) := by decide +kernel
theorem d_L_cutTo_4 : decode b_L_cutTo 4 = .ok (.iload_n 1, 1) := by decide +kernel
theorem d_L_cutTo_5 : decode b_L_cutTo 5 = .ok (.aload_n 0, 1) := by decide +kernel
theorem d_L_cutTo_6 : decode b_L_cutTo 6 = .ok (.getfield 15, 3) := by decide +kernel
theorem d_L_cutTo_9 : decode b_L_cutTo 9 = .ok (.if_icmp .ge 8, 3) := by decide +kernel
theorem d_L_cutTo_12 : decode b_L_cutTo 12 = .ok (.aload_n 0, 1) := by decide +kernel
theorem d_L_cutTo_13 : decode b_L_cutTo 13 = .ok (.iload_n 1, 1) := by decide +kernel
theorem d_L_cutTo_14 : decode b_L_cutTo 14 = .ok (.putfield 15, 3) := by decide +kernel
theorem d_L_cutTo_17 : decode b_L_cutTo 17 = .ok (.return_, 1) := by decide +kernel
set_option maxRecDepth 20000 in
set_option maxHeartbeats 4000000 in
theorem c_L_cutTo {D : va_G} {cI cZ cJ : ClassId} {ws : va_W} {q0 q1 a al : Nat} {f : Nat → Int32} {n : Nat} {lg : Nat → Nat} (hW : lg_at cI ws q0 q1 a al f n) (hR : lg_R f n lg) {i : Nat} (hi : i ≤ n) : bC D bcl (tys3 cI cZ cJ) y_L_cutTo (rmL 0 0) ws [.ref a, .int (nI (i))] (bO (fun ws9 => ws9 = lg_put cI ws q0 q1 a al f i) bno) := by
  have hW0 := hW
  have hR0 := hR
  obtain ⟨h0, h1, n01⟩ := hW
  obtain ⟨r1, r2, r3⟩ := hR
  refine bC.of (by decide) m_L_cutTo.1 (Nat.le_of_ble_eq_true rfl) ?_
  intro Γ G E0
  show bV D bcl Γ 2 ws 0 0 0 [(0, .ref a), (1, .int (nI (i)))] []
  refine bV.iload_n G d_L_cutTo_0 rfl ?_
  refine bV.if_ltN (tgt := 17) G d_L_cutTo_1 (by decide) (by omega) ?_
  refine bV.iload_n G d_L_cutTo_4 rfl ?_
  refine bV.aload_n G d_L_cutTo_5 rfl ?_
  refine bV.getf G cl_L q0 1 h0 (by decide) bw_28 rfl d_L_cutTo_6 ?_
  refine bV.icmp_geN (tgt := 17) G d_L_cutTo_9 (by decide) (by omega) (by omega) (fun c9 => ?_) (fun c9 => ?_)
  · exact bV.vretO G E0 rfl (by decide) (by decide) d_L_cutTo_17 (by unfold lg_put; rw [bs_same h1, show i = n by omega, bs_same h0])
  · refine bV.aload_n G d_L_cutTo_12 rfl ?_
    refine bV.iload_n G d_L_cutTo_13 rfl ?_
    refine bV.putf G (ws' := (ws.set q0 (a, .inr (0, [.ref al, .int (nI (i))])))) cl_L q0 1 h0 (by decide) bw_28 rfl rfl rfl (Nat.le_of_ble_eq_true rfl) d_L_cutTo_14 rfl ?_
    have g1_q0 := bs_eq (x := (a, .inr (0, [.ref al, .int (nI (i))]))) h0
    have g1_q1 := bs_ne (x := (a, .inr (0, [.ref al, .int (nI (i))]))) (show q0 ≠ q1 from by omega) h1
    exact bV.vretO G E0 rfl (by decide) (by decide) d_L_cutTo_17 (by unfold lg_put; rw [bs_same h1])
theorem d_L_lengthByKind_0 : decode b_L_lengthByKind 0 = .ok (.aload_n 0, 1) := by decide +kernel
theorem d_L_lengthByKind_1 : decode b_L_lengthByKind 1 = .ok (.iload_n 1, 1) := by decide +kernel
theorem d_L_lengthByKind_2 : decode b_L_lengthByKind 2 = .ok (.invokevirtual 23, 3) := by decide +kernel
theorem d_L_lengthByKind_5 : decode b_L_lengthByKind 5 = .ok (.tableswitch 53 1 5 #[35, 49, 51, 49, 51], 35) := by decide +kernel
theorem d_L_lengthByKind_40 : decode b_L_lengthByKind 40 = .ok (.iconst 2, 1) := by decide +kernel
theorem d_L_lengthByKind_41 : decode b_L_lengthByKind 41 = .ok (.iconst 0, 1) := by decide +kernel
theorem d_L_lengthByKind_42 : decode b_L_lengthByKind 42 = .ok (.aload_n 0, 1) := by decide +kernel
theorem d_L_lengthByKind_43 : decode b_L_lengthByKind 43 = .ok (.iload_n 1, 1) := by decide +kernel
theorem d_L_lengthByKind_44 : decode b_L_lengthByKind 44 = .ok (.iconst 1, 1) := by decide +kernel
theorem d_L_lengthByKind_45 : decode b_L_lengthByKind 45 = .ok (.iadd, 1) := by decide +kernel
theorem d_L_lengthByKind_46 : decode b_L_lengthByKind 46 = .ok (.invokevirtual 23, 3) := by decide +kernel
theorem d_L_lengthByKind_49 : decode b_L_lengthByKind 49 = .ok (.invokestatic 26, 3) := by decide +kernel
theorem d_L_lengthByKind_52 : decode b_L_lengthByKind 52 = .ok (.iadd, 1) := by decide +kernel
theorem d_L_lengthByKind_53 : decode b_L_lengthByKind 53 = .ok (.ireturn, 1) := by decide +kernel
theorem d_L_lengthByKind_54 : decode b_L_lengthByKind 54 = .ok (.iconst 2, 1) := by decide +kernel
theorem d_L_lengthByKind_55 : decode b_L_lengthByKind 55 = .ok (.ireturn, 1) := by decide +kernel
theorem d_L_lengthByKind_56 : decode b_L_lengthByKind 56 = .ok (.iconst 1, 1) := by decide +kernel
theorem d_L_lengthByKind_57 : decode b_L_lengthByKind 57 = .ok (.ireturn, 1) := by decide +kernel
theorem d_L_lengthByKind_58 : decode b_L_lengthByKind 58 = .ok (.iconst 0, 1) := by decide +kernel
theorem d_L_lengthByKind_59 : decode b_L_lengthByKind 59 = .ok (.ireturn, 1) := by decide +kernel
set_option maxRecDepth 20000 in
set_option maxHeartbeats 4000000 in
theorem c_L_lengthByKind {D : va_G} {cI cZ cJ : ClassId} {ws : va_W} {q0 q1 a al : Nat} {f : Nat → Int32} {n : Nat} {lg : Nat → Nat} (hW : lg_at cI ws q0 q1 a al f n) (hR : lg_R f n lg) {p : Nat} (hp : p ≤ n) : bC D bcl (tys3 cI cZ cJ) y_L_lengthByKind (rmL 1 21) ws [.ref a, .int (nI p)] (bI (fun x ws9 => x = nI (recLen lg n p) ∧ ws9 = ws) bno) := by
  have hW0 := hW
  have hR0 := hR
  obtain ⟨h0, h1, n01⟩ := hW
  obtain ⟨r1, r2, r3⟩ := hR
  refine bC.of (by decide) m_L_lengthByKind.1 (Nat.le_of_ble_eq_true rfl) ?_
  intro Γ G E0
  show bV D bcl Γ 2 ws 0 0 0 [(0, .ref a), (1, .int (nI (p)))] []
  refine bV.aload_n G d_L_lengthByKind_0 rfl ?_
  refine bV.iload_n G d_L_lengthByKind_1 rfl ?_
  refine bV.callVi G m_L_at bw_466 bw_467 bw_465 (c_L_at hW0 hR0 (i := p) (by omega)) q0 h0 rfl rfl rfl rfl ⟨by decide, by decide⟩ ⟨by decide, by decide⟩ (Nat.le_of_ble_eq_true rfl) d_L_lengthByKind_2 (fun x9 ws9 h9 => ?_)
  obtain ⟨rfl, h9e⟩ := h9
  rw [h9e]
  by_cases hpn : p < n
  · rw [if_pos hpn]
    have hv := r3 p hpn
    rcases (show lg p = 1 ∨ lg p = 2 ∨ lg p = 3 ∨ lg p = 4 ∨ lg p = 5 ∨ (lg p < 1 ∨ 5 < lg p) by omega) with hk | hk | hk | hk | hk | hk
    · refine bV.tableIn (tgt := 40) (off := 35) G d_L_lengthByKind_5 (by rw [hk]; decide) (by rw [hk]; decide) (by rw [hk]; rfl) (by decide) ?_
      refine bV.iconst (v := nI 2) G d_L_lengthByKind_40 (by decide) ?_
      refine bV.iconst (v := nI 0) G d_L_lengthByKind_41 (by decide) ?_
      refine bV.aload_n G d_L_lengthByKind_42 rfl ?_
      refine bV.iload_n G d_L_lengthByKind_43 rfl ?_
      refine bV.iconst (v := nI 1) G d_L_lengthByKind_44 (by decide) ?_
      refine bV.iaddN G d_L_lengthByKind_45 ?_
      refine bV.callVi G m_L_at bw_466 bw_467 bw_465 (c_L_at hW0 hR0 (i := p + 1) (by omega)) q0 h0 rfl rfl rfl rfl ⟨by decide, by decide⟩ ⟨by decide, by decide⟩ (Nat.le_of_ble_eq_true rfl) d_L_lengthByKind_46 (fun x9 ws9 h9 => ?_)
      obtain ⟨rfl, h9e⟩ := h9
      rw [h9e]
      refine bV.mmax G bw_469 bw_42 bw_4 bw_43 (by decide) (by decide) (by decide) (by decide) d_L_lengthByKind_49 ?_
      refine bV.topi (y := (nI (if p + 1 < n then lg (p + 1) else 0))) (lmax2 r3) ?_
      refine bV.iaddN G d_L_lengthByKind_52 ?_
      exact bV.iretI G E0 rfl rfl (by decide) (by decide) d_L_lengthByKind_53 ⟨by unfold recLen; rw [if_pos hpn]; simp [hk], rfl⟩
    · refine bV.tableIn (tgt := 54) (off := 49) G d_L_lengthByKind_5 (by rw [hk]; decide) (by rw [hk]; decide) (by rw [hk]; rfl) (by decide) ?_
      refine bV.iconst (v := nI 2) G d_L_lengthByKind_54 (by decide) ?_
      exact bV.iretI G E0 rfl rfl (by decide) (by decide) d_L_lengthByKind_55 ⟨by unfold recLen; rw [if_pos hpn]; simp [hk], rfl⟩
    · refine bV.tableIn (tgt := 56) (off := 51) G d_L_lengthByKind_5 (by rw [hk]; decide) (by rw [hk]; decide) (by rw [hk]; rfl) (by decide) ?_
      refine bV.iconst (v := nI 1) G d_L_lengthByKind_56 (by decide) ?_
      exact bV.iretI G E0 rfl rfl (by decide) (by decide) d_L_lengthByKind_57 ⟨by unfold recLen; rw [if_pos hpn]; simp [hk], rfl⟩
    · refine bV.tableIn (tgt := 54) (off := 49) G d_L_lengthByKind_5 (by rw [hk]; decide) (by rw [hk]; decide) (by rw [hk]; rfl) (by decide) ?_
      refine bV.iconst (v := nI 2) G d_L_lengthByKind_54 (by decide) ?_
      exact bV.iretI G E0 rfl rfl (by decide) (by decide) d_L_lengthByKind_55 ⟨by unfold recLen; rw [if_pos hpn]; simp [hk], rfl⟩
    · refine bV.tableIn (tgt := 56) (off := 51) G d_L_lengthByKind_5 (by rw [hk]; decide) (by rw [hk]; decide) (by rw [hk]; rfl) (by decide) ?_
      refine bV.iconst (v := nI 1) G d_L_lengthByKind_56 (by decide) ?_
      exact bV.iretI G E0 rfl rfl (by decide) (by decide) d_L_lengthByKind_57 ⟨by unfold recLen; rw [if_pos hpn]; simp [hk], rfl⟩
    · refine bV.tableOut (tgt := 58) G d_L_lengthByKind_5 (by rw [nI_toInt (by omega)]; omega) (by decide) ?_
      refine bV.iconst (v := nI 0) G d_L_lengthByKind_58 (by decide) ?_
      exact bV.iretI G E0 rfl rfl (by decide) (by decide) d_L_lengthByKind_59 ⟨by unfold recLen; rw [if_pos hpn, if_neg (by omega), if_neg (by omega), if_neg (by omega)], rfl⟩
  · rw [if_neg hpn]
    refine bV.tableOut (tgt := 58) G d_L_lengthByKind_5 (Or.inl (by decide)) (by decide) ?_
    refine bV.iconst (v := nI 0) G d_L_lengthByKind_58 (by decide) ?_
    exact bV.iretI G E0 rfl rfl (by decide) (by decide) d_L_lengthByKind_59 ⟨by unfold recLen; rw [if_neg hpn], rfl⟩
theorem d_L_lengthOfRecord_0 : decode b_L_lengthOfRecord 0 = .ok (.aload_n 0, 1) := by decide +kernel
theorem d_L_lengthOfRecord_1 : decode b_L_lengthOfRecord 1 = .ok (.iload_n 1, 1) := by decide +kernel
theorem d_L_lengthOfRecord_2 : decode b_L_lengthOfRecord 2 = .ok (.invokevirtual 19, 3) := by decide +kernel
theorem d_L_lengthOfRecord_5 : decode b_L_lengthOfRecord 5 = .ok (.istore_n 2, 1) := by decide +kernel
theorem d_L_lengthOfRecord_6 : decode b_L_lengthOfRecord 6 = .ok (.iload_n 2, 1) := by decide +kernel
theorem d_L_lengthOfRecord_7 : decode b_L_lengthOfRecord 7 = .ok (.aload_n 0, 1) := by decide +kernel
theorem d_L_lengthOfRecord_8 : decode b_L_lengthOfRecord 8 = .ok (.getfield 15, 3) := by decide +kernel
theorem d_L_lengthOfRecord_11 : decode b_L_lengthOfRecord 11 = .ok (.iload_n 1, 1) := by decide +kernel
theorem d_L_lengthOfRecord_12 : decode b_L_lengthOfRecord 12 = .ok (.isub, 1) := by decide +kernel
theorem d_L_lengthOfRecord_13 : decode b_L_lengthOfRecord 13 = .ok (.if_icmp .gt 7, 3) := by decide +kernel
theorem d_L_lengthOfRecord_16 : decode b_L_lengthOfRecord 16 = .ok (.iload_n 2, 1) := by decide +kernel
theorem d_L_lengthOfRecord_17 : decode b_L_lengthOfRecord 17 = .ok (.goto 4, 3) := by decide +kernel
theorem d_L_lengthOfRecord_20 : decode b_L_lengthOfRecord 20 = .ok (.iconst 0, 1) := by decide +kernel
theorem d_L_lengthOfRecord_21 : decode b_L_lengthOfRecord 21 = .ok (.ireturn, 1) := by decide +kernel
set_option maxRecDepth 20000 in
set_option maxHeartbeats 4000000 in
theorem c_L_lengthOfRecord {D : va_G} {cI cZ cJ : ClassId} {ws : va_W} {q0 q1 a al : Nat} {f : Nat → Int32} {n : Nat} {lg : Nat → Nat} (hW : lg_at cI ws q0 q1 a al f n) (hR : lg_R f n lg) {p : Nat} (hp : p ≤ n) : bC D bcl (tys3 cI cZ cJ) y_L_lengthOfRecord (rmL 2 43) ws [.ref a, .int (nI (p))] (bI (fun x ws9 => x = nI (if recLen lg n p ≤ n - p then recLen lg n p else 0) ∧ ws9 = ws) bno) := by
  have hW0 := hW
  have hR0 := hR
  obtain ⟨h0, h1, n01⟩ := hW
  obtain ⟨r1, r2, r3⟩ := hR
  refine bC.of (by decide) m_L_lengthOfRecord.1 (Nat.le_of_ble_eq_true rfl) ?_
  intro Γ G E0
  show bV D bcl Γ 3 ws 0 0 0 [(0, .ref a), (1, .int (nI (p)))] []
  refine bV.aload_n G d_L_lengthOfRecord_0 rfl ?_
  refine bV.iload_n G d_L_lengthOfRecord_1 rfl ?_
  refine bV.callVi G m_L_lengthByKind bw_463 bw_s20 bw_461 (c_L_lengthByKind hW0 hR0 (p := p) hp) q0 h0 rfl rfl rfl rfl ⟨by decide, by decide⟩ ⟨by decide, by decide⟩ (Nat.le_of_ble_eq_true rfl) d_L_lengthOfRecord_2 (fun x9 ws9 h9 => ?_)
  obtain ⟨rfl, h9e⟩ := h9
  rw [h9e]
  have hv : recLen lg n p < 1000 := by
    unfold recLen
    have a1 := r3 (p + 1)
    repeat' split
    all_goals omega
  refine bV.istore_n G (lv' := [(0, .ref a), (1, .int (nI (p))), (2, .int (nI (recLen lg n p)))]) d_L_lengthOfRecord_5 (by decide) rfl rfl ?_
  refine bV.iload_n G d_L_lengthOfRecord_6 rfl ?_
  refine bV.aload_n G d_L_lengthOfRecord_7 rfl ?_
  refine bV.getf G cl_L q0 1 h0 (by decide) bw_28 rfl d_L_lengthOfRecord_8 ?_
  refine bV.iload_n G d_L_lengthOfRecord_11 rfl ?_
  refine bV.isubN G d_L_lengthOfRecord_12 (by omega) ?_
  refine bV.icmp_gtN (tgt := 20) G d_L_lengthOfRecord_13 (by decide) (by omega) (by omega) (fun c13 => ?_) (fun c13 => ?_)
  · refine bV.iconst (v := nI 0) G d_L_lengthOfRecord_20 (by decide) ?_
    exact bV.iretI G E0 rfl rfl (by decide) (by decide) d_L_lengthOfRecord_21 ⟨by rw [if_neg (by omega)], rfl⟩
  · refine bV.iload_n G d_L_lengthOfRecord_16 rfl ?_
    refine bV.goto (tgt := 21) G d_L_lengthOfRecord_17 (by decide) ?_
    exact bV.iretI G E0 rfl rfl (by decide) (by decide) d_L_lengthOfRecord_21 ⟨by rw [if_pos (by omega)], rfl⟩
