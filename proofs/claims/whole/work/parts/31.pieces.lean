/-! ===== Pieces: contracts ===== -/
abbrev rmL (f l : Nat) : Room := { frames := f, cells := 0, slots := 0, locals := l }
def pc_at (cI : ClassId) (ws : va_W) (q0 q1 q2 a ai az NI ns : Nat) (P : pc_C) : Prop := ws[q0]? = some (a, .inr (2, [.ref ai, .ref az, .int (nI P.2.2.1), .int (nI P.2.2.2)])) ∧ ws[q1]? = some (ai, .inl (cI, NI, .inl P.1)) ∧ ws[q2]? = some (az, .inl (cI, ns, .inl P.2.1)) ∧ q0 ≠ q1 ∧ q0 ≠ q2 ∧ q1 ≠ q2
/-- the world with the pieces P there instead -/
def pc_put (cI : ClassId) (ws : va_W) (q0 q1 q2 a ai az NI ns : Nat) (P : pc_C) : va_W := ((ws.set q1 (ai, .inl (cI, NI, .inl P.1))).set q2 (az, .inl (cI, ns, .inl P.2.1))).set q0 (a, .inr (2, [.ref ai, .ref az, .int (nI P.2.2.1), .int (nI P.2.2.2)]))
theorem d_P_count_0 : decode b_P_count 0 = .ok (.aload_n 0, 1) := by decide +kernel
theorem d_P_count_1 : decode b_P_count 1 = .ok (.getfield 15, 3) := by decide +kernel
theorem d_P_count_4 : decode b_P_count 4 = .ok (.ireturn, 1) := by decide +kernel
set_option maxRecDepth 20000 in
set_option maxHeartbeats 4000000 in
theorem c_P_count {D : va_G} {cI cZ cJ : ClassId} {ws : va_W} {q0 q1 q2 a ai az NI ns : Nat} {P : pc_C} {A : pc_A} (hW : pc_at cI ws q0 q1 q2 a ai az NI ns P) (hR : pc_R NI ns P A)  : bC D bcl (tys3 cI cZ cJ) y_P_count (rmL 0 0) ws [.ref a] (bI (fun x ws9 => x = nI A.1 ∧ ws9 = ws) bno) := by
  obtain ⟨h0, h1, h2, n01, n02, n12⟩ := hW
  obtain ⟨f, st, sz, ct⟩ := P
  obtain ⟨c, pl, pa⟩ := A
  have hR0 := hR
  obtain ⟨e1, r2, r3, r4, r5, r6, r7, r8, r9⟩ := hR
  dsimp only at *
  subst e1
  have hs5 : pcS pl (ct + 1) = pcS pl ct + pl ct := rfl
  refine bC.of (by decide) m_P_count.1 (Nat.le_of_ble_eq_true rfl) ?_
  intro Γ G E0
  show bV D bcl Γ 1 ws 0 0 0 [(0, .ref a)] []
  refine bV.aload_n G d_P_count_0 rfl ?_
  refine bV.getf G cl_P q0 3 h0 (by decide) bw_47 rfl d_P_count_1 ?_
  exact bV.iretI G E0 rfl rfl (by decide) (by decide) d_P_count_4 ⟨rfl, rfl⟩
theorem d_P_stillFree_0 : decode b_P_stillFree 0 = .ok (.aload_n 0, 1) := by decide +kernel
theorem d_P_stillFree_1 : decode b_P_stillFree 1 = .ok (.getfield 28, 3) := by decide +kernel
theorem d_P_stillFree_4 : decode b_P_stillFree 4 = .ok (.arraylength, 1) := by decide +kernel
theorem d_P_stillFree_5 : decode b_P_stillFree 5 = .ok (.iconst 1, 1) := by decide +kernel
theorem d_P_stillFree_6 : decode b_P_stillFree 6 = .ok (.isub, 1) := by decide +kernel
theorem d_P_stillFree_7 : decode b_P_stillFree 7 = .ok (.aload_n 0, 1) := by decide +kernel
theorem d_P_stillFree_8 : decode b_P_stillFree 8 = .ok (.getfield 15, 3) := by decide +kernel
theorem d_P_stillFree_11 : decode b_P_stillFree 11 = .ok (.isub, 1) := by decide +kernel
theorem d_P_stillFree_12 : decode b_P_stillFree 12 = .ok (.ireturn, 1) := by decide +kernel
set_option maxRecDepth 20000 in
set_option maxHeartbeats 4000000 in
theorem c_P_stillFree {D : va_G} {cI cZ cJ : ClassId} {ws : va_W} {q0 q1 q2 a ai az NI ns : Nat} {P : pc_C} {A : pc_A} (hW : pc_at cI ws q0 q1 q2 a ai az NI ns P) (hR : pc_R NI ns P A)  : bC D bcl (tys3 cI cZ cJ) y_P_stillFree (rmL 0 0) ws [.ref a] (bI (fun x ws9 => x = nI (ns - 1 - A.1) ∧ ws9 = ws) bno) := by
  obtain ⟨h0, h1, h2, n01, n02, n12⟩ := hW
  obtain ⟨f, st, sz, ct⟩ := P
  obtain ⟨c, pl, pa⟩ := A
  have hR0 := hR
  obtain ⟨e1, r2, r3, r4, r5, r6, r7, r8, r9⟩ := hR
  dsimp only at *
  subst e1
  have hs5 : pcS pl (ct + 1) = pcS pl ct + pl ct := rfl
  refine bC.of (by decide) m_P_stillFree.1 (Nat.le_of_ble_eq_true rfl) ?_
  intro Γ G E0
  show bV D bcl Γ 1 ws 0 0 0 [(0, .ref a)] []
  refine bV.aload_n G d_P_stillFree_0 rfl ?_
  refine bV.getf G cl_P q0 1 h0 (by decide) bw_45 rfl d_P_stillFree_1 ?_
  refine bV.alenN G q2 0 h2 rfl d_P_stillFree_4 ?_
  refine bV.iconst (v := nI 1) G d_P_stillFree_5 (by decide) ?_
  refine bV.isubN G d_P_stillFree_6 (by omega) ?_
  refine bV.aload_n G d_P_stillFree_7 rfl ?_
  refine bV.getf G cl_P q0 3 h0 (by decide) bw_47 rfl d_P_stillFree_8 ?_
  refine bV.isubN G d_P_stillFree_11 (by omega) ?_
  exact bV.iretI G E0 rfl rfl (by decide) (by decide) d_P_stillFree_12 ⟨congrArg nI (by omega), rfl⟩
theorem d_P_isFull_0 : decode b_P_isFull 0 = .ok (.aload_n 0, 1) := by decide +kernel
theorem d_P_isFull_1 : decode b_P_isFull 1 = .ok (.invokevirtual 31, 3) := by decide +kernel
theorem d_P_isFull_4 : decode b_P_isFull 4 = .ok (.ifCond .gt 7, 3) := by decide +kernel
theorem d_P_isFull_7 : decode b_P_isFull 7 = .ok (.iconst 1, 1) := by decide +kernel
theorem d_P_isFull_8 : decode b_P_isFull 8 = .ok (.goto 4, 3) := by decide +kernel
theorem d_P_isFull_11 : decode b_P_isFull 11 = .ok (.iconst 0, 1) := by decide +kernel
theorem d_P_isFull_12 : decode b_P_isFull 12 = .ok (.ireturn, 1) := by decide +kernel
set_option maxRecDepth 20000 in
set_option maxHeartbeats 4000000 in
theorem c_P_isFull {D : va_G} {cI cZ cJ : ClassId} {ws : va_W} {q0 q1 q2 a ai az NI ns : Nat} {P : pc_C} {A : pc_A} (hW : pc_at cI ws q0 q1 q2 a ai az NI ns P) (hR : pc_R NI ns P A)  : bC D bcl (tys3 cI cZ cJ) y_P_isFull (rmL 1 20) ws [.ref a] (bI (fun x ws9 => x = bB (decide (A.1 + 1 = ns)) ∧ ws9 = ws) bno) := by
  obtain ⟨h0, h1, h2, n01, n02, n12⟩ := hW
  obtain ⟨f, st, sz, ct⟩ := P
  obtain ⟨c, pl, pa⟩ := A
  have hR0 := hR
  obtain ⟨e1, r2, r3, r4, r5, r6, r7, r8, r9⟩ := hR
  dsimp only at *
  subst e1
  have hs5 : pcS pl (ct + 1) = pcS pl ct + pl ct := rfl
  refine bC.of (by decide) m_P_isFull.1 (Nat.le_of_ble_eq_true rfl) ?_
  intro Γ G E0
  show bV D bcl Γ 1 ws 0 0 0 [(0, .ref a)] []
  refine bV.aload_n G d_P_isFull_0 rfl ?_
  refine bV.callVi G m_P_stillFree bw_237 bw_238 bw_236 (c_P_stillFree (ws := ws) (q1 := q1) (q2 := q2) (NI := NI) (ns := ns) (P := (f, st, sz, ct)) (A := (ct, pl, pa)) ⟨h0, h1, h2, n01, n02, n12⟩ hR0) q0 h0 rfl rfl rfl rfl ⟨by decide, by decide⟩ ⟨by decide, by decide⟩ (Nat.le_of_ble_eq_true rfl) d_P_isFull_1 (fun x9 ws9 h9 => ?_)
  obtain ⟨rfl, h9e⟩ := h9
  rw [h9e]
  try dsimp only
  refine bV.if_gtN (tgt := 11) G d_P_isFull_4 (by decide) (by omega) (fun c4 => ?_) (fun c4 => ?_)
  · refine bV.iconst (v := nI 0) G d_P_isFull_11 (by decide) ?_
    refine bV.topi (x := nI 0) (y := bB false) (by decide) ?_
    exact bV.iretI G E0 rfl (bB_n _) (by decide) (by decide) d_P_isFull_12 ⟨by rw [decide_eq_false (by omega)], rfl⟩
  · refine bV.iconst (v := nI 1) G d_P_isFull_7 (by decide) ?_
    refine bV.goto (tgt := 12) G d_P_isFull_8 (by decide) ?_
    refine bV.topi (x := nI 1) (y := bB true) (by decide) ?_
    exact bV.iretI G E0 rfl (bB_n _) (by decide) (by decide) d_P_isFull_12 ⟨by rw [decide_eq_true (by omega)], rfl⟩
theorem d_P_has_0 : decode b_P_has 0 = .ok (.iload_n 1, 1) := by decide +kernel
theorem d_P_has_1 : decode b_P_has 1 = .ok (.ifCond .lt 15, 3) := by decide +kernel
theorem d_P_has_4 : decode b_P_has 4 = .ok (.iload_n 1, 1) := by decide +kernel
theorem d_P_has_5 : decode b_P_has 5 = .ok (.aload_n 0, 1) := by decide +kernel
theorem d_P_has_6 : decode b_P_has 6 = .ok (.getfield 15, 3) := by decide +kernel
theorem d_P_has_9 : decode b_P_has 9 = .ok (.if_icmp .ge 7, 3) := by decide +kernel
theorem d_P_has_12 : decode b_P_has 12 = .ok (.iconst 1, 1) := by decide +kernel
theorem d_P_has_13 : decode b_P_has 13 = .ok (.goto 4, 3) := by decide +kernel
theorem d_P_has_16 : decode b_P_has 16 = .ok (.iconst 0, 1) := by decide +kernel
theorem d_P_has_17 : decode b_P_has 17 = .ok (.ireturn, 1) := by decide +kernel
set_option maxRecDepth 20000 in
set_option maxHeartbeats 4000000 in
theorem c_P_has {D : va_G} {cI cZ cJ : ClassId} {ws : va_W} {q0 q1 q2 a ai az NI ns : Nat} {P : pc_C} {A : pc_A} (hW : pc_at cI ws q0 q1 q2 a ai az NI ns P) (hR : pc_R NI ns P A) {v : Int32} : bC D bcl (tys3 cI cZ cJ) y_P_has (rmL 0 0) ws [.ref a, .int (v)] (bI (fun x ws9 => x = bB (decide (0 ≤ v ∧ v < nI A.1)) ∧ ws9 = ws) bno) := by
  obtain ⟨h0, h1, h2, n01, n02, n12⟩ := hW
  obtain ⟨f, st, sz, ct⟩ := P
  obtain ⟨c, pl, pa⟩ := A
  have hR0 := hR
  obtain ⟨e1, r2, r3, r4, r5, r6, r7, r8, r9⟩ := hR
  dsimp only at *
  subst e1
  have hs5 : pcS pl (ct + 1) = pcS pl ct + pl ct := rfl
  refine bC.of (by decide) m_P_has.1 (Nat.le_of_ble_eq_true rfl) ?_
  intro Γ G E0
  show bV D bcl Γ 2 ws 0 0 0 [(0, .ref a), (1, .int (v))] []
  refine bV.iload_n G d_P_has_0 rfl ?_
  refine bV.if_lt (tgt := 16) G d_P_has_1 (by decide) (fun c1 => ?_) (fun c1 => ?_)
  · refine bV.iconst (v := nI 0) G d_P_has_16 (by decide) ?_
    refine bV.topi (x := nI 0) (y := bB false) (by decide) ?_
    exact bV.iretI G E0 rfl (bB_n _) (by decide) (by decide) d_P_has_17 ⟨by rw [decide_eq_false (fun z => by first | exact absurd z.1 (Int32.not_le.mpr c1) | exact absurd z.2 (Int32.not_lt.mpr c9))], rfl⟩
  · refine bV.iload_n G d_P_has_4 rfl ?_
    refine bV.aload_n G d_P_has_5 rfl ?_
    refine bV.getf G cl_P q0 3 h0 (by decide) bw_47 rfl d_P_has_6 ?_
    refine bV.icmp_ge (tgt := 16) G d_P_has_9 (by decide) (fun c9 => ?_) (fun c9 => ?_)
    · refine bV.iconst (v := nI 0) G d_P_has_16 (by decide) ?_
      refine bV.topi (x := nI 0) (y := bB false) (by decide) ?_
      exact bV.iretI G E0 rfl (bB_n _) (by decide) (by decide) d_P_has_17 ⟨by rw [decide_eq_false (fun z => by first | exact absurd z.1 (Int32.not_le.mpr c1) | exact absurd z.2 (Int32.not_lt.mpr c9))], rfl⟩
    · refine bV.iconst (v := nI 1) G d_P_has_12 (by decide) ?_
      refine bV.goto (tgt := 17) G d_P_has_13 (by decide) ?_
      refine bV.topi (x := nI 1) (y := bB true) (by decide) ?_
      exact bV.iretI G E0 rfl (bB_n _) (by decide) (by decide) d_P_has_17 ⟨by rw [decide_eq_true ⟨Int32.not_lt.mp c1, Int32.not_le.mp c9⟩], rfl⟩
theorem d_P_length_0 : decode b_P_length 0 = .ok (.iload_n 1, 1) := by decide +kernel
theorem d_P_length_1 : decode b_P_length 1 = .ok (.ifCond .lt 20, 3) := by decide +kernel
theorem d_P_length_4 : decode b_P_length 4 = .ok (.iload_n 1, 1) := by decide +kernel
theorem d_P_length_5 : decode b_P_length 5 = .ok (.aload_n 0, 1) := by decide +kernel
theorem d_P_length_6 : decode b_P_length 6 = .ok (.getfield 15, 3) := by decide +kernel
theorem d_P_length_9 : decode b_P_length 9 = .ok (.if_icmp .gt 12, 3) := by decide +kernel
theorem d_P_length_12 : decode b_P_length 12 = .ok (.iload_n 1, 1) := by decide +kernel
theorem d_P_length_13 : decode b_P_length 13 = .ok (.aload_n 0, 1) := by decide +kernel
theorem d_P_length_14 : decode b_P_length 14 = .ok (.getfield 28, 3) := by decide +kernel
theorem d_P_length_17 : decode b_P_length 17 = .ok (.arraylength, 1) := by decide +kernel
theorem d_P_length_18 : decode b_P_length 18 = .ok (.if_icmp .lt 5, 3) := by decide +kernel
theorem d_P_length_21 : decode b_P_length 21 = .ok (.iconst 0, 1) := by decide +kernel
theorem d_P_length_22 : decode b_P_length 22 = .ok (.ireturn, 1) := by decide +kernel
theorem d_P_length_23 : decode b_P_length 23 = .ok (.iload_n 1, 1) := by decide +kernel
theorem d_P_length_24 : decode b_P_length 24 = .ok (.aload_n 0, 1) := by decide +kernel
theorem d_P_length_25 : decode b_P_length 25 = .ok (.getfield 15, 3) := by decide +kernel
theorem d_P_length_28 : decode b_P_length 28 = .ok (.if_icmp .ge 25, 3) := by decide +kernel
theorem d_P_length_31 : decode b_P_length 31 = .ok (.iload_n 1, 1) := by decide +kernel
theorem d_P_length_32 : decode b_P_length 32 = .ok (.iconst 1, 1) := by decide +kernel
theorem d_P_length_33 : decode b_P_length 33 = .ok (.iadd, 1) := by decide +kernel
theorem d_P_length_34 : decode b_P_length 34 = .ok (.aload_n 0, 1) := by decide +kernel
theorem d_P_length_35 : decode b_P_length 35 = .ok (.getfield 28, 3) := by decide +kernel
theorem d_P_length_38 : decode b_P_length 38 = .ok (.arraylength, 1) := by decide +kernel
theorem d_P_length_39 : decode b_P_length 39 = .ok (.if_icmp .ge 14, 3) := by decide +kernel
theorem d_P_length_42 : decode b_P_length 42 = .ok (.aload_n 0, 1) := by decide +kernel
theorem d_P_length_43 : decode b_P_length 43 = .ok (.getfield 28, 3) := by decide +kernel
theorem d_P_length_46 : decode b_P_length 46 = .ok (.iload_n 1, 1) := by decide +kernel
theorem d_P_length_47 : decode b_P_length 47 = .ok (.iconst 1, 1) := by decide +kernel
theorem d_P_length_48 : decode b_P_length 48 = .ok (.iadd, 1) := by decide +kernel
theorem d_P_length_49 : decode b_P_length 49 = .ok (.iaload, 1) := by decide +kernel
theorem d_P_length_50 : decode b_P_length 50 = .ok (.goto 7, 3) := by decide +kernel
theorem d_P_length_53 : decode b_P_length 53 = .ok (.aload_n 0, 1) := by decide +kernel
theorem d_P_length_54 : decode b_P_length 54 = .ok (.getfield 9, 3) := by decide +kernel
theorem d_P_length_57 : decode b_P_length 57 = .ok (.istore_n 2, 1) := by decide +kernel
theorem d_P_length_58 : decode b_P_length 58 = .ok (.iload_n 2, 1) := by decide +kernel
theorem d_P_length_59 : decode b_P_length 59 = .ok (.aload_n 0, 1) := by decide +kernel
theorem d_P_length_60 : decode b_P_length 60 = .ok (.getfield 28, 3) := by decide +kernel
theorem d_P_length_63 : decode b_P_length 63 = .ok (.iload_n 1, 1) := by decide +kernel
theorem d_P_length_64 : decode b_P_length 64 = .ok (.iaload, 1) := by decide +kernel
theorem d_P_length_65 : decode b_P_length 65 = .ok (.isub, 1) := by decide +kernel
theorem d_P_length_66 : decode b_P_length 66 = .ok (.ireturn, 1) := by decide +kernel
set_option maxRecDepth 20000 in
set_option maxHeartbeats 4000000 in
theorem c_P_length {D : va_G} {cI cZ cJ : ClassId} {ws : va_W} {q0 q1 q2 a ai az NI ns : Nat} {P : pc_C} {A : pc_A} (hW : pc_at cI ws q0 q1 q2 a ai az NI ns P) (hR : pc_R NI ns P A) {j : Nat} (hj : j ≤ A.1) : bC D bcl (tys3 cI cZ cJ) y_P_length (rmL 0 0) ws [.ref a, .int (nI (j))] (bI (fun x ws9 => x = nI (A.2.1 j) ∧ ws9 = ws) bno) := by
  obtain ⟨h0, h1, h2, n01, n02, n12⟩ := hW
  obtain ⟨f, st, sz, ct⟩ := P
  obtain ⟨c, pl, pa⟩ := A
  have hR0 := hR
  obtain ⟨e1, r2, r3, r4, r5, r6, r7, r8, r9⟩ := hR
  dsimp only at *
  subst e1
  have hs5 : pcS pl (ct + 1) = pcS pl ct + pl ct := rfl
  refine bC.of (by decide) m_P_length.1 (Nat.le_of_ble_eq_true rfl) ?_
  intro Γ G E0
  show bV D bcl Γ 3 ws 0 0 0 [(0, .ref a), (1, .int (nI (j)))] []
  have hs6 : pcS pl (j + 1) = pcS pl j + pl j := rfl
  refine bV.iload_n G d_P_length_0 rfl ?_
  refine bV.if_ltN (tgt := 21) G d_P_length_1 (by decide) (by omega) ?_
  refine bV.iload_n G d_P_length_4 rfl ?_
  refine bV.aload_n G d_P_length_5 rfl ?_
  refine bV.getf G cl_P q0 3 h0 (by decide) bw_47 rfl d_P_length_6 ?_
  refine bV.icmp_gtN (tgt := 21) G d_P_length_9 (by decide) (by omega) (by omega) (fun c9 => ?_) (fun c9 => ?_)
  · exfalso; omega
  · refine bV.iload_n G d_P_length_12 rfl ?_
    refine bV.aload_n G d_P_length_13 rfl ?_
    refine bV.getf G cl_P q0 1 h0 (by decide) bw_45 rfl d_P_length_14 ?_
    refine bV.alenN G q2 0 h2 rfl d_P_length_17 ?_
    refine bV.icmp_ltN (tgt := 23) G d_P_length_18 (by decide) (by omega) (by omega) (fun c18 => ?_) (fun c18 => ?_)
    · refine bV.iload_n G d_P_length_23 rfl ?_
      refine bV.aload_n G d_P_length_24 rfl ?_
      refine bV.getf G cl_P q0 3 h0 (by decide) bw_47 rfl d_P_length_25 ?_
      refine bV.icmp_geN (tgt := 53) G d_P_length_28 (by decide) (by omega) (by omega) (fun c28 => ?_) (fun c28 => ?_)
      · obtain rfl : j = ct := by omega
        refine bV.aload_n G d_P_length_53 rfl ?_
        refine bV.getf G cl_P q0 2 h0 (by decide) bw_46 rfl d_P_length_54 ?_
        refine bV.istore_n G (lv' := [(0, .ref a), (1, .int (nI (j))), (2, .int (nI (sz)))]) d_P_length_57 (by decide) rfl rfl ?_
        refine bV.iload_n G d_P_length_58 rfl ?_
        refine bV.aload_n G d_P_length_59 rfl ?_
        refine bV.getf G cl_P q0 1 h0 (by decide) bw_45 rfl d_P_length_60 ?_
        refine bV.iload_n G d_P_length_63 rfl ?_
        refine bV.ialoadN G q2 0 h2 rfl (by omega) (by omega) d_P_length_64 ?_
        refine bV.topi (y := (nI (pcS pl j))) (r7 _ (by omega)) ?_
        refine bV.isubN G d_P_length_65 (by omega) ?_
        exact bV.iretI G E0 rfl rfl (by decide) (by decide) d_P_length_66 ⟨congrArg nI (by omega), rfl⟩
      · refine bV.iload_n G d_P_length_31 rfl ?_
        refine bV.iconst (v := nI 1) G d_P_length_32 (by decide) ?_
        refine bV.iaddN G d_P_length_33 ?_
        refine bV.aload_n G d_P_length_34 rfl ?_
        refine bV.getf G cl_P q0 1 h0 (by decide) bw_45 rfl d_P_length_35 ?_
        refine bV.alenN G q2 0 h2 rfl d_P_length_38 ?_
        refine bV.icmp_geN (tgt := 53) G d_P_length_39 (by decide) (by omega) (by omega) (fun c39 => ?_) (fun c39 => ?_)
        · exfalso; omega
        · refine bV.aload_n G d_P_length_42 rfl ?_
          refine bV.getf G cl_P q0 1 h0 (by decide) bw_45 rfl d_P_length_43 ?_
          refine bV.iload_n G d_P_length_46 rfl ?_
          refine bV.iconst (v := nI 1) G d_P_length_47 (by decide) ?_
          refine bV.iaddN G d_P_length_48 ?_
          refine bV.ialoadN G q2 0 h2 rfl (by omega) (by omega) d_P_length_49 ?_
          refine bV.topi (y := (nI (pcS pl (j + 1)))) (r7 _ (by omega)) ?_
          refine bV.goto (tgt := 57) G d_P_length_50 (by decide) ?_
          refine bV.istore_n G (lv' := [(0, .ref a), (1, .int (nI (j))), (2, .int (nI (pcS pl (j + 1))))]) d_P_length_57 (by decide) rfl rfl ?_
          refine bV.iload_n G d_P_length_58 rfl ?_
          refine bV.aload_n G d_P_length_59 rfl ?_
          refine bV.getf G cl_P q0 1 h0 (by decide) bw_45 rfl d_P_length_60 ?_
          refine bV.iload_n G d_P_length_63 rfl ?_
          refine bV.ialoadN G q2 0 h2 rfl (by omega) (by omega) d_P_length_64 ?_
          refine bV.topi (y := (nI (pcS pl j))) (r7 _ (by omega)) ?_
          refine bV.isubN G d_P_length_65 (by omega) ?_
          exact bV.iretI G E0 rfl rfl (by decide) (by decide) d_P_length_66 ⟨congrArg nI (by omega), rfl⟩
    · exfalso; omega
theorem d_P_openLength_0 : decode b_P_openLength 0 = .ok (.aload_n 0, 1) := by decide +kernel
theorem d_P_openLength_1 : decode b_P_openLength 1 = .ok (.aload_n 0, 1) := by decide +kernel
theorem d_P_openLength_2 : decode b_P_openLength 2 = .ok (.getfield 15, 3) := by decide +kernel
theorem d_P_openLength_5 : decode b_P_openLength 5 = .ok (.invokevirtual 35, 3) := by decide +kernel
theorem d_P_openLength_8 : decode b_P_openLength 8 = .ok (.ireturn, 1) := by decide +kernel
set_option maxRecDepth 20000 in
set_option maxHeartbeats 4000000 in
theorem c_P_openLength {D : va_G} {cI cZ cJ : ClassId} {ws : va_W} {q0 q1 q2 a ai az NI ns : Nat} {P : pc_C} {A : pc_A} (hW : pc_at cI ws q0 q1 q2 a ai az NI ns P) (hR : pc_R NI ns P A)  : bC D bcl (tys3 cI cZ cJ) y_P_openLength (rmL 1 22) ws [.ref a] (bI (fun x ws9 => x = nI (A.2.1 A.1) ∧ ws9 = ws) bno) := by
  obtain ⟨h0, h1, h2, n01, n02, n12⟩ := hW
  obtain ⟨f, st, sz, ct⟩ := P
  obtain ⟨c, pl, pa⟩ := A
  have hR0 := hR
  obtain ⟨e1, r2, r3, r4, r5, r6, r7, r8, r9⟩ := hR
  dsimp only at *
  subst e1
  have hs5 : pcS pl (ct + 1) = pcS pl ct + pl ct := rfl
  refine bC.of (by decide) m_P_openLength.1 (Nat.le_of_ble_eq_true rfl) ?_
  intro Γ G E0
  show bV D bcl Γ 1 ws 0 0 0 [(0, .ref a)] []
  refine bV.aload_n G d_P_openLength_0 rfl ?_
  refine bV.aload_n G d_P_openLength_1 rfl ?_
  refine bV.getf G cl_P q0 3 h0 (by decide) bw_47 rfl d_P_openLength_2 ?_
  refine bV.callVi G m_P_length bw_189 bw_190 bw_188 (c_P_length (ws := ws) (q1 := q1) (q2 := q2) (NI := NI) (ns := ns) (P := (f, st, sz, ct)) (A := (ct, pl, pa)) ⟨h0, h1, h2, n01, n02, n12⟩ hR0 (j := ct) (by first | omega | exact Nat.le_refl _)) q0 h0 rfl rfl rfl rfl ⟨by decide, by decide⟩ ⟨by decide, by decide⟩ (Nat.le_of_ble_eq_true rfl) d_P_openLength_5 (fun x9 ws9 h9 => ?_)
  obtain ⟨rfl, h9e⟩ := h9
  rw [h9e]
  try dsimp only
  exact bV.iretI G E0 rfl rfl (by decide) (by decide) d_P_openLength_8 ⟨rfl, rfl⟩
theorem d_P_at_0 : decode b_P_at 0 = .ok (.iload_n 1, 1) := by decide +kernel
theorem d_P_at_1 : decode b_P_at 1 = .ok (.ifCond .lt 25, 3) := by decide +kernel
theorem d_P_at_4 : decode b_P_at 4 = .ok (.iload_n 1, 1) := by decide +kernel
theorem d_P_at_5 : decode b_P_at 5 = .ok (.aload_n 0, 1) := by decide +kernel
theorem d_P_at_6 : decode b_P_at 6 = .ok (.getfield 28, 3) := by decide +kernel
theorem d_P_at_9 : decode b_P_at 9 = .ok (.arraylength, 1) := by decide +kernel
theorem d_P_at_10 : decode b_P_at 10 = .ok (.if_icmp .ge 16, 3) := by decide +kernel
theorem d_P_at_13 : decode b_P_at 13 = .ok (.iload_n 2, 1) := by decide +kernel
theorem d_P_at_14 : decode b_P_at 14 = .ok (.ifCond .lt 12, 3) := by decide +kernel
theorem d_P_at_17 : decode b_P_at 17 = .ok (.iload_n 2, 1) := by decide +kernel
theorem d_P_at_18 : decode b_P_at 18 = .ok (.aload_n 0, 1) := by decide +kernel
theorem d_P_at_19 : decode b_P_at 19 = .ok (.iload_n 1, 1) := by decide +kernel
theorem d_P_at_20 : decode b_P_at 20 = .ok (.invokevirtual 35, 3) := by decide +kernel
theorem d_P_at_23 : decode b_P_at 23 = .ok (.if_icmp .lt 5, 3) := by decide +kernel
theorem d_P_at_26 : decode b_P_at 26 = .ok (.iconst (-1), 1) := by decide +kernel
theorem d_P_at_27 : decode b_P_at 27 = .ok (.ireturn, 1) := by decide +kernel
theorem d_P_at_28 : decode b_P_at 28 = .ok (.aload_n 0, 1) := by decide +kernel
theorem d_P_at_29 : decode b_P_at 29 = .ok (.getfield 28, 3) := by decide +kernel
theorem d_P_at_32 : decode b_P_at 32 = .ok (.iload_n 1, 1) := by decide +kernel
theorem d_P_at_33 : decode b_P_at 33 = .ok (.iaload, 1) := by decide +kernel
theorem d_P_at_34 : decode b_P_at 34 = .ok (.iload_n 2, 1) := by decide +kernel
theorem d_P_at_35 : decode b_P_at 35 = .ok (.iadd, 1) := by decide +kernel
theorem d_P_at_36 : decode b_P_at 36 = .ok (.istore_n 3, 1) := by decide +kernel
theorem d_P_at_37 : decode b_P_at 37 = .ok (.iload_n 3, 1) := by decide +kernel
theorem d_P_at_38 : decode b_P_at 38 = .ok (.ifCond .lt 21, 3) := by decide +kernel
theorem d_P_at_41 : decode b_P_at 41 = .ok (.iload_n 3, 1) := by decide +kernel
theorem d_P_at_42 : decode b_P_at 42 = .ok (.aload_n 0, 1) := by decide +kernel
theorem d_P_at_43 : decode b_P_at 43 = .ok (.getfield 24, 3) := by decide +kernel
theorem d_P_at_46 : decode b_P_at 46 = .ok (.arraylength, 1) := by decide +kernel
theorem d_P_at_47 : decode b_P_at 47 = .ok (.if_icmp .ge 12, 3) := by decide +kernel
theorem d_P_at_50 : decode b_P_at 50 = .ok (.aload_n 0, 1) := by decide +kernel
theorem d_P_at_51 : decode b_P_at 51 = .ok (.getfield 24, 3) := by decide +kernel
theorem d_P_at_54 : decode b_P_at 54 = .ok (.iload_n 3, 1) := by decide +kernel
theorem d_P_at_55 : decode b_P_at 55 = .ok (.iaload, 1) := by decide +kernel
theorem d_P_at_56 : decode b_P_at 56 = .ok (.goto 4, 3) := by decide +kernel
theorem d_P_at_59 : decode b_P_at 59 = .ok (.iconst (-1), 1) := by decide +kernel
theorem d_P_at_60 : decode b_P_at 60 = .ok (.ireturn, 1) := by decide +kernel
set_option maxRecDepth 20000 in
set_option maxHeartbeats 4000000 in
theorem c_P_at {D : va_G} {cI cZ cJ : ClassId} {ws : va_W} {q0 q1 q2 a ai az NI ns : Nat} {P : pc_C} {A : pc_A} (hW : pc_at cI ws q0 q1 q2 a ai az NI ns P) (hR : pc_R NI ns P A) {j i : Nat} (hj : j ≤ A.1) (hi : i < 2 ^ 31) : bC D bcl (tys3 cI cZ cJ) y_P_at (rmL 1 22) ws [.ref a, .int (nI (j)), .int (nI (i))] (bI (fun x ws9 => x = (if i < A.2.1 j then nI (A.2.2 j i) else (-1)) ∧ ws9 = ws) bno) := by
  obtain ⟨h0, h1, h2, n01, n02, n12⟩ := hW
  obtain ⟨f, st, sz, ct⟩ := P
  obtain ⟨c, pl, pa⟩ := A
  have hR0 := hR
  obtain ⟨e1, r2, r3, r4, r5, r6, r7, r8, r9⟩ := hR
  dsimp only at *
  subst e1
  have hs5 : pcS pl (ct + 1) = pcS pl ct + pl ct := rfl
  refine bC.of (by decide) m_P_at.1 (Nat.le_of_ble_eq_true rfl) ?_
  intro Γ G E0
  show bV D bcl Γ 4 ws 0 0 0 [(0, .ref a), (1, .int (nI (j))), (2, .int (nI (i)))] []
  have hs6 : pcS pl (j + 1) = pcS pl j + pl j := rfl
  have hs7 : pcS pl (j + 1) ≤ pcS pl (ct + 1) := pcS_mono (by omega)
  refine bV.iload_n G d_P_at_0 rfl ?_
  refine bV.if_ltN (tgt := 26) G d_P_at_1 (by decide) (by omega) ?_
  refine bV.iload_n G d_P_at_4 rfl ?_
  refine bV.aload_n G d_P_at_5 rfl ?_
  refine bV.getf G cl_P q0 1 h0 (by decide) bw_45 rfl d_P_at_6 ?_
  refine bV.alenN G q2 0 h2 rfl d_P_at_9 ?_
  refine bV.icmp_geN (tgt := 26) G d_P_at_10 (by decide) (by omega) (by omega) (fun c10 => ?_) (fun c10 => ?_)
  · exfalso; omega
  · refine bV.iload_n G d_P_at_13 rfl ?_
    refine bV.if_ltN (tgt := 26) G d_P_at_14 (by decide) (by omega) ?_
    refine bV.iload_n G d_P_at_17 rfl ?_
    refine bV.aload_n G d_P_at_18 rfl ?_
    refine bV.iload_n G d_P_at_19 rfl ?_
    refine bV.callVi G m_P_length bw_189 bw_190 bw_188 (c_P_length (ws := ws) (q1 := q1) (q2 := q2) (NI := NI) (ns := ns) (P := (f, st, sz, ct)) (A := (ct, pl, pa)) ⟨h0, h1, h2, n01, n02, n12⟩ hR0 (j := j) (by first | omega | exact Nat.le_refl _)) q0 h0 rfl rfl rfl rfl ⟨by decide, by decide⟩ ⟨by decide, by decide⟩ (Nat.le_of_ble_eq_true rfl) d_P_at_20 (fun x9 ws9 h9 => ?_)
    obtain ⟨rfl, h9e⟩ := h9
    rw [h9e]
    try dsimp only
    refine bV.icmp_ltN (tgt := 28) G d_P_at_23 (by decide) (by omega) (by omega) (fun c23 => ?_) (fun c23 => ?_)
    · have hp := pcS_lt (pl := pl) (ct := ct) hj c23
      refine bV.aload_n G d_P_at_28 rfl ?_
      refine bV.getf G cl_P q0 1 h0 (by decide) bw_45 rfl d_P_at_29 ?_
      refine bV.iload_n G d_P_at_32 rfl ?_
      refine bV.ialoadN G q2 0 h2 rfl (by omega) (by omega) d_P_at_33 ?_
      refine bV.topi (y := (nI (pcS pl j))) (r7 _ (by omega)) ?_
      refine bV.iload_n G d_P_at_34 rfl ?_
      refine bV.iaddN G d_P_at_35 ?_
      refine bV.istore_n G (lv' := [(0, .ref a), (1, .int (nI (j))), (2, .int (nI (i))), (3, .int (nI ((pcS pl j) + i)))]) d_P_at_36 (by decide) rfl rfl ?_
      refine bV.iload_n G d_P_at_37 rfl ?_
      refine bV.if_ltN (tgt := 59) G d_P_at_38 (by decide) (by omega) ?_
      refine bV.iload_n G d_P_at_41 rfl ?_
      refine bV.aload_n G d_P_at_42 rfl ?_
      refine bV.getf G cl_P q0 0 h0 (by decide) bw_44 rfl d_P_at_43 ?_
      refine bV.alenN G q1 0 h1 rfl d_P_at_46 ?_
      refine bV.icmp_geN (tgt := 59) G d_P_at_47 (by decide) (by omega) (by omega) (fun c47 => ?_) (fun c47 => ?_)
      · exfalso; omega
      · refine bV.aload_n G d_P_at_50 rfl ?_
        refine bV.getf G cl_P q0 0 h0 (by decide) bw_44 rfl d_P_at_51 ?_
        refine bV.iload_n G d_P_at_54 rfl ?_
        refine bV.ialoadN G q1 0 h1 rfl (by omega) (by omega) d_P_at_55 ?_
        refine bV.topi (y := (nI (pa j i))) (r8 j i (by omega) c23) ?_
        refine bV.goto (tgt := 60) G d_P_at_56 (by decide) ?_
        exact bV.iretI G E0 rfl rfl (by decide) (by decide) d_P_at_60 ⟨(if_pos c23).symm, rfl⟩
    · refine bV.iconst (v := (-1)) G d_P_at_26 (by decide) ?_
      exact bV.iretI G E0 rfl rfl (by decide) (by decide) d_P_at_27 ⟨(if_neg c23).symm, rfl⟩
theorem d_P_openAt_0 : decode b_P_openAt 0 = .ok (.aload_n 0, 1) := by decide +kernel
theorem d_P_openAt_1 : decode b_P_openAt 1 = .ok (.aload_n 0, 1) := by decide +kernel
theorem d_P_openAt_2 : decode b_P_openAt 2 = .ok (.getfield 15, 3) := by decide +kernel
theorem d_P_openAt_5 : decode b_P_openAt 5 = .ok (.iload_n 1, 1) := by decide +kernel
theorem d_P_openAt_6 : decode b_P_openAt 6 = .ok (.invokevirtual 39, 3) := by decide +kernel
theorem d_P_openAt_9 : decode b_P_openAt 9 = .ok (.ireturn, 1) := by decide +kernel
set_option maxRecDepth 20000 in
set_option maxHeartbeats 4000000 in
theorem c_P_openAt {D : va_G} {cI cZ cJ : ClassId} {ws : va_W} {q0 q1 q2 a ai az NI ns : Nat} {P : pc_C} {A : pc_A} (hW : pc_at cI ws q0 q1 q2 a ai az NI ns P) (hR : pc_R NI ns P A) {i : Nat} (hi : i < 2 ^ 31) : bC D bcl (tys3 cI cZ cJ) y_P_openAt (rmL 2 45) ws [.ref a, .int (nI (i))] (bI (fun x ws9 => x = (if i < A.2.1 A.1 then nI (A.2.2 A.1 i) else (-1)) ∧ ws9 = ws) bno) := by
  obtain ⟨h0, h1, h2, n01, n02, n12⟩ := hW
  obtain ⟨f, st, sz, ct⟩ := P
  obtain ⟨c, pl, pa⟩ := A
  have hR0 := hR
  obtain ⟨e1, r2, r3, r4, r5, r6, r7, r8, r9⟩ := hR
  dsimp only at *
  subst e1
  have hs5 : pcS pl (ct + 1) = pcS pl ct + pl ct := rfl
  refine bC.of (by decide) m_P_openAt.1 (Nat.le_of_ble_eq_true rfl) ?_
  intro Γ G E0
  show bV D bcl Γ 2 ws 0 0 0 [(0, .ref a), (1, .int (nI (i)))] []
  refine bV.aload_n G d_P_openAt_0 rfl ?_
  refine bV.aload_n G d_P_openAt_1 rfl ?_
  refine bV.getf G cl_P q0 3 h0 (by decide) bw_47 rfl d_P_openAt_2 ?_
  refine bV.iload_n G d_P_openAt_5 rfl ?_
  refine bV.callVi G m_P_at bw_221 bw_222 bw_220 (c_P_at (ws := ws) (q1 := q1) (q2 := q2) (NI := NI) (ns := ns) (P := (f, st, sz, ct)) (A := (ct, pl, pa)) ⟨h0, h1, h2, n01, n02, n12⟩ hR0 (j := ct) (i := i) (by first | omega | exact Nat.le_refl _) (by omega)) q0 h0 rfl rfl rfl rfl ⟨by decide, by decide⟩ ⟨by decide, by decide⟩ (Nat.le_of_ble_eq_true rfl) d_P_openAt_6 (fun x9 ws9 h9 => ?_)
  obtain ⟨rfl, h9e⟩ := h9
  rw [h9e]
  try dsimp only
  exact bV.iretI G E0 rfl rfl (by decide) (by decide) d_P_openAt_9 ⟨rfl, rfl⟩
