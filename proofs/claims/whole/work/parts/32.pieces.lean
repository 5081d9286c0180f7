/-! ===== Pieces: what writes, and loops ===== -/
theorem bs_same {ws : va_W} {q : Nat} {z : Nat × va_E} (h : ws[q]? = some z) : ws.set q z = ws := by
  obtain ⟨hl, rfl⟩ := List.getElem?_eq_some_iff.mp h
  exact List.set_getElem_self hl
def nextS (s b : Int32) : Int32 := (((s ^^^ b) <<< ((nI (31)) &&& 31)) ||| ((s ^^^ b).toUInt32 >>> ((nI (1)).toUInt32 &&& Int32.toUInt32 31)).toInt32) * (-1028477387)
def byteS (s : Int32) (i : Nat) : Int32 := ((s).toUInt32 >>> ((nI (24 - 8 * i)).toUInt32 &&& Int32.toUInt32 31)).toInt32 &&& (nI (255))
def sumS (g : Nat → Nat) (s : Int32) : Nat → Int32
  | 0 => s
  | n + 1 => nextS (sumS g s n) (nI (g n))
theorem d_S_nextSum_0 : decode b_S_nextSum 0 = .ok (.iload_n 0, 1) := by decide +kernel
theorem d_S_nextSum_1 : decode b_S_nextSum 1 = .ok (.iload_n 1, 1) := by decide +kernel
theorem d_S_nextSum_2 : decode b_S_nextSum 2 = .ok (.ixor, 1) := by decide +kernel
theorem d_S_nextSum_3 : decode b_S_nextSum 3 = .ok (.istore_n 2, 1) := by decide +kernel
theorem d_S_nextSum_4 : decode b_S_nextSum 4 = .ok (.iload_n 2, 1) := by decide +kernel
theorem d_S_nextSum_5 : decode b_S_nextSum 5 = .ok (.bipush 31, 2) := by decide +kernel
theorem d_S_nextSum_7 : decode b_S_nextSum 7 = .ok (.ishl, 1) := by decide +kernel
theorem d_S_nextSum_8 : decode b_S_nextSum 8 = .ok (.iload_n 2, 1) := by decide +kernel
theorem d_S_nextSum_9 : decode b_S_nextSum 9 = .ok (.iconst 1, 1) := by decide +kernel
theorem d_S_nextSum_10 : decode b_S_nextSum 10 = .ok (.iushr, 1) := by decide +kernel
theorem d_S_nextSum_11 : decode b_S_nextSum 11 = .ok (.ior, 1) := by decide +kernel
theorem d_S_nextSum_12 : decode b_S_nextSum 12 = .ok (.ldc 240, 2) := by decide +kernel
theorem d_S_nextSum_14 : decode b_S_nextSum 14 = .ok (.imul, 1) := by decide +kernel
theorem d_S_nextSum_15 : decode b_S_nextSum 15 = .ok (.ireturn, 1) := by decide +kernel
set_option maxRecDepth 20000 in
set_option maxHeartbeats 4000000 in
theorem c_S_nextSum {D : va_G} {cI cZ cJ : ClassId} {ws : va_W} {s b : Int32} : bC D bcl (tys3 cI cZ cJ) y_S_nextSum (rmL 0 0) ws [.int (s), .int (b)] (bI (fun x ws9 => x = nextS s b ∧ ws9 = ws) bno) := by
  refine bC.of (by decide) m_S_nextSum.1 (Nat.le_of_ble_eq_true rfl) ?_
  intro Γ G E0
  show bV D bcl Γ 3 ws 0 0 0 [(0, .int (s)), (1, .int (b))] []
  refine bV.iload_n G d_S_nextSum_0 rfl ?_
  refine bV.iload_n G d_S_nextSum_1 rfl ?_
  refine bV.ixor G d_S_nextSum_2 ?_
  refine bV.istore_n G (lv' := [(0, .int (s)), (1, .int (b)), (2, .int (s ^^^ b))]) d_S_nextSum_3 (by decide) rfl rfl ?_
  refine bV.iload_n G d_S_nextSum_4 rfl ?_
  refine bV.bipush (v := nI 31) G d_S_nextSum_5 (by decide) ?_
  refine bV.ishl G d_S_nextSum_7 ?_
  refine bV.iload_n G d_S_nextSum_8 rfl ?_
  refine bV.iconst (v := nI 1) G d_S_nextSum_9 (by decide) ?_
  refine bV.iushr G d_S_nextSum_10 ?_
  refine bV.ior G d_S_nextSum_11 ?_
  refine bV.ldc G d_S_nextSum_12 bw_338 ?_
  refine bV.imul G d_S_nextSum_14 ?_
  exact bV.iretI G E0 rfl rfl (by decide) (by decide) d_S_nextSum_15 ⟨rfl, rfl⟩
theorem d_S_byteOfSum_0 : decode b_S_byteOfSum 0 = .ok (.iload_n 0, 1) := by decide +kernel
theorem d_S_byteOfSum_1 : decode b_S_byteOfSum 1 = .ok (.bipush 24, 2) := by decide +kernel
theorem d_S_byteOfSum_3 : decode b_S_byteOfSum 3 = .ok (.bipush 8, 2) := by decide +kernel
theorem d_S_byteOfSum_5 : decode b_S_byteOfSum 5 = .ok (.iload_n 1, 1) := by decide +kernel
theorem d_S_byteOfSum_6 : decode b_S_byteOfSum 6 = .ok (.imul, 1) := by decide +kernel
theorem d_S_byteOfSum_7 : decode b_S_byteOfSum 7 = .ok (.isub, 1) := by decide +kernel
theorem d_S_byteOfSum_8 : decode b_S_byteOfSum 8 = .ok (.iushr, 1) := by decide +kernel
theorem d_S_byteOfSum_9 : decode b_S_byteOfSum 9 = .ok (.sipush 255, 3) := by decide +kernel
theorem d_S_byteOfSum_12 : decode b_S_byteOfSum 12 = .ok (.iand, 1) := by decide +kernel
theorem d_S_byteOfSum_13 : decode b_S_byteOfSum 13 = .ok (.ireturn, 1) := by decide +kernel
set_option maxRecDepth 20000 in
set_option maxHeartbeats 4000000 in
theorem c_S_byteOfSum {D : va_G} {cI cZ cJ : ClassId} {ws : va_W} {s : Int32} {i : Nat} (hi : i < 4) : bC D bcl (tys3 cI cZ cJ) y_S_byteOfSum (rmL 0 0) ws [.int (s), .int (nI (i))] (bI (fun x ws9 => x = byteS s i ∧ ws9 = ws) bno) := by
  refine bC.of (by decide) m_S_byteOfSum.1 (Nat.le_of_ble_eq_true rfl) ?_
  intro Γ G E0
  show bV D bcl Γ 2 ws 0 0 0 [(0, .int (s)), (1, .int (nI (i)))] []
  refine bV.iload_n G d_S_byteOfSum_0 rfl ?_
  refine bV.bipush (v := nI 24) G d_S_byteOfSum_1 (by decide) ?_
  refine bV.bipush (v := nI 8) G d_S_byteOfSum_3 (by decide) ?_
  refine bV.iload_n G d_S_byteOfSum_5 rfl ?_
  refine bV.imulN G d_S_byteOfSum_6 ?_
  refine bV.isubN G d_S_byteOfSum_7 (by omega) ?_
  refine bV.iushr G d_S_byteOfSum_8 ?_
  refine bV.sipush (v := nI 255) G d_S_byteOfSum_9 (by decide) ?_
  refine bV.iand G d_S_byteOfSum_12 ?_
  exact bV.iretI G E0 rfl rfl (by decide) (by decide) d_S_byteOfSum_13 ⟨rfl, rfl⟩
theorem d_P_add_0 : decode b_P_add 0 = .ok (.aload_n 0, 1) := by decide +kernel
theorem d_P_add_1 : decode b_P_add 1 = .ok (.getfield 9, 3) := by decide +kernel
theorem d_P_add_4 : decode b_P_add 4 = .ok (.ifCond .lt 35, 3) := by decide +kernel
theorem d_P_add_7 : decode b_P_add 7 = .ok (.aload_n 0, 1) := by decide +kernel
theorem d_P_add_8 : decode b_P_add 8 = .ok (.getfield 9, 3) := by decide +kernel
theorem d_P_add_11 : decode b_P_add 11 = .ok (.aload_n 0, 1) := by decide +kernel
theorem d_P_add_12 : decode b_P_add 12 = .ok (.getfield 24, 3) := by decide +kernel
theorem d_P_add_15 : decode b_P_add 15 = .ok (.arraylength, 1) := by decide +kernel
theorem d_P_add_16 : decode b_P_add 16 = .ok (.if_icmp .ge 23, 3) := by decide +kernel
theorem d_P_add_19 : decode b_P_add 19 = .ok (.aload_n 0, 1) := by decide +kernel
theorem d_P_add_20 : decode b_P_add 20 = .ok (.getfield 24, 3) := by decide +kernel
theorem d_P_add_23 : decode b_P_add 23 = .ok (.aload_n 0, 1) := by decide +kernel
theorem d_P_add_24 : decode b_P_add 24 = .ok (.getfield 9, 3) := by decide +kernel
theorem d_P_add_27 : decode b_P_add 27 = .ok (.iload_n 1, 1) := by decide +kernel
theorem d_P_add_28 : decode b_P_add 28 = .ok (.iastore, 1) := by decide +kernel
theorem d_P_add_29 : decode b_P_add 29 = .ok (.aload_n 0, 1) := by decide +kernel
theorem d_P_add_30 : decode b_P_add 30 = .ok (.dup, 1) := by decide +kernel
theorem d_P_add_31 : decode b_P_add 31 = .ok (.getfield 9, 3) := by decide +kernel
theorem d_P_add_34 : decode b_P_add 34 = .ok (.iconst 1, 1) := by decide +kernel
theorem d_P_add_35 : decode b_P_add 35 = .ok (.iadd, 1) := by decide +kernel
theorem d_P_add_36 : decode b_P_add 36 = .ok (.putfield 9, 3) := by decide +kernel
theorem d_P_add_39 : decode b_P_add 39 = .ok (.return_, 1) := by decide +kernel
set_option maxRecDepth 20000 in
set_option maxHeartbeats 4000000 in
theorem c_P_add {D : va_G} {cI cZ cJ : ClassId} {ws : va_W} {q0 q1 q2 a ai az NI ns : Nat} {P : pc_C} {A : pc_A} (hW : pc_at cI ws q0 q1 q2 a ai az NI ns P) (hR : pc_R NI ns P A) {x : Nat} (hx : P.2.2.1 < NI) : bC D bcl (tys3 cI cZ cJ) y_P_add (rmL 0 0) ws [.ref a, .int (nI (x))] (bO (fun ws9 => ws9 = pc_put cI ws q0 q1 q2 a ai az NI ns (upd P.1 P.2.2.1 (nI x), P.2.1, P.2.2.1 + 1, P.2.2.2)) bno) := by
  obtain ⟨h0, h1, h2, n01, n02, n12⟩ := hW
  obtain ⟨f, st, sz, ct⟩ := P
  obtain ⟨c, pl, pa⟩ := A
  have hR0 := hR
  obtain ⟨e1, r2, r3, r4, r5, r6, r7, r8, r9⟩ := hR
  dsimp only at *
  subst e1
  have hs5 : pcS pl (ct + 1) = pcS pl ct + pl ct := rfl
  refine bC.of (by decide) m_P_add.1 (Nat.le_of_ble_eq_true rfl) ?_
  intro Γ G E0
  show bV D bcl Γ 2 ws 0 0 0 [(0, .ref a), (1, .int (nI (x)))] []
  refine bV.aload_n G d_P_add_0 rfl ?_
  refine bV.getf G cl_P q0 2 h0 (by decide) bw_46 rfl d_P_add_1 ?_
  refine bV.if_ltN (tgt := 39) G d_P_add_4 (by decide) (by omega) ?_
  refine bV.aload_n G d_P_add_7 rfl ?_
  refine bV.getf G cl_P q0 2 h0 (by decide) bw_46 rfl d_P_add_8 ?_
  refine bV.aload_n G d_P_add_11 rfl ?_
  refine bV.getf G cl_P q0 0 h0 (by decide) bw_44 rfl d_P_add_12 ?_
  refine bV.alenN G q1 0 h1 rfl d_P_add_15 ?_
  refine bV.icmp_geN (tgt := 39) G d_P_add_16 (by decide) (by omega) (by omega) (fun c16 => ?_) (fun c16 => ?_)
  · exfalso; omega
  · refine bV.aload_n G d_P_add_19 rfl ?_
    refine bV.getf G cl_P q0 0 h0 (by decide) bw_44 rfl d_P_add_20 ?_
    refine bV.aload_n G d_P_add_23 rfl ?_
    refine bV.getf G cl_P q0 2 h0 (by decide) bw_46 rfl d_P_add_24 ?_
    refine bV.iload_n G d_P_add_27 rfl ?_
    refine bV.iastoreN G (ws' := (ws.set q1 (ai, .inl (cI, NI, .inl (upd f sz ((nI (x)))))))) q1 0 h1 rfl (by omega) (by omega) d_P_add_28 rfl ?_
    have g1_q0 := bs_ne (x := (ai, .inl (cI, NI, .inl (upd f sz ((nI (x))))))) (show q1 ≠ q0 from by omega) h0
    have g1_q1 := bs_eq (x := (ai, .inl (cI, NI, .inl (upd f sz ((nI (x))))))) h1
    have g1_q2 := bs_ne (x := (ai, .inl (cI, NI, .inl (upd f sz ((nI (x))))))) (show q1 ≠ q2 from by omega) h2
    refine bV.aload_n G d_P_add_29 rfl ?_
    refine bV.dup G d_P_add_30 rfl ?_
    refine bV.getf G cl_P q0 2 g1_q0 (by decide) bw_46 rfl d_P_add_31 ?_
    refine bV.iconst (v := nI 1) G d_P_add_34 (by decide) ?_
    refine bV.iaddN G d_P_add_35 ?_
    refine bV.putf G (ws' := ((ws.set q1 (ai, .inl (cI, NI, .inl (upd f sz ((nI (x))))))).set q0 (a, .inr (2, [.ref ai, .ref az, .int (nI (sz + 1)), .int (nI (ct))])))) cl_P q0 2 g1_q0 (by decide) bw_46 rfl rfl rfl (Nat.le_of_ble_eq_true rfl) d_P_add_36 rfl ?_
    have g2_q0 := bs_eq (x := (a, .inr (2, [.ref ai, .ref az, .int (nI (sz + 1)), .int (nI (ct))]))) g1_q0
    have g2_q1 := bs_ne (x := (a, .inr (2, [.ref ai, .ref az, .int (nI (sz + 1)), .int (nI (ct))]))) (show q0 ≠ q1 from by omega) g1_q1
    have g2_q2 := bs_ne (x := (a, .inr (2, [.ref ai, .ref az, .int (nI (sz + 1)), .int (nI (ct))]))) (show q0 ≠ q2 from by omega) g1_q2
    exact bV.vretO G E0 rfl (by decide) (by decide) d_P_add_39 (by unfold pc_put; rw [bs_same (bs_ne n12 h2)])
theorem d_P_close_0 : decode b_P_close 0 = .ok (.aload_n 0, 1) := by decide +kernel
theorem d_P_close_1 : decode b_P_close 1 = .ok (.getfield 15, 3) := by decide +kernel
theorem d_P_close_4 : decode b_P_close 4 = .ok (.ifCond .lt 17, 3) := by decide +kernel
theorem d_P_close_7 : decode b_P_close 7 = .ok (.aload_n 0, 1) := by decide +kernel
theorem d_P_close_8 : decode b_P_close 8 = .ok (.getfield 15, 3) := by decide +kernel
theorem d_P_close_11 : decode b_P_close 11 = .ok (.aload_n 0, 1) := by decide +kernel
theorem d_P_close_12 : decode b_P_close 12 = .ok (.getfield 28, 3) := by decide +kernel
theorem d_P_close_15 : decode b_P_close 15 = .ok (.arraylength, 1) := by decide +kernel
theorem d_P_close_16 : decode b_P_close 16 = .ok (.iconst 1, 1) := by decide +kernel
theorem d_P_close_17 : decode b_P_close 17 = .ok (.isub, 1) := by decide +kernel
theorem d_P_close_18 : decode b_P_close 18 = .ok (.if_icmp .lt 5, 3) := by decide +kernel
theorem d_P_close_21 : decode b_P_close 21 = .ok (.iconst (-1), 1) := by decide +kernel
theorem d_P_close_22 : decode b_P_close 22 = .ok (.ireturn, 1) := by decide +kernel
theorem d_P_close_23 : decode b_P_close 23 = .ok (.aload_n 0, 1) := by decide +kernel
theorem d_P_close_24 : decode b_P_close 24 = .ok (.dup, 1) := by decide +kernel
theorem d_P_close_25 : decode b_P_close 25 = .ok (.getfield 15, 3) := by decide +kernel
theorem d_P_close_28 : decode b_P_close 28 = .ok (.iconst 1, 1) := by decide +kernel
theorem d_P_close_29 : decode b_P_close 29 = .ok (.iadd, 1) := by decide +kernel
theorem d_P_close_30 : decode b_P_close 30 = .ok (.putfield 15, 3) := by decide +kernel
theorem d_P_close_33 : decode b_P_close 33 = .ok (.aload_n 0, 1) := by decide +kernel
theorem d_P_close_34 : decode b_P_close 34 = .ok (.getfield 28, 3) := by decide +kernel
theorem d_P_close_37 : decode b_P_close 37 = .ok (.aload_n 0, 1) := by decide +kernel
theorem d_P_close_38 : decode b_P_close 38 = .ok (.getfield 15, 3) := by decide +kernel
theorem d_P_close_41 : decode b_P_close 41 = .ok (.aload_n 0, 1) := by decide +kernel
theorem d_P_close_42 : decode b_P_close 42 = .ok (.getfield 9, 3) := by decide +kernel
theorem d_P_close_45 : decode b_P_close 45 = .ok (.iastore, 1) := by decide +kernel
theorem d_P_close_46 : decode b_P_close 46 = .ok (.aload_n 0, 1) := by decide +kernel
theorem d_P_close_47 : decode b_P_close 47 = .ok (.getfield 15, 3) := by decide +kernel
theorem d_P_close_50 : decode b_P_close 50 = .ok (.iconst 1, 1) := by decide +kernel
theorem d_P_close_51 : decode b_P_close 51 = .ok (.isub, 1) := by decide +kernel
theorem d_P_close_52 : decode b_P_close 52 = .ok (.ireturn, 1) := by decide +kernel
set_option maxRecDepth 20000 in
set_option maxHeartbeats 4000000 in
theorem c_P_close {D : va_G} {cI cZ cJ : ClassId} {ws : va_W} {q0 q1 q2 a ai az NI ns : Nat} {P : pc_C} {A : pc_A} (hW : pc_at cI ws q0 q1 q2 a ai az NI ns P) (hR : pc_R NI ns P A) (hx : A.1 + 1 < ns) : bC D bcl (tys3 cI cZ cJ) y_P_close (rmL 0 0) ws [.ref a] (bI (fun x ws9 => x = nI A.1 ∧ ws9 = pc_put cI ws q0 q1 q2 a ai az NI ns (P.1, upd P.2.1 (P.2.2.2 + 1) (nI P.2.2.1), P.2.2.1, P.2.2.2 + 1)) bno) := by
  obtain ⟨h0, h1, h2, n01, n02, n12⟩ := hW
  obtain ⟨f, st, sz, ct⟩ := P
  obtain ⟨c, pl, pa⟩ := A
  have hR0 := hR
  obtain ⟨e1, r2, r3, r4, r5, r6, r7, r8, r9⟩ := hR
  dsimp only at *
  subst e1
  have hs5 : pcS pl (ct + 1) = pcS pl ct + pl ct := rfl
  refine bC.of (by decide) m_P_close.1 (Nat.le_of_ble_eq_true rfl) ?_
  intro Γ G E0
  show bV D bcl Γ 1 ws 0 0 0 [(0, .ref a)] []
  refine bV.aload_n G d_P_close_0 rfl ?_
  refine bV.getf G cl_P q0 3 h0 (by decide) bw_47 rfl d_P_close_1 ?_
  refine bV.if_ltN (tgt := 21) G d_P_close_4 (by decide) (by omega) ?_
  refine bV.aload_n G d_P_close_7 rfl ?_
  refine bV.getf G cl_P q0 3 h0 (by decide) bw_47 rfl d_P_close_8 ?_
  refine bV.aload_n G d_P_close_11 rfl ?_
  refine bV.getf G cl_P q0 1 h0 (by decide) bw_45 rfl d_P_close_12 ?_
  refine bV.alenN G q2 0 h2 rfl d_P_close_15 ?_
  refine bV.iconst (v := nI 1) G d_P_close_16 (by decide) ?_
  refine bV.isubN G d_P_close_17 (by omega) ?_
  refine bV.icmp_ltN (tgt := 23) G d_P_close_18 (by decide) (by omega) (by omega) (fun c18 => ?_) (fun c18 => ?_)
  · refine bV.aload_n G d_P_close_23 rfl ?_
    refine bV.dup G d_P_close_24 rfl ?_
    refine bV.getf G cl_P q0 3 h0 (by decide) bw_47 rfl d_P_close_25 ?_
    refine bV.iconst (v := nI 1) G d_P_close_28 (by decide) ?_
    refine bV.iaddN G d_P_close_29 ?_
    refine bV.putf G (ws' := (ws.set q0 (a, .inr (2, [.ref ai, .ref az, .int (nI (sz)), .int (nI (ct + 1))])))) cl_P q0 3 h0 (by decide) bw_47 rfl rfl rfl (Nat.le_of_ble_eq_true rfl) d_P_close_30 rfl ?_
    have g1_q0 := bs_eq (x := (a, .inr (2, [.ref ai, .ref az, .int (nI (sz)), .int (nI (ct + 1))]))) h0
    have g1_q1 := bs_ne (x := (a, .inr (2, [.ref ai, .ref az, .int (nI (sz)), .int (nI (ct + 1))]))) (show q0 ≠ q1 from by omega) h1
    have g1_q2 := bs_ne (x := (a, .inr (2, [.ref ai, .ref az, .int (nI (sz)), .int (nI (ct + 1))]))) (show q0 ≠ q2 from by omega) h2
    refine bV.aload_n G d_P_close_33 rfl ?_
    refine bV.getf G cl_P q0 1 g1_q0 (by decide) bw_45 rfl d_P_close_34 ?_
    refine bV.aload_n G d_P_close_37 rfl ?_
    refine bV.getf G cl_P q0 3 g1_q0 (by decide) bw_47 rfl d_P_close_38 ?_
    refine bV.aload_n G d_P_close_41 rfl ?_
    refine bV.getf G cl_P q0 2 g1_q0 (by decide) bw_46 rfl d_P_close_42 ?_
    refine bV.iastoreN G (ws' := ((ws.set q0 (a, .inr (2, [.ref ai, .ref az, .int (nI (sz)), .int (nI (ct + 1))]))).set q2 (az, .inl (cI, ns, .inl (upd st (ct + 1) ((nI (sz)))))))) q2 0 g1_q2 rfl (by omega) (by omega) d_P_close_45 rfl ?_
    have g2_q0 := bs_ne (x := (az, .inl (cI, ns, .inl (upd st (ct + 1) ((nI (sz))))))) (show q2 ≠ q0 from by omega) g1_q0
    have g2_q1 := bs_ne (x := (az, .inl (cI, ns, .inl (upd st (ct + 1) ((nI (sz))))))) (show q2 ≠ q1 from by omega) g1_q1
    have g2_q2 := bs_eq (x := (az, .inl (cI, ns, .inl (upd st (ct + 1) ((nI (sz))))))) g1_q2
    refine bV.aload_n G d_P_close_46 rfl ?_
    refine bV.getf G cl_P q0 3 g2_q0 (by decide) bw_47 rfl d_P_close_47 ?_
    refine bV.iconst (v := nI 1) G d_P_close_50 (by decide) ?_
    refine bV.isubN G d_P_close_51 (by omega) ?_
    exact bV.iretI G E0 rfl rfl (by decide) (by decide) d_P_close_52 ⟨congrArg nI (by omega), by unfold pc_put; rw [bs_same h1, List.set_comm _ _ n02]⟩
  · exfalso; omega
theorem d_P_clearOpen_0 : decode b_P_clearOpen 0 = .ok (.aload_n 0, 1) := by decide +kernel
theorem d_P_clearOpen_1 : decode b_P_clearOpen 1 = .ok (.dup, 1) := by decide +kernel
theorem d_P_clearOpen_2 : decode b_P_clearOpen 2 = .ok (.getfield 9, 3) := by decide +kernel
theorem d_P_clearOpen_5 : decode b_P_clearOpen 5 = .ok (.aload_n 0, 1) := by decide +kernel
theorem d_P_clearOpen_6 : decode b_P_clearOpen 6 = .ok (.invokevirtual 42, 3) := by decide +kernel
theorem d_P_clearOpen_9 : decode b_P_clearOpen 9 = .ok (.isub, 1) := by decide +kernel
theorem d_P_clearOpen_10 : decode b_P_clearOpen 10 = .ok (.putfield 9, 3) := by decide +kernel
theorem d_P_clearOpen_13 : decode b_P_clearOpen 13 = .ok (.return_, 1) := by decide +kernel
set_option maxRecDepth 20000 in
set_option maxHeartbeats 4000000 in
theorem c_P_clearOpen {D : va_G} {cI cZ cJ : ClassId} {ws : va_W} {q0 q1 q2 a ai az NI ns : Nat} {P : pc_C} {A : pc_A} (hW : pc_at cI ws q0 q1 q2 a ai az NI ns P) (hR : pc_R NI ns P A)  : bC D bcl (tys3 cI cZ cJ) y_P_clearOpen (rmL 2 42) ws [.ref a] (bO (fun ws9 => ws9 = pc_put cI ws q0 q1 q2 a ai az NI ns (P.1, P.2.1, P.2.2.1 - A.2.1 A.1, P.2.2.2)) bno) := by
  obtain ⟨h0, h1, h2, n01, n02, n12⟩ := hW
  obtain ⟨f, st, sz, ct⟩ := P
  obtain ⟨c, pl, pa⟩ := A
  have hR0 := hR
  obtain ⟨e1, r2, r3, r4, r5, r6, r7, r8, r9⟩ := hR
  dsimp only at *
  subst e1
  have hs5 : pcS pl (ct + 1) = pcS pl ct + pl ct := rfl
  refine bC.of (by decide) m_P_clearOpen.1 (Nat.le_of_ble_eq_true rfl) ?_
  intro Γ G E0
  show bV D bcl Γ 1 ws 0 0 0 [(0, .ref a)] []
  refine bV.aload_n G d_P_clearOpen_0 rfl ?_
  refine bV.dup G d_P_clearOpen_1 rfl ?_
  refine bV.getf G cl_P q0 2 h0 (by decide) bw_46 rfl d_P_clearOpen_2 ?_
  refine bV.aload_n G d_P_clearOpen_5 rfl ?_
  refine bV.callVi G m_P_openLength bw_185 bw_186 bw_219 (c_P_openLength (ws := ws) (q1 := q1) (q2 := q2) (NI := NI) (ns := ns) (P := (f, st, sz, ct)) (A := (ct, pl, pa)) ⟨h0, h1, h2, n01, n02, n12⟩ hR0) q0 h0 rfl rfl rfl rfl ⟨by decide, by decide⟩ ⟨by decide, by decide⟩ (Nat.le_of_ble_eq_true rfl) d_P_clearOpen_6 (fun x9 ws9 h9 => ?_)
  obtain ⟨rfl, h9e⟩ := h9
  rw [h9e]
  try dsimp only
  refine bV.isubN G d_P_clearOpen_9 (by omega) ?_
  refine bV.putf G (ws' := (ws.set q0 (a, .inr (2, [.ref ai, .ref az, .int (nI (sz - (pl ct))), .int (nI (ct))])))) cl_P q0 2 h0 (by decide) bw_46 rfl rfl rfl (Nat.le_of_ble_eq_true rfl) d_P_clearOpen_10 rfl ?_
  have g1_q0 := bs_eq (x := (a, .inr (2, [.ref ai, .ref az, .int (nI (sz - (pl ct))), .int (nI (ct))]))) h0
  have g1_q1 := bs_ne (x := (a, .inr (2, [.ref ai, .ref az, .int (nI (sz - (pl ct))), .int (nI (ct))]))) (show q0 ≠ q1 from by omega) h1
  have g1_q2 := bs_ne (x := (a, .inr (2, [.ref ai, .ref az, .int (nI (sz - (pl ct))), .int (nI (ct))]))) (show q0 ≠ q2 from by omega) h2
  exact bV.vretO G E0 rfl (by decide) (by decide) d_P_clearOpen_13 (by unfold pc_put; rw [bs_same h1, bs_same h2])
theorem d_P_clear_0 : decode b_P_clear 0 = .ok (.aload_n 0, 1) := by decide +kernel
theorem d_P_clear_1 : decode b_P_clear 1 = .ok (.iconst 0, 1) := by decide +kernel
theorem d_P_clear_2 : decode b_P_clear 2 = .ok (.putfield 9, 3) := by decide +kernel
theorem d_P_clear_5 : decode b_P_clear 5 = .ok (.aload_n 0, 1) := by decide +kernel
theorem d_P_clear_6 : decode b_P_clear 6 = .ok (.iconst 0, 1) := by decide +kernel
theorem d_P_clear_7 : decode b_P_clear 7 = .ok (.putfield 15, 3) := by decide +kernel
theorem d_P_clear_10 : decode b_P_clear 10 = .ok (.return_, 1) := by decide +kernel
set_option maxRecDepth 20000 in
set_option maxHeartbeats 4000000 in
theorem c_P_clear {D : va_G} {cI cZ cJ : ClassId} {ws : va_W} {q0 q1 q2 a ai az NI ns : Nat} {P : pc_C} {A : pc_A} (hW : pc_at cI ws q0 q1 q2 a ai az NI ns P) (hR : pc_R NI ns P A)  : bC D bcl (tys3 cI cZ cJ) y_P_clear (rmL 0 0) ws [.ref a] (bO (fun ws9 => ws9 = pc_put cI ws q0 q1 q2 a ai az NI ns (P.1, P.2.1, 0, 0)) bno) := by
  obtain ⟨h0, h1, h2, n01, n02, n12⟩ := hW
  obtain ⟨f, st, sz, ct⟩ := P
  obtain ⟨c, pl, pa⟩ := A
  have hR0 := hR
  obtain ⟨e1, r2, r3, r4, r5, r6, r7, r8, r9⟩ := hR
  dsimp only at *
  subst e1
  have hs5 : pcS pl (ct + 1) = pcS pl ct + pl ct := rfl
  refine bC.of (by decide) m_P_clear.1 (Nat.le_of_ble_eq_true rfl) ?_
  intro Γ G E0
  show bV D bcl Γ 1 ws 0 0 0 [(0, .ref a)] []
  refine bV.aload_n G d_P_clear_0 rfl ?_
  refine bV.iconst (v := nI 0) G d_P_clear_1 (by decide) ?_
  refine bV.putf G (ws' := (ws.set q0 (a, .inr (2, [.ref ai, .ref az, .int (nI (0)), .int (nI (ct))])))) cl_P q0 2 h0 (by decide) bw_46 rfl rfl rfl (Nat.le_of_ble_eq_true rfl) d_P_clear_2 rfl ?_
  have g1_q0 := bs_eq (x := (a, .inr (2, [.ref ai, .ref az, .int (nI (0)), .int (nI (ct))]))) h0
  have g1_q1 := bs_ne (x := (a, .inr (2, [.ref ai, .ref az, .int (nI (0)), .int (nI (ct))]))) (show q0 ≠ q1 from by omega) h1
  have g1_q2 := bs_ne (x := (a, .inr (2, [.ref ai, .ref az, .int (nI (0)), .int (nI (ct))]))) (show q0 ≠ q2 from by omega) h2
  refine bV.aload_n G d_P_clear_5 rfl ?_
  refine bV.iconst (v := nI 0) G d_P_clear_6 (by decide) ?_
  refine bV.putf G (ws' := ((ws.set q0 (a, .inr (2, [.ref ai, .ref az, .int (nI (0)), .int (nI (ct))]))).set q0 (a, .inr (2, [.ref ai, .ref az, .int (nI (0)), .int (nI (0))])))) cl_P q0 3 g1_q0 (by decide) bw_47 rfl rfl rfl (Nat.le_of_ble_eq_true rfl) d_P_clear_7 rfl ?_
  have g2_q0 := bs_eq (x := (a, .inr (2, [.ref ai, .ref az, .int (nI (0)), .int (nI (0))]))) g1_q0
  have g2_q1 := bs_ne (x := (a, .inr (2, [.ref ai, .ref az, .int (nI (0)), .int (nI (0))]))) (show q0 ≠ q1 from by omega) g1_q1
  have g2_q2 := bs_ne (x := (a, .inr (2, [.ref ai, .ref az, .int (nI (0)), .int (nI (0))]))) (show q0 ≠ q2 from by omega) g1_q2
  exact bV.vretO G E0 rfl (by decide) (by decide) d_P_clear_10 (by unfold pc_put; rw [bs_same h1, bs_same h2, List.set_set])
theorem d_P_put_0 : decode b_P_put 0 = .ok (.iload_n 1, 1) := by decide +kernel
theorem d_P_put_1 : decode b_P_put 1 = .ok (.ifCond .lt 25, 3) := by decide +kernel
theorem d_P_put_4 : decode b_P_put 4 = .ok (.iload_n 1, 1) := by decide +kernel
theorem d_P_put_5 : decode b_P_put 5 = .ok (.aload_n 0, 1) := by decide +kernel
theorem d_P_put_6 : decode b_P_put 6 = .ok (.getfield 28, 3) := by decide +kernel
theorem d_P_put_9 : decode b_P_put 9 = .ok (.arraylength, 1) := by decide +kernel
theorem d_P_put_10 : decode b_P_put 10 = .ok (.if_icmp .ge 16, 3) := by decide +kernel
theorem d_P_put_13 : decode b_P_put 13 = .ok (.iload_n 2, 1) := by decide +kernel
theorem d_P_put_14 : decode b_P_put 14 = .ok (.ifCond .lt 12, 3) := by decide +kernel
theorem d_P_put_17 : decode b_P_put 17 = .ok (.iload_n 2, 1) := by decide +kernel
theorem d_P_put_18 : decode b_P_put 18 = .ok (.aload_n 0, 1) := by decide +kernel
theorem d_P_put_19 : decode b_P_put 19 = .ok (.iload_n 1, 1) := by decide +kernel
theorem d_P_put_20 : decode b_P_put 20 = .ok (.invokevirtual 35, 3) := by decide +kernel
theorem d_P_put_23 : decode b_P_put 23 = .ok (.if_icmp .lt 4, 3) := by decide +kernel
theorem d_P_put_26 : decode b_P_put 26 = .ok (.return_, 1) := by decide +kernel
theorem d_P_put_27 : decode b_P_put 27 = .ok (.aload_n 0, 1) := by decide +kernel
theorem d_P_put_28 : decode b_P_put 28 = .ok (.getfield 28, 3) := by decide +kernel
theorem d_P_put_31 : decode b_P_put 31 = .ok (.iload_n 1, 1) := by decide +kernel
theorem d_P_put_32 : decode b_P_put 32 = .ok (.iaload, 1) := by decide +kernel
theorem d_P_put_33 : decode b_P_put 33 = .ok (.iload_n 2, 1) := by decide +kernel
theorem d_P_put_34 : decode b_P_put 34 = .ok (.iadd, 1) := by decide +kernel
theorem d_P_put_35 : decode b_P_put 35 = .ok (.istore 4, 2) := by decide +kernel
theorem d_P_put_37 : decode b_P_put 37 = .ok (.iload 4, 2) := by decide +kernel
theorem d_P_put_39 : decode b_P_put 39 = .ok (.ifCond .lt 21, 3) := by decide +kernel
theorem d_P_put_42 : decode b_P_put 42 = .ok (.iload 4, 2) := by decide +kernel
theorem d_P_put_44 : decode b_P_put 44 = .ok (.aload_n 0, 1) := by decide +kernel
theorem d_P_put_45 : decode b_P_put 45 = .ok (.getfield 24, 3) := by decide +kernel
theorem d_P_put_48 : decode b_P_put 48 = .ok (.arraylength, 1) := by decide +kernel
theorem d_P_put_49 : decode b_P_put 49 = .ok (.if_icmp .ge 11, 3) := by decide +kernel
theorem d_P_put_52 : decode b_P_put 52 = .ok (.aload_n 0, 1) := by decide +kernel
theorem d_P_put_53 : decode b_P_put 53 = .ok (.getfield 24, 3) := by decide +kernel
theorem d_P_put_56 : decode b_P_put 56 = .ok (.iload 4, 2) := by decide +kernel
theorem d_P_put_58 : decode b_P_put 58 = .ok (.iload_n 3, 1) := by decide +kernel
theorem d_P_put_59 : decode b_P_put 59 = .ok (.iastore, 1) := by decide +kernel
theorem d_P_put_60 : decode b_P_put 60 = .ok (.return_, 1) := by decide +kernel
set_option maxRecDepth 20000 in
set_option maxHeartbeats 4000000 in
theorem c_P_put {D : va_G} {cI cZ cJ : ClassId} {ws : va_W} {q0 q1 q2 a ai az NI ns : Nat} {P : pc_C} {A : pc_A} (hW : pc_at cI ws q0 q1 q2 a ai az NI ns P) (hR : pc_R NI ns P A) {j i x : Nat} (hj : j ≤ A.1) (hi : i < A.2.1 j) : bC D bcl (tys3 cI cZ cJ) y_P_put (rmL 1 22) ws [.ref a, .int (nI (j)), .int (nI (i)), .int (nI (x))] (bO (fun ws9 => ws9 = pc_put cI ws q0 q1 q2 a ai az NI ns (upd P.1 (pcS A.2.1 j + i) (nI x), P.2.1, P.2.2.1, P.2.2.2)) bno) := by
  obtain ⟨h0, h1, h2, n01, n02, n12⟩ := hW
  obtain ⟨f, st, sz, ct⟩ := P
  obtain ⟨c, pl, pa⟩ := A
  have hR0 := hR
  obtain ⟨e1, r2, r3, r4, r5, r6, r7, r8, r9⟩ := hR
  dsimp only at *
  subst e1
  have hs5 : pcS pl (ct + 1) = pcS pl ct + pl ct := rfl
  refine bC.of (by decide) m_P_put.1 (Nat.le_of_ble_eq_true rfl) ?_
  intro Γ G E0
  show bV D bcl Γ 5 ws 0 0 0 [(0, .ref a), (1, .int (nI (j))), (2, .int (nI (i))), (3, .int (nI (x)))] []
  have hs6 : pcS pl (j + 1) = pcS pl j + pl j := rfl
  have hs7 : pcS pl (j + 1) ≤ pcS pl (ct + 1) := pcS_mono (by omega)
  have hp := pcS_lt (pl := pl) (ct := ct) hj hi
  refine bV.iload_n G d_P_put_0 rfl ?_
  refine bV.if_ltN (tgt := 26) G d_P_put_1 (by decide) (by omega) ?_
  refine bV.iload_n G d_P_put_4 rfl ?_
  refine bV.aload_n G d_P_put_5 rfl ?_
  refine bV.getf G cl_P q0 1 h0 (by decide) bw_45 rfl d_P_put_6 ?_
  refine bV.alenN G q2 0 h2 rfl d_P_put_9 ?_
  refine bV.icmp_geN (tgt := 26) G d_P_put_10 (by decide) (by omega) (by omega) (fun c10 => ?_) (fun c10 => ?_)
  · exfalso; omega
  · refine bV.iload_n G d_P_put_13 rfl ?_
    refine bV.if_ltN (tgt := 26) G d_P_put_14 (by decide) (by omega) ?_
    refine bV.iload_n G d_P_put_17 rfl ?_
    refine bV.aload_n G d_P_put_18 rfl ?_
    refine bV.iload_n G d_P_put_19 rfl ?_
    refine bV.callVi G m_P_length bw_189 bw_190 bw_188 (c_P_length (ws := ws) (q1 := q1) (q2 := q2) (NI := NI) (ns := ns) (P := (f, st, sz, ct)) (A := (ct, pl, pa)) ⟨h0, h1, h2, n01, n02, n12⟩ hR0 (j := j) (by first | omega | exact Nat.le_refl _)) q0 h0 rfl rfl rfl rfl ⟨by decide, by decide⟩ ⟨by decide, by decide⟩ (Nat.le_of_ble_eq_true rfl) d_P_put_20 (fun x9 ws9 h9 => ?_)
    obtain ⟨rfl, h9e⟩ := h9
    rw [h9e]
    try dsimp only
    refine bV.icmp_ltN (tgt := 27) G d_P_put_23 (by decide) (by omega) (by omega) (fun c23 => ?_) (fun c23 => ?_)
    · refine bV.aload_n G d_P_put_27 rfl ?_
      refine bV.getf G cl_P q0 1 h0 (by decide) bw_45 rfl d_P_put_28 ?_
      refine bV.iload_n G d_P_put_31 rfl ?_
      refine bV.ialoadN G q2 0 h2 rfl (by omega) (by omega) d_P_put_32 ?_
      refine bV.topi (y := (nI (pcS pl j))) (r7 _ (by omega)) ?_
      refine bV.iload_n G d_P_put_33 rfl ?_
      refine bV.iaddN G d_P_put_34 ?_
      refine bV.istore G (lv' := [(0, .ref a), (1, .int (nI (j))), (2, .int (nI (i))), (3, .int (nI (x))), (4, .int (nI ((pcS pl j) + i)))]) d_P_put_35 (by decide) rfl rfl ?_
      refine bV.iload G d_P_put_37 rfl ?_
      refine bV.if_ltN (tgt := 60) G d_P_put_39 (by decide) (by omega) ?_
      refine bV.iload G d_P_put_42 rfl ?_
      refine bV.aload_n G d_P_put_44 rfl ?_
      refine bV.getf G cl_P q0 0 h0 (by decide) bw_44 rfl d_P_put_45 ?_
      refine bV.alenN G q1 0 h1 rfl d_P_put_48 ?_
      refine bV.icmp_geN (tgt := 60) G d_P_put_49 (by decide) (by omega) (by omega) (fun c49 => ?_) (fun c49 => ?_)
      · exfalso; omega
      · refine bV.aload_n G d_P_put_52 rfl ?_
        refine bV.getf G cl_P q0 0 h0 (by decide) bw_44 rfl d_P_put_53 ?_
        refine bV.iload G d_P_put_56 rfl ?_
        refine bV.iload_n G d_P_put_58 rfl ?_
        refine bV.iastoreN G (ws' := (ws.set q1 (ai, .inl (cI, NI, .inl (upd f ((pcS pl j) + i) ((nI (x)))))))) q1 0 h1 rfl (by omega) (by omega) d_P_put_59 rfl ?_
        have g1_q0 := bs_ne (x := (ai, .inl (cI, NI, .inl (upd f ((pcS pl j) + i) ((nI (x))))))) (show q1 ≠ q0 from by omega) h0
        have g1_q1 := bs_eq (x := (ai, .inl (cI, NI, .inl (upd f ((pcS pl j) + i) ((nI (x))))))) h1
        have g1_q2 := bs_ne (x := (ai, .inl (cI, NI, .inl (upd f ((pcS pl j) + i) ((nI (x))))))) (show q1 ≠ q2 from by omega) h2
        exact bV.vretO G E0 rfl (by decide) (by decide) d_P_put_60 (by unfold pc_put; rw [bs_same (bs_ne n12 h2), bs_same (bs_ne (show q1 ≠ q0 from by omega) h0)])
    · exfalso; omega
theorem d_P_equalsOpen_0 : decode b_P_equalsOpen 0 = .ok (.aload_n 0, 1) := by decide +kernel
theorem d_P_equalsOpen_1 : decode b_P_equalsOpen 1 = .ok (.invokevirtual 42, 3) := by decide +kernel
theorem d_P_equalsOpen_4 : decode b_P_equalsOpen 4 = .ok (.istore_n 2, 1) := by decide +kernel
theorem d_P_equalsOpen_5 : decode b_P_equalsOpen 5 = .ok (.aload_n 0, 1) := by decide +kernel
theorem d_P_equalsOpen_6 : decode b_P_equalsOpen 6 = .ok (.iload_n 1, 1) := by decide +kernel
theorem d_P_equalsOpen_7 : decode b_P_equalsOpen 7 = .ok (.invokevirtual 35, 3) := by decide +kernel
theorem d_P_equalsOpen_10 : decode b_P_equalsOpen 10 = .ok (.iload_n 2, 1) := by decide +kernel
theorem d_P_equalsOpen_11 : decode b_P_equalsOpen 11 = .ok (.if_icmp .eq 5, 3) := by decide +kernel
theorem d_P_equalsOpen_14 : decode b_P_equalsOpen 14 = .ok (.iconst 0, 1) := by decide +kernel
theorem d_P_equalsOpen_15 : decode b_P_equalsOpen 15 = .ok (.ireturn, 1) := by decide +kernel
theorem d_P_equalsOpen_16 : decode b_P_equalsOpen 16 = .ok (.iconst 0, 1) := by decide +kernel
theorem d_P_equalsOpen_17 : decode b_P_equalsOpen 17 = .ok (.istore_n 3, 1) := by decide +kernel
theorem d_P_equalsOpen_18 : decode b_P_equalsOpen 18 = .ok (.iload_n 3, 1) := by decide +kernel
theorem d_P_equalsOpen_19 : decode b_P_equalsOpen 19 = .ok (.iload_n 2, 1) := by decide +kernel
theorem d_P_equalsOpen_20 : decode b_P_equalsOpen 20 = .ok (.if_icmp .ge 25, 3) := by decide +kernel
theorem d_P_equalsOpen_23 : decode b_P_equalsOpen 23 = .ok (.aload_n 0, 1) := by decide +kernel
theorem d_P_equalsOpen_24 : decode b_P_equalsOpen 24 = .ok (.iload_n 1, 1) := by decide +kernel
theorem d_P_equalsOpen_25 : decode b_P_equalsOpen 25 = .ok (.iload_n 3, 1) := by decide +kernel
theorem d_P_equalsOpen_26 : decode b_P_equalsOpen 26 = .ok (.invokevirtual 39, 3) := by decide +kernel
theorem d_P_equalsOpen_29 : decode b_P_equalsOpen 29 = .ok (.aload_n 0, 1) := by decide +kernel
theorem d_P_equalsOpen_30 : decode b_P_equalsOpen 30 = .ok (.iload_n 3, 1) := by decide +kernel
theorem d_P_equalsOpen_31 : decode b_P_equalsOpen 31 = .ok (.invokevirtual 45, 3) := by decide +kernel
theorem d_P_equalsOpen_34 : decode b_P_equalsOpen 34 = .ok (.if_icmp .eq 5, 3) := by decide +kernel
theorem d_P_equalsOpen_37 : decode b_P_equalsOpen 37 = .ok (.iconst 0, 1) := by decide +kernel
theorem d_P_equalsOpen_38 : decode b_P_equalsOpen 38 = .ok (.ireturn, 1) := by decide +kernel
theorem d_P_equalsOpen_39 : decode b_P_equalsOpen 39 = .ok (.iinc 3 1, 3) := by decide +kernel
theorem d_P_equalsOpen_42 : decode b_P_equalsOpen 42 = .ok (.goto (-24), 3) := by decide +kernel
theorem d_P_equalsOpen_45 : decode b_P_equalsOpen 45 = .ok (.iconst 1, 1) := by decide +kernel
theorem d_P_equalsOpen_46 : decode b_P_equalsOpen 46 = .ok (.ireturn, 1) := by decide +kernel
set_option maxRecDepth 20000 in
set_option maxHeartbeats 4000000 in
theorem c_P_equalsOpen {D : va_G} {cI cZ cJ : ClassId} {ws : va_W} {q0 q1 q2 a ai az NI ns : Nat} {P : pc_C} {A : pc_A} (hW : pc_at cI ws q0 q1 q2 a ai az NI ns P) (hR : pc_R NI ns P A) {j : Nat} (hj : j ≤ A.1) : bC D bcl (tys3 cI cZ cJ) y_P_equalsOpen (rmL 3 70) ws [.ref a, .int (nI (j))] (bI (fun x ws9 => x = bB (decide (A.2.1 j = A.2.1 A.1 ∧ ∀ i, i < A.2.1 A.1 → A.2.2 j i = A.2.2 A.1 i)) ∧ ws9 = ws) bno) := by
  obtain ⟨h0, h1, h2, n01, n02, n12⟩ := hW
  obtain ⟨f, st, sz, ct⟩ := P
  obtain ⟨c, pl, pa⟩ := A
  have hR0 := hR
  obtain ⟨e1, r2, r3, r4, r5, r6, r7, r8, r9⟩ := hR
  dsimp only at *
  subst e1
  have hs5 : pcS pl (ct + 1) = pcS pl ct + pl ct := rfl
  refine bC.of (by decide) m_P_equalsOpen.1 (Nat.le_of_ble_eq_true rfl) ?_
  intro Γ G E0
  show bV D bcl Γ 4 ws 0 0 0 [(0, .ref a), (1, .int (nI (j)))] []
  have hs6 : pcS pl (j + 1) = pcS pl j + pl j := rfl
  have hs7 : pcS pl (j + 1) ≤ pcS pl (ct + 1) := pcS_mono (by omega)
  have loop : ∀ (d : Nat) (i : Nat), pl j = pl ct → d + i = pl ct → (∀ i0, i0 < i → pa j i0 = pa ct i0) → bV D bcl Γ 4 ws 0 0 18 [(0, .ref a), (1, .int (nI (j))), (2, .int (nI (pl ct))), (3, .int (nI (i)))] [] := by
    intro d
    induction d with
    | zero =>
      intro i he0 hd hi0
      refine bV.iload_n G d_P_equalsOpen_18 rfl ?_
      refine bV.iload_n G d_P_equalsOpen_19 rfl ?_
      refine bV.icmp_geN (tgt := 45) G d_P_equalsOpen_20 (by decide) (by omega) (by omega) (fun c20 => ?_) (fun c20 => ?_)
      · refine bV.iconst (v := nI 1) G d_P_equalsOpen_45 (by decide) ?_
        refine bV.topi (x := nI 1) (y := bB true) (by decide) ?_
        exact bV.iretI G E0 rfl (bB_n _) (by decide) (by decide) d_P_equalsOpen_46 ⟨by rw [decide_eq_true ⟨he0, fun i0 h => hi0 i0 (by omega)⟩], rfl⟩
      · exfalso; omega
    | succ d ih =>
      intro i he0 hd hi0
      refine bV.iload_n G d_P_equalsOpen_18 rfl ?_
      refine bV.iload_n G d_P_equalsOpen_19 rfl ?_
      refine bV.icmp_geN (tgt := 45) G d_P_equalsOpen_20 (by decide) (by omega) (by omega) (fun c20 => ?_) (fun c20 => ?_)
      · exfalso; omega
      · refine bV.aload_n G d_P_equalsOpen_23 rfl ?_
        refine bV.iload_n G d_P_equalsOpen_24 rfl ?_
        refine bV.iload_n G d_P_equalsOpen_25 rfl ?_
        refine bV.callVi G m_P_at bw_221 bw_222 bw_220 (c_P_at (ws := ws) (q1 := q1) (q2 := q2) (NI := NI) (ns := ns) (P := (f, st, sz, ct)) (A := (ct, pl, pa)) ⟨h0, h1, h2, n01, n02, n12⟩ hR0 (j := j) (i := i) (by first | omega | exact Nat.le_refl _) (by omega)) q0 h0 rfl rfl rfl rfl ⟨by decide, by decide⟩ ⟨by decide, by decide⟩ (Nat.le_of_ble_eq_true rfl) d_P_equalsOpen_26 (fun x9 ws9 h9 => ?_)
        obtain ⟨rfl, h9e⟩ := h9
        rw [h9e]
        dsimp only
        rw [if_pos (by omega)]
        refine bV.aload_n G d_P_equalsOpen_29 rfl ?_
        refine bV.iload_n G d_P_equalsOpen_30 rfl ?_
        refine bV.callVi G m_P_openAt bw_225 bw_226 bw_224 (c_P_openAt (ws := ws) (q1 := q1) (q2 := q2) (NI := NI) (ns := ns) (P := (f, st, sz, ct)) (A := (ct, pl, pa)) ⟨h0, h1, h2, n01, n02, n12⟩ hR0 (i := i) (by omega)) q0 h0 rfl rfl rfl rfl ⟨by decide, by decide⟩ ⟨by decide, by decide⟩ (Nat.le_of_ble_eq_true rfl) d_P_equalsOpen_31 (fun x9 ws9 h9 => ?_)
        obtain ⟨rfl, h9e⟩ := h9
        rw [h9e]
        dsimp only
        rw [if_pos (by omega)]
        have hv1 : pa j i < 2 ^ 31 := r9 j i hj (by omega)
        have hv2 : pa ct i < 2 ^ 31 := r9 ct i (Nat.le_refl _) (by omega)
        refine bV.icmp_eqN (tgt := 39) G d_P_equalsOpen_34 (by decide) (by omega) (by omega) (fun c34 => ?_) (fun c34 => ?_)
        · refine bV.iincN G (lv' := [(0, .ref a), (1, .int (nI (j))), (2, .int (nI (pl ct))), (3, .int (nI (i + 1)))]) d_P_equalsOpen_39 rfl (by decide) rfl rfl ?_
          refine bV.goto (tgt := 18) G d_P_equalsOpen_42 (by decide) ?_
          exact ih (i + 1) he0 (by omega) (fun i0 h => by rcases Nat.lt_or_ge i0 i with z | z; exact hi0 i0 z; rw [show i0 = i by omega]; exact c34)
        · refine bV.iconst (v := nI 0) G d_P_equalsOpen_37 (by decide) ?_
          refine bV.topi (x := nI 0) (y := bB false) (by decide) ?_
          exact bV.iretI G E0 rfl (bB_n _) (by decide) (by decide) d_P_equalsOpen_38 ⟨by rw [decide_eq_false (fun z => by first | exact c11 z.1 | exact c34 (z.2 i (by omega)))], rfl⟩
  refine bV.aload_n G d_P_equalsOpen_0 rfl ?_
  refine bV.callVi G m_P_openLength bw_185 bw_186 bw_219 (c_P_openLength (ws := ws) (q1 := q1) (q2 := q2) (NI := NI) (ns := ns) (P := (f, st, sz, ct)) (A := (ct, pl, pa)) ⟨h0, h1, h2, n01, n02, n12⟩ hR0) q0 h0 rfl rfl rfl rfl ⟨by decide, by decide⟩ ⟨by decide, by decide⟩ (Nat.le_of_ble_eq_true rfl) d_P_equalsOpen_1 (fun x9 ws9 h9 => ?_)
  obtain ⟨rfl, h9e⟩ := h9
  rw [h9e]
  try dsimp only
  refine bV.istore_n G (lv' := [(0, .ref a), (1, .int (nI (j))), (2, .int (nI (pl ct)))]) d_P_equalsOpen_4 (by decide) rfl rfl ?_
  refine bV.aload_n G d_P_equalsOpen_5 rfl ?_
  refine bV.iload_n G d_P_equalsOpen_6 rfl ?_
  refine bV.callVi G m_P_length bw_189 bw_190 bw_188 (c_P_length (ws := ws) (q1 := q1) (q2 := q2) (NI := NI) (ns := ns) (P := (f, st, sz, ct)) (A := (ct, pl, pa)) ⟨h0, h1, h2, n01, n02, n12⟩ hR0 (j := j) (by first | omega | exact Nat.le_refl _)) q0 h0 rfl rfl rfl rfl ⟨by decide, by decide⟩ ⟨by decide, by decide⟩ (Nat.le_of_ble_eq_true rfl) d_P_equalsOpen_7 (fun x9 ws9 h9 => ?_)
  obtain ⟨rfl, h9e⟩ := h9
  rw [h9e]
  try dsimp only
  refine bV.iload_n G d_P_equalsOpen_10 rfl ?_
  refine bV.icmp_eqN (tgt := 16) G d_P_equalsOpen_11 (by decide) (by omega) (by omega) (fun c11 => ?_) (fun c11 => ?_)
  · refine bV.iconst (v := nI 0) G d_P_equalsOpen_16 (by decide) ?_
    refine bV.istore_n G (lv' := [(0, .ref a), (1, .int (nI (j))), (2, .int (nI (pl ct))), (3, .int (nI (0)))]) d_P_equalsOpen_17 (by decide) rfl rfl ?_
    exact loop (pl ct) 0 c11 (by omega) (fun i0 h => absurd h (Nat.not_lt_zero _))
  · refine bV.iconst (v := nI 0) G d_P_equalsOpen_14 (by decide) ?_
    refine bV.topi (x := nI 0) (y := bB false) (by decide) ?_
    exact bV.iretI G E0 rfl (bB_n _) (by decide) (by decide) d_P_equalsOpen_15 ⟨by rw [decide_eq_false (fun z => by first | exact c11 z.1 | exact c34 (z.2 i (by omega)))], rfl⟩
theorem d_P_sum_0 : decode b_P_sum 0 = .ok (.iload_n 1, 1) := by decide +kernel
theorem d_P_sum_1 : decode b_P_sum 1 = .ok (.istore 4, 2) := by decide +kernel
theorem d_P_sum_3 : decode b_P_sum 3 = .ok (.iload_n 3, 1) := by decide +kernel
theorem d_P_sum_4 : decode b_P_sum 4 = .ok (.aload_n 0, 1) := by decide +kernel
theorem d_P_sum_5 : decode b_P_sum 5 = .ok (.iload_n 2, 1) := by decide +kernel
theorem d_P_sum_6 : decode b_P_sum 6 = .ok (.invokevirtual 35, 3) := by decide +kernel
theorem d_P_sum_9 : decode b_P_sum 9 = .ok (.invokestatic 48, 3) := by decide +kernel
theorem d_P_sum_12 : decode b_P_sum 12 = .ok (.istore 5, 2) := by decide +kernel
theorem d_P_sum_14 : decode b_P_sum 14 = .ok (.iconst 0, 1) := by decide +kernel
theorem d_P_sum_15 : decode b_P_sum 15 = .ok (.istore 6, 2) := by decide +kernel
theorem d_P_sum_17 : decode b_P_sum 17 = .ok (.iload 6, 2) := by decide +kernel
theorem d_P_sum_19 : decode b_P_sum 19 = .ok (.iload 5, 2) := by decide +kernel
theorem d_P_sum_21 : decode b_P_sum 21 = .ok (.if_icmp .ge 23, 3) := by decide +kernel
theorem d_P_sum_24 : decode b_P_sum 24 = .ok (.iload 4, 2) := by decide +kernel
theorem d_P_sum_26 : decode b_P_sum 26 = .ok (.aload_n 0, 1) := by decide +kernel
theorem d_P_sum_27 : decode b_P_sum 27 = .ok (.iload_n 2, 1) := by decide +kernel
theorem d_P_sum_28 : decode b_P_sum 28 = .ok (.iload 6, 2) := by decide +kernel
theorem d_P_sum_30 : decode b_P_sum 30 = .ok (.invokevirtual 39, 3) := by decide +kernel
theorem d_P_sum_33 : decode b_P_sum 33 = .ok (.invokestatic 51, 3) := by decide +kernel
theorem d_P_sum_36 : decode b_P_sum 36 = .ok (.istore 4, 2) := by decide +kernel
theorem d_P_sum_38 : decode b_P_sum 38 = .ok (.iinc 6 1, 3) := by decide +kernel
theorem d_P_sum_41 : decode b_P_sum 41 = .ok (.goto (-24), 3) := by decide +kernel
theorem d_P_sum_44 : decode b_P_sum 44 = .ok (.iload 4, 2) := by decide +kernel
theorem d_P_sum_46 : decode b_P_sum 46 = .ok (.ireturn, 1) := by decide +kernel
set_option maxRecDepth 20000 in
set_option maxHeartbeats 4000000 in
theorem c_P_sum {D : va_G} {cI cZ cJ : ClassId} {ws : va_W} {q0 q1 q2 a ai az NI ns : Nat} {P : pc_C} {A : pc_A} (hW : pc_at cI ws q0 q1 q2 a ai az NI ns P) (hR : pc_R NI ns P A) {s0 : Int32} {j len : Nat} (hj : j ≤ A.1) (hlen : len ≤ A.2.1 j) : bC D bcl (tys3 cI cZ cJ) y_P_sum (rmL 2 45) ws [.ref a, .int (s0), .int (nI (j)), .int (nI (len))] (bI (fun x ws9 => x = sumS (A.2.2 j) s0 len ∧ ws9 = ws) bno) := by
  obtain ⟨h0, h1, h2, n01, n02, n12⟩ := hW
  obtain ⟨f, st, sz, ct⟩ := P
  obtain ⟨c, pl, pa⟩ := A
  have hR0 := hR
  obtain ⟨e1, r2, r3, r4, r5, r6, r7, r8, r9⟩ := hR
  dsimp only at *
  subst e1
  have hs5 : pcS pl (ct + 1) = pcS pl ct + pl ct := rfl
  refine bC.of (by decide) m_P_sum.1 (Nat.le_of_ble_eq_true rfl) ?_
  intro Γ G E0
  show bV D bcl Γ 7 ws 0 0 0 [(0, .ref a), (1, .int (s0)), (2, .int (nI (j))), (3, .int (nI (len)))] []
  have hs6 : pcS pl (j + 1) = pcS pl j + pl j := rfl
  have hs7 : pcS pl (j + 1) ≤ pcS pl (ct + 1) := pcS_mono (by omega)
  have loop : ∀ (d : Nat) (i : Nat), d + i = len → bV D bcl Γ 7 ws 0 0 17 [(0, .ref a), (1, .int (s0)), (2, .int (nI (j))), (3, .int (nI (len))), (4, .int (sumS (pa j) s0 i)), (5, .int (nI (len))), (6, .int (nI (i)))] [] := by
    intro d
    induction d with
    | zero =>
      intro i hd
      refine bV.iload G d_P_sum_17 rfl ?_
      refine bV.iload G d_P_sum_19 rfl ?_
      refine bV.icmp_geN (tgt := 44) G d_P_sum_21 (by decide) (by omega) (by omega) (fun c21 => ?_) (fun c21 => ?_)
      · refine bV.iload G d_P_sum_44 rfl ?_
        exact bV.iretI G E0 rfl rfl (by decide) (by decide) d_P_sum_46 ⟨by rw [show i = len by omega], rfl⟩
      · exfalso; omega
    | succ d ih =>
      intro i hd
      refine bV.iload G d_P_sum_17 rfl ?_
      refine bV.iload G d_P_sum_19 rfl ?_
      refine bV.icmp_geN (tgt := 44) G d_P_sum_21 (by decide) (by omega) (by omega) (fun c21 => ?_) (fun c21 => ?_)
      · exfalso; omega
      · refine bV.iload G d_P_sum_24 rfl ?_
        refine bV.aload_n G d_P_sum_26 rfl ?_
        refine bV.iload_n G d_P_sum_27 rfl ?_
        refine bV.iload G d_P_sum_28 rfl ?_
        refine bV.callVi G m_P_at bw_221 bw_222 bw_220 (c_P_at (ws := ws) (q1 := q1) (q2 := q2) (NI := NI) (ns := ns) (P := (f, st, sz, ct)) (A := (ct, pl, pa)) ⟨h0, h1, h2, n01, n02, n12⟩ hR0 (j := j) (i := i) (by first | omega | exact Nat.le_refl _) (by omega)) q0 h0 rfl rfl rfl rfl ⟨by decide, by decide⟩ ⟨by decide, by decide⟩ (Nat.le_of_ble_eq_true rfl) d_P_sum_30 (fun x9 ws9 h9 => ?_)
        obtain ⟨rfl, h9e⟩ := h9
        rw [h9e]
        dsimp only
        rw [if_pos (by omega)]
        refine bV.callSNi (host := "BoardStore") G m_S_nextSum bw_336 (by decide) (c_S_nextSum (ws := ws) (s := sumS (pa j) s0 i) (b := nI (pa j i))) rfl rfl ⟨by decide, by decide⟩ ⟨by decide, by decide⟩ (Nat.le_of_ble_eq_true rfl) d_P_sum_33 (fun x9 ws9 h9 => ?_)
        obtain ⟨rfl, h9e⟩ := h9
        rw [h9e]
        try dsimp only
        refine bV.istore G (lv' := [(0, .ref a), (1, .int (s0)), (2, .int (nI (j))), (3, .int (nI (len))), (4, .int (nextS (sumS (pa j) s0 i) (nI (pa j i)))), (5, .int (nI (len))), (6, .int (nI (i)))]) d_P_sum_36 (by decide) rfl rfl ?_
        refine bV.iincN G (lv' := [(0, .ref a), (1, .int (s0)), (2, .int (nI (j))), (3, .int (nI (len))), (4, .int (nextS (sumS (pa j) s0 i) (nI (pa j i)))), (5, .int (nI (len))), (6, .int (nI (i + 1)))]) d_P_sum_38 rfl (by decide) rfl rfl ?_
        refine bV.goto (tgt := 17) G d_P_sum_41 (by decide) ?_
        exact ih (i + 1) (by omega)
  refine bV.iload_n G d_P_sum_0 rfl ?_
  refine bV.istore G (lv' := [(0, .ref a), (1, .int (s0)), (2, .int (nI (j))), (3, .int (nI (len))), (4, .int (s0))]) d_P_sum_1 (by decide) rfl rfl ?_
  refine bV.iload_n G d_P_sum_3 rfl ?_
  refine bV.aload_n G d_P_sum_4 rfl ?_
  refine bV.iload_n G d_P_sum_5 rfl ?_
  refine bV.callVi G m_P_length bw_189 bw_190 bw_188 (c_P_length (ws := ws) (q1 := q1) (q2 := q2) (NI := NI) (ns := ns) (P := (f, st, sz, ct)) (A := (ct, pl, pa)) ⟨h0, h1, h2, n01, n02, n12⟩ hR0 (j := j) (by first | omega | exact Nat.le_refl _)) q0 h0 rfl rfl rfl rfl ⟨by decide, by decide⟩ ⟨by decide, by decide⟩ (Nat.le_of_ble_eq_true rfl) d_P_sum_6 (fun x9 ws9 h9 => ?_)
  obtain ⟨rfl, h9e⟩ := h9
  rw [h9e]
  try dsimp only
  refine bV.mmin G bw_334 bw_70 bw_4 bw_71 (by decide) (by decide) (by decide) (by decide) d_P_sum_9 ?_
  refine bV.topi (y := (nI (len))) (if_neg (nI_nlt hlen (by omega))) ?_
  refine bV.istore G (lv' := [(0, .ref a), (1, .int (s0)), (2, .int (nI (j))), (3, .int (nI (len))), (4, .int (s0)), (5, .int (nI (len)))]) d_P_sum_12 (by decide) rfl rfl ?_
  refine bV.iconst (v := nI 0) G d_P_sum_14 (by decide) ?_
  refine bV.istore G (lv' := [(0, .ref a), (1, .int (s0)), (2, .int (nI (j))), (3, .int (nI (len))), (4, .int (s0)), (5, .int (nI (len))), (6, .int (nI (0)))]) d_P_sum_15 (by decide) rfl rfl ?_
  exact loop len 0 (by omega)
