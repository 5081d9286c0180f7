/-! ===== the store: guards, reads ===== -/
theorem pc_R_len {NI ns : Nat} {P : pc_C} {A : pc_A} {j : Nat} (h : pc_R NI ns P A) (hj : j ≤ A.1) : A.2.1 j ≤ NI := by
  have h1 : pcS A.2.1 (j + 1) = pcS A.2.1 j + A.2.1 j := rfl
  have h2 : pcS A.2.1 (j + 1) ≤ pcS A.2.1 (A.1 + 1) := pcS_mono (by omega)
  have h3 := h.2.2.2.2.1
  have h4 := h.2.2.2.2.2.1
  omega
theorem pc_R_val {NI ns : Nat} {P : pc_C} {A : pc_A} {j i : Nat} (h : pc_R NI ns P A) (hj : j ≤ A.1) (hi : i < A.2.1 j) : A.2.2 j i < 2 ^ 31 := h.2.2.2.2.2.2.2.2 j i hj hi
theorem d_S_requireRunning_0 : decode b_S_requireRunning 0 = .ok (.aload_n 0, 1) := by decide +kernel
theorem d_S_requireRunning_1 : decode b_S_requireRunning 1 = .ok (.getfield 58, 3) := by decide +kernel
theorem d_S_requireRunning_4 : decode b_S_requireRunning 4 = .ok (.ifCond .eq 13, 3) := by decide +kernel
theorem d_S_requireRunning_7 : decode b_S_requireRunning 7 = .ok (.new 183, 3) := by decide +kernel
theorem d_S_requireRunning_10 : decode b_S_requireRunning 10 = .ok (.dup, 1) := by decide +kernel
theorem d_S_requireRunning_11 : decode b_S_requireRunning 11 = .ok (.ldc 185, 2) := by decide +kernel
theorem d_S_requireRunning_13 : decode b_S_requireRunning 13 = .ok (.invokespecial 187, 3) := by decide +kernel
theorem d_S_requireRunning_16 : decode b_S_requireRunning 16 = .ok (.athrow, 1) := by decide +kernel
theorem d_S_requireRunning_17 : decode b_S_requireRunning 17 = .ok (.return_, 1) := by decide +kernel
set_option maxRecDepth 20000 in
set_option maxHeartbeats 4000000 in
theorem c_S_requireRunning {D : va_G} {cI cZ cJ : ClassId} {ad : Nat → Nat} {mp : Nat} {lf : Nat → Int32} {n : Nat} {Pb : pc_C} {gt gp gh : Nat → Int32} {Pv : pc_C} {gd : Nat → Int32} {Pq : pc_C} {cr : Bool} {rest : va_W}    : bC D bcl (tys3 cI cZ cJ) y_S_requireRunning ({ frames := 6, cells := 1, slots := 6, locals := 84 }) (wS ad cI cZ mp lf n Pb gt gp gh Pv gd Pq cr rest) [.ref (ad 0)] (bO (fun ws9 => cr = false ∧ ws9 = wS ad cI cZ mp lf n Pb gt gp gh Pv gd Pq cr rest) (fun E ws9 => cr = true ∧ E = "java/lang/IllegalStateException" ∧ ws9 = wS ad cI cZ mp lf n Pb gt gp gh Pv gd Pq cr rest)) := by
  refine bC.of (by decide) m_S_requireRunning.1 (Nat.le_of_ble_eq_true rfl) ?_
  intro Γ G E0
  show bV D bcl Γ 1 (wS ad cI cZ mp lf n Pb gt gp gh Pv gd Pq cr rest) 0 0 0 [(0, .ref (ad 0))] []
  refine bV.aload_n G d_S_requireRunning_0 rfl ?_
  refine bV.getf G cl_S 0 8 rfl (by decide) bw_81 rfl d_S_requireRunning_1 ?_
  refine bV.if_eqB (tgt := 17) G d_S_requireRunning_4 (by decide) (fun c4 => ?_) (fun c4 => ?_)
  · exact bV.vretO G E0 rfl (by decide) (by decide) d_S_requireRunning_17 ⟨c4, rfl⟩
  · exact bV.throwNew G E0 (E := "java/lang/IllegalStateException") (tx := "it crashed") (names := ["java/lang/RuntimeException", "java/lang/Exception"]) (by decide +kernel) (by decide +kernel) oa_187 bw_116 bw_117 bw_10 (by decide) (by decide) (by decide) (by decide) (Nat.le_of_ble_eq_true rfl) rfl d_S_requireRunning_7 d_S_requireRunning_10 d_S_requireRunning_11 d_S_requireRunning_13 d_S_requireRunning_16 (Or.inr ⟨_, rfl, ⟨c4, rfl, rfl⟩⟩)
theorem d_S_requireCrashed_0 : decode b_S_requireCrashed 0 = .ok (.aload_n 0, 1) := by decide +kernel
theorem d_S_requireCrashed_1 : decode b_S_requireCrashed 1 = .ok (.getfield 58, 3) := by decide +kernel
theorem d_S_requireCrashed_4 : decode b_S_requireCrashed 4 = .ok (.ifCond .ne 13, 3) := by decide +kernel
theorem d_S_requireCrashed_7 : decode b_S_requireCrashed 7 = .ok (.new 183, 3) := by decide +kernel
theorem d_S_requireCrashed_10 : decode b_S_requireCrashed 10 = .ok (.dup, 1) := by decide +kernel
theorem d_S_requireCrashed_11 : decode b_S_requireCrashed 11 = .ok (.ldc 190, 2) := by decide +kernel
theorem d_S_requireCrashed_13 : decode b_S_requireCrashed 13 = .ok (.invokespecial 187, 3) := by decide +kernel
theorem d_S_requireCrashed_16 : decode b_S_requireCrashed 16 = .ok (.athrow, 1) := by decide +kernel
theorem d_S_requireCrashed_17 : decode b_S_requireCrashed 17 = .ok (.return_, 1) := by decide +kernel
set_option maxRecDepth 20000 in
set_option maxHeartbeats 4000000 in
theorem c_S_requireCrashed {D : va_G} {cI cZ cJ : ClassId} {ad : Nat → Nat} {mp : Nat} {lf : Nat → Int32} {n : Nat} {Pb : pc_C} {gt gp gh : Nat → Int32} {Pv : pc_C} {gd : Nat → Int32} {Pq : pc_C} {cr : Bool} {rest : va_W}    : bC D bcl (tys3 cI cZ cJ) y_S_requireCrashed ({ frames := 6, cells := 1, slots := 6, locals := 84 }) (wS ad cI cZ mp lf n Pb gt gp gh Pv gd Pq cr rest) [.ref (ad 0)] (bO (fun ws9 => cr = true ∧ ws9 = wS ad cI cZ mp lf n Pb gt gp gh Pv gd Pq cr rest) (fun E ws9 => cr = false ∧ E = "java/lang/IllegalStateException" ∧ ws9 = wS ad cI cZ mp lf n Pb gt gp gh Pv gd Pq cr rest)) := by
  refine bC.of (by decide) m_S_requireCrashed.1 (Nat.le_of_ble_eq_true rfl) ?_
  intro Γ G E0
  show bV D bcl Γ 1 (wS ad cI cZ mp lf n Pb gt gp gh Pv gd Pq cr rest) 0 0 0 [(0, .ref (ad 0))] []
  refine bV.aload_n G d_S_requireCrashed_0 rfl ?_
  refine bV.getf G cl_S 0 8 rfl (by decide) bw_81 rfl d_S_requireCrashed_1 ?_
  refine bV.if_neB (tgt := 17) G d_S_requireCrashed_4 (by decide) (fun c4 => ?_) (fun c4 => ?_)
  · exact bV.vretO G E0 rfl (by decide) (by decide) d_S_requireCrashed_17 ⟨c4, rfl⟩
  · exact bV.throwNew G E0 (E := "java/lang/IllegalStateException") (tx := "it did not crash") (names := ["java/lang/RuntimeException", "java/lang/Exception"]) (by decide +kernel) (by decide +kernel) oa_187 bw_116 bw_117 bw_10 (by decide) (by decide) (by decide) (by decide) (Nat.le_of_ble_eq_true rfl) rfl d_S_requireCrashed_7 d_S_requireCrashed_10 d_S_requireCrashed_11 d_S_requireCrashed_13 d_S_requireCrashed_16 (Or.inr ⟨_, rfl, ⟨c4, rfl, rfl⟩⟩)
theorem d_S_requireVersion_0 : decode b_S_requireVersion 0 = .ok (.aload_n 0, 1) := by decide +kernel
theorem d_S_requireVersion_1 : decode b_S_requireVersion 1 = .ok (.getfield 40, 3) := by decide +kernel
theorem d_S_requireVersion_4 : decode b_S_requireVersion 4 = .ok (.iload_n 1, 1) := by decide +kernel
theorem d_S_requireVersion_5 : decode b_S_requireVersion 5 = .ok (.invokevirtual 192, 3) := by decide +kernel
theorem d_S_requireVersion_8 : decode b_S_requireVersion 8 = .ok (.ifCond .ne 13, 3) := by decide +kernel
theorem d_S_requireVersion_11 : decode b_S_requireVersion 11 = .ok (.new 195, 3) := by decide +kernel
theorem d_S_requireVersion_14 : decode b_S_requireVersion 14 = .ok (.dup, 1) := by decide +kernel
theorem d_S_requireVersion_15 : decode b_S_requireVersion 15 = .ok (.ldc 197, 2) := by decide +kernel
theorem d_S_requireVersion_17 : decode b_S_requireVersion 17 = .ok (.invokespecial 199, 3) := by decide +kernel
theorem d_S_requireVersion_20 : decode b_S_requireVersion 20 = .ok (.athrow, 1) := by decide +kernel
theorem d_S_requireVersion_21 : decode b_S_requireVersion 21 = .ok (.return_, 1) := by decide +kernel
set_option maxRecDepth 20000 in
set_option maxHeartbeats 4000000 in
theorem c_S_requireVersion {D : va_G} {cI cZ cJ : ClassId} {ad : Nat → Nat} {mp : Nat} {lf : Nat → Int32} {n : Nat} {Pb : pc_C} {gt gp gh : Nat → Int32} {Pv : pc_C} {gd : Nat → Int32} {Pq : pc_C} {cr : Bool} {rest : va_W} {nv : Nat} {vl : Nat → Nat} {va : Nat → Nat → Nat} (hRv : pc_R 104 13 Pv (nv, vl, va)) {v : Int32} : bC D bcl (tys3 cI cZ cJ) y_S_requireVersion ({ frames := 6, cells := 1, slots := 6, locals := 84 }) (wS ad cI cZ mp lf n Pb gt gp gh Pv gd Pq cr rest) [.ref (ad 0), .int (v)] (bO (fun ws9 => (0 ≤ v ∧ v < nI nv) ∧ ws9 = wS ad cI cZ mp lf n Pb gt gp gh Pv gd Pq cr rest) (fun E ws9 => (¬ (0 ≤ v ∧ v < nI nv)) ∧ E = "java/lang/IndexOutOfBoundsException" ∧ ws9 = wS ad cI cZ mp lf n Pb gt gp gh Pv gd Pq cr rest)) := by
  have fv : nv < 13 := hRv.2.1
  refine bC.of (by decide) m_S_requireVersion.1 (Nat.le_of_ble_eq_true rfl) ?_
  intro Γ G E0
  show bV D bcl Γ 2 (wS ad cI cZ mp lf n Pb gt gp gh Pv gd Pq cr rest) 0 0 0 [(0, .ref (ad 0)), (1, .int (v))] []
  refine bV.aload_n G d_S_requireVersion_0 rfl ?_
  refine bV.getf G cl_S 0 5 rfl (by decide) bw_78 rfl d_S_requireVersion_1 ?_
  refine bV.iload_n G d_S_requireVersion_4 rfl ?_
  refine bV.callVi G m_P_has bw_289 bw_290 bw_288 (c_P_has wS_v hRv) 12 rfl rfl rfl rfl rfl ⟨by decide, by decide⟩ ⟨by decide, by decide⟩ (Nat.le_of_ble_eq_true rfl) d_S_requireVersion_5 (fun x9 ws9 h9 => ?_)
  obtain ⟨rfl, h9e⟩ := h9
  rw [h9e]
  try dsimp only
  refine bV.if_neB (tgt := 21) G d_S_requireVersion_8 (by decide) (fun c8 => ?_) (fun c8 => ?_)
  · exact bV.vretO G E0 rfl (by decide) (by decide) d_S_requireVersion_21 ⟨of_decide_eq_true c8, rfl⟩
  · exact bV.throwNew G E0 (E := "java/lang/IndexOutOfBoundsException") (tx := "no such version") (names := ["java/lang/RuntimeException", "java/lang/Exception"]) (by decide +kernel) (by decide +kernel) oa_199 bw_292 bw_293 bw_11 (by decide) (by decide) (by decide) (by decide) (Nat.le_of_ble_eq_true rfl) rfl d_S_requireVersion_11 d_S_requireVersion_14 d_S_requireVersion_15 d_S_requireVersion_17 d_S_requireVersion_20 (Or.inr ⟨_, rfl, ⟨of_decide_eq_false c8, rfl, rfl⟩⟩)
theorem d_S_requireBlock_0 : decode b_S_requireBlock 0 = .ok (.aload_n 0, 1) := by decide +kernel
theorem d_S_requireBlock_1 : decode b_S_requireBlock 1 = .ok (.getfield 21, 3) := by decide +kernel
theorem d_S_requireBlock_4 : decode b_S_requireBlock 4 = .ok (.iload_n 1, 1) := by decide +kernel
theorem d_S_requireBlock_5 : decode b_S_requireBlock 5 = .ok (.invokevirtual 192, 3) := by decide +kernel
theorem d_S_requireBlock_8 : decode b_S_requireBlock 8 = .ok (.ifCond .ne 13, 3) := by decide +kernel
theorem d_S_requireBlock_11 : decode b_S_requireBlock 11 = .ok (.new 195, 3) := by decide +kernel
theorem d_S_requireBlock_14 : decode b_S_requireBlock 14 = .ok (.dup, 1) := by decide +kernel
theorem d_S_requireBlock_15 : decode b_S_requireBlock 15 = .ok (.ldc 200, 2) := by decide +kernel
theorem d_S_requireBlock_17 : decode b_S_requireBlock 17 = .ok (.invokespecial 199, 3) := by decide +kernel
theorem d_S_requireBlock_20 : decode b_S_requireBlock 20 = .ok (.athrow, 1) := by decide +kernel
theorem d_S_requireBlock_21 : decode b_S_requireBlock 21 = .ok (.return_, 1) := by decide +kernel
set_option maxRecDepth 20000 in
set_option maxHeartbeats 4000000 in
theorem c_S_requireBlock {D : va_G} {cI cZ cJ : ClassId} {ad : Nat → Nat} {mp : Nat} {lf : Nat → Int32} {n : Nat} {Pb : pc_C} {gt gp gh : Nat → Int32} {Pv : pc_C} {gd : Nat → Int32} {Pq : pc_C} {cr : Bool} {rest : va_W} {nb : Nat} {bl : Nat → Nat} {ba : Nat → Nat → Nat} (hRb : pc_R 600 25 Pb (nb, bl, ba)) {v : Int32} : bC D bcl (tys3 cI cZ cJ) y_S_requireBlock ({ frames := 6, cells := 1, slots := 6, locals := 84 }) (wS ad cI cZ mp lf n Pb gt gp gh Pv gd Pq cr rest) [.ref (ad 0), .int (v)] (bO (fun ws9 => (0 ≤ v ∧ v < nI nb) ∧ ws9 = wS ad cI cZ mp lf n Pb gt gp gh Pv gd Pq cr rest) (fun E ws9 => (¬ (0 ≤ v ∧ v < nI nb)) ∧ E = "java/lang/IndexOutOfBoundsException" ∧ ws9 = wS ad cI cZ mp lf n Pb gt gp gh Pv gd Pq cr rest)) := by
  have fb : nb < 25 := hRb.2.1
  refine bC.of (by decide) m_S_requireBlock.1 (Nat.le_of_ble_eq_true rfl) ?_
  intro Γ G E0
  show bV D bcl Γ 2 (wS ad cI cZ mp lf n Pb gt gp gh Pv gd Pq cr rest) 0 0 0 [(0, .ref (ad 0)), (1, .int (v))] []
  refine bV.aload_n G d_S_requireBlock_0 rfl ?_
  refine bV.getf G cl_S 0 1 rfl (by decide) bw_74 rfl d_S_requireBlock_1 ?_
  refine bV.iload_n G d_S_requireBlock_4 rfl ?_
  refine bV.callVi G m_P_has bw_289 bw_290 bw_288 (c_P_has wS_b hRb) 3 rfl rfl rfl rfl rfl ⟨by decide, by decide⟩ ⟨by decide, by decide⟩ (Nat.le_of_ble_eq_true rfl) d_S_requireBlock_5 (fun x9 ws9 h9 => ?_)
  obtain ⟨rfl, h9e⟩ := h9
  rw [h9e]
  try dsimp only
  refine bV.if_neB (tgt := 21) G d_S_requireBlock_8 (by decide) (fun c8 => ?_) (fun c8 => ?_)
  · exact bV.vretO G E0 rfl (by decide) (by decide) d_S_requireBlock_21 ⟨of_decide_eq_true c8, rfl⟩
  · exact bV.throwNew G E0 (E := "java/lang/IndexOutOfBoundsException") (tx := "no block had that number") (names := ["java/lang/RuntimeException", "java/lang/Exception"]) (by decide +kernel) (by decide +kernel) oa_199 bw_292 bw_293 bw_11 (by decide) (by decide) (by decide) (by decide) (Nat.le_of_ble_eq_true rfl) rfl d_S_requireBlock_11 d_S_requireBlock_14 d_S_requireBlock_15 d_S_requireBlock_17 d_S_requireBlock_20 (Or.inr ⟨_, rfl, ⟨of_decide_eq_false c8, rfl, rfl⟩⟩)
theorem d_S_requireByteOfSum_0 : decode b_S_requireByteOfSum 0 = .ok (.iload_n 1, 1) := by decide +kernel
theorem d_S_requireByteOfSum_1 : decode b_S_requireByteOfSum 1 = .ok (.ifCond .lt 8, 3) := by decide +kernel
theorem d_S_requireByteOfSum_4 : decode b_S_requireByteOfSum 4 = .ok (.iload_n 1, 1) := by decide +kernel
theorem d_S_requireByteOfSum_5 : decode b_S_requireByteOfSum 5 = .ok (.iconst 4, 1) := by decide +kernel
theorem d_S_requireByteOfSum_6 : decode b_S_requireByteOfSum 6 = .ok (.if_icmp .lt 13, 3) := by decide +kernel
theorem d_S_requireByteOfSum_9 : decode b_S_requireByteOfSum 9 = .ok (.new 195, 3) := by decide +kernel
theorem d_S_requireByteOfSum_12 : decode b_S_requireByteOfSum 12 = .ok (.dup, 1) := by decide +kernel
theorem d_S_requireByteOfSum_13 : decode b_S_requireByteOfSum 13 = .ok (.ldc 204, 2) := by decide +kernel
theorem d_S_requireByteOfSum_15 : decode b_S_requireByteOfSum 15 = .ok (.invokespecial 199, 3) := by decide +kernel
theorem d_S_requireByteOfSum_18 : decode b_S_requireByteOfSum 18 = .ok (.athrow, 1) := by decide +kernel
theorem d_S_requireByteOfSum_19 : decode b_S_requireByteOfSum 19 = .ok (.return_, 1) := by decide +kernel
set_option maxRecDepth 20000 in
set_option maxHeartbeats 4000000 in
theorem c_S_requireByteOfSum {D : va_G} {cI cZ cJ : ClassId} {ad : Nat → Nat} {mp : Nat} {lf : Nat → Int32} {n : Nat} {Pb : pc_C} {gt gp gh : Nat → Int32} {Pv : pc_C} {gd : Nat → Int32} {Pq : pc_C} {cr : Bool} {rest : va_W}   {v : Int32} : bC D bcl (tys3 cI cZ cJ) y_S_requireByteOfSum ({ frames := 6, cells := 1, slots := 6, locals := 84 }) (wS ad cI cZ mp lf n Pb gt gp gh Pv gd Pq cr rest) [.ref (ad 0), .int (v)] (bO (fun ws9 => (0 ≤ v ∧ v < 4) ∧ ws9 = wS ad cI cZ mp lf n Pb gt gp gh Pv gd Pq cr rest) (fun E ws9 => (¬ (0 ≤ v ∧ v < 4)) ∧ E = "java/lang/IndexOutOfBoundsException" ∧ ws9 = wS ad cI cZ mp lf n Pb gt gp gh Pv gd Pq cr rest)) := by
  refine bC.of (by decide) m_S_requireByteOfSum.1 (Nat.le_of_ble_eq_true rfl) ?_
  intro Γ G E0
  show bV D bcl Γ 2 (wS ad cI cZ mp lf n Pb gt gp gh Pv gd Pq cr rest) 0 0 0 [(0, .ref (ad 0)), (1, .int (v))] []
  refine bV.iload_n G d_S_requireByteOfSum_0 rfl ?_
  refine bV.if_lt (tgt := 9) G d_S_requireByteOfSum_1 (by decide) (fun c1 => ?_) (fun c1 => ?_)
  · exact bV.throwNew G E0 (E := "java/lang/IndexOutOfBoundsException") (tx := "no such byte of a sum") (names := ["java/lang/RuntimeException", "java/lang/Exception"]) (by decide +kernel) (by decide +kernel) oa_199 bw_292 bw_293 bw_11 (by decide) (by decide) (by decide) (by decide) (Nat.le_of_ble_eq_true rfl) rfl d_S_requireByteOfSum_9 d_S_requireByteOfSum_12 d_S_requireByteOfSum_13 d_S_requireByteOfSum_15 d_S_requireByteOfSum_18 (Or.inr ⟨_, rfl, ⟨fun z => by first | exact absurd z.1 (Int32.not_le.mpr c1) | exact c6 z.2, rfl, rfl⟩⟩)
  · refine bV.iload_n G d_S_requireByteOfSum_4 rfl ?_
    refine bV.iconst (v := (4)) G d_S_requireByteOfSum_5 (by decide) ?_
    refine bV.icmp_lt (tgt := 19) G d_S_requireByteOfSum_6 (by decide) (fun c6 => ?_) (fun c6 => ?_)
    · exact bV.vretO G E0 rfl (by decide) (by decide) d_S_requireByteOfSum_19 ⟨⟨Int32.not_lt.mp c1, c6⟩, rfl⟩
    · exact bV.throwNew G E0 (E := "java/lang/IndexOutOfBoundsException") (tx := "no such byte of a sum") (names := ["java/lang/RuntimeException", "java/lang/Exception"]) (by decide +kernel) (by decide +kernel) oa_199 bw_292 bw_293 bw_11 (by decide) (by decide) (by decide) (by decide) (Nat.le_of_ble_eq_true rfl) rfl d_S_requireByteOfSum_9 d_S_requireByteOfSum_12 d_S_requireByteOfSum_13 d_S_requireByteOfSum_15 d_S_requireByteOfSum_18 (Or.inr ⟨_, rfl, ⟨fun z => by first | exact absurd z.1 (Int32.not_le.mpr c1) | exact c6 z.2, rfl, rfl⟩⟩)
theorem d_S_requireNotNegative_0 : decode b_S_requireNotNegative 0 = .ok (.iload_n 1, 1) := by decide +kernel
theorem d_S_requireNotNegative_1 : decode b_S_requireNotNegative 1 = .ok (.ifCond .ge 13, 3) := by decide +kernel
theorem d_S_requireNotNegative_4 : decode b_S_requireNotNegative 4 = .ok (.new 195, 3) := by decide +kernel
theorem d_S_requireNotNegative_7 : decode b_S_requireNotNegative 7 = .ok (.dup, 1) := by decide +kernel
theorem d_S_requireNotNegative_8 : decode b_S_requireNotNegative 8 = .ok (.ldc 206, 2) := by decide +kernel
theorem d_S_requireNotNegative_10 : decode b_S_requireNotNegative 10 = .ok (.invokespecial 199, 3) := by decide +kernel
theorem d_S_requireNotNegative_13 : decode b_S_requireNotNegative 13 = .ok (.athrow, 1) := by decide +kernel
theorem d_S_requireNotNegative_14 : decode b_S_requireNotNegative 14 = .ok (.return_, 1) := by decide +kernel
set_option maxRecDepth 20000 in
set_option maxHeartbeats 4000000 in
theorem c_S_requireNotNegative {D : va_G} {cI cZ cJ : ClassId} {ad : Nat → Nat} {mp : Nat} {lf : Nat → Int32} {n : Nat} {Pb : pc_C} {gt gp gh : Nat → Int32} {Pv : pc_C} {gd : Nat → Int32} {Pq : pc_C} {cr : Bool} {rest : va_W}   {v : Int32} : bC D bcl (tys3 cI cZ cJ) y_S_requireNotNegative ({ frames := 6, cells := 1, slots := 6, locals := 84 }) (wS ad cI cZ mp lf n Pb gt gp gh Pv gd Pq cr rest) [.ref (ad 0), .int (v)] (bO (fun ws9 => (0 ≤ v) ∧ ws9 = wS ad cI cZ mp lf n Pb gt gp gh Pv gd Pq cr rest) (fun E ws9 => (¬ (0 ≤ v)) ∧ E = "java/lang/IndexOutOfBoundsException" ∧ ws9 = wS ad cI cZ mp lf n Pb gt gp gh Pv gd Pq cr rest)) := by
  refine bC.of (by decide) m_S_requireNotNegative.1 (Nat.le_of_ble_eq_true rfl) ?_
  intro Γ G E0
  show bV D bcl Γ 2 (wS ad cI cZ mp lf n Pb gt gp gh Pv gd Pq cr rest) 0 0 0 [(0, .ref (ad 0)), (1, .int (v))] []
  refine bV.iload_n G d_S_requireNotNegative_0 rfl ?_
  refine bV.if_ge (tgt := 14) G d_S_requireNotNegative_1 (by decide) (fun c1 => ?_) (fun c1 => ?_)
  · exact bV.vretO G E0 rfl (by decide) (by decide) d_S_requireNotNegative_14 ⟨c1, rfl⟩
  · exact bV.throwNew G E0 (E := "java/lang/IndexOutOfBoundsException") (tx := "a byte's index is below 0") (names := ["java/lang/RuntimeException", "java/lang/Exception"]) (by decide +kernel) (by decide +kernel) oa_199 bw_292 bw_293 bw_11 (by decide) (by decide) (by decide) (by decide) (Nat.le_of_ble_eq_true rfl) rfl d_S_requireNotNegative_4 d_S_requireNotNegative_7 d_S_requireNotNegative_8 d_S_requireNotNegative_10 d_S_requireNotNegative_13 (Or.inr ⟨_, rfl, ⟨c1, rfl, rfl⟩⟩)
theorem d_S_requireKeepable_0 : decode b_S_requireKeepable 0 = .ok (.iload_n 1, 1) := by decide +kernel
theorem d_S_requireKeepable_1 : decode b_S_requireKeepable 1 = .ok (.ifCond .lt 14, 3) := by decide +kernel
theorem d_S_requireKeepable_4 : decode b_S_requireKeepable 4 = .ok (.iload_n 1, 1) := by decide +kernel
theorem d_S_requireKeepable_5 : decode b_S_requireKeepable 5 = .ok (.aload_n 0, 1) := by decide +kernel
theorem d_S_requireKeepable_6 : decode b_S_requireKeepable 6 = .ok (.getfield 12, 3) := by decide +kernel
theorem d_S_requireKeepable_9 : decode b_S_requireKeepable 9 = .ok (.invokevirtual 147, 3) := by decide +kernel
theorem d_S_requireKeepable_12 : decode b_S_requireKeepable 12 = .ok (.if_icmp .le 13, 3) := by decide +kernel
theorem d_S_requireKeepable_15 : decode b_S_requireKeepable 15 = .ok (.new 208, 3) := by decide +kernel
theorem d_S_requireKeepable_18 : decode b_S_requireKeepable 18 = .ok (.dup, 1) := by decide +kernel
theorem d_S_requireKeepable_19 : decode b_S_requireKeepable 19 = .ok (.ldc 210, 2) := by decide +kernel
theorem d_S_requireKeepable_21 : decode b_S_requireKeepable 21 = .ok (.invokespecial 212, 3) := by decide +kernel
theorem d_S_requireKeepable_24 : decode b_S_requireKeepable 24 = .ok (.athrow, 1) := by decide +kernel
theorem d_S_requireKeepable_25 : decode b_S_requireKeepable 25 = .ok (.return_, 1) := by decide +kernel
set_option maxRecDepth 20000 in
set_option maxHeartbeats 4000000 in
theorem c_S_requireKeepable {D : va_G} {cI cZ cJ : ClassId} {ad : Nat → Nat} {mp : Nat} {lf : Nat → Int32} {n : Nat} {Pb : pc_C} {gt gp gh : Nat → Int32} {Pv : pc_C} {gd : Nat → Int32} {Pq : pc_C} {cr : Bool} {rest : va_W} {lg : Nat → Nat} (hRl : lg_R lf n lg) {v : Int32} : bC D bcl (tys3 cI cZ cJ) y_S_requireKeepable ({ frames := 6, cells := 1, slots := 6, locals := 84 }) (wS ad cI cZ mp lf n Pb gt gp gh Pv gd Pq cr rest) [.ref (ad 0), .int (v)] (bO (fun ws9 => (0 ≤ v ∧ v ≤ nI n) ∧ ws9 = wS ad cI cZ mp lf n Pb gt gp gh Pv gd Pq cr rest) (fun E ws9 => (¬ (0 ≤ v ∧ v ≤ nI n)) ∧ E = "java/lang/IllegalArgumentException" ∧ ws9 = wS ad cI cZ mp lf n Pb gt gp gh Pv gd Pq cr rest)) := by
  have fl : n ≤ 400 := hRl.1
  refine bC.of (by decide) m_S_requireKeepable.1 (Nat.le_of_ble_eq_true rfl) ?_
  intro Γ G E0
  show bV D bcl Γ 2 (wS ad cI cZ mp lf n Pb gt gp gh Pv gd Pq cr rest) 0 0 0 [(0, .ref (ad 0)), (1, .int (v))] []
  refine bV.iload_n G d_S_requireKeepable_0 rfl ?_
  refine bV.if_lt (tgt := 15) G d_S_requireKeepable_1 (by decide) (fun c1 => ?_) (fun c1 => ?_)
  · exact bV.throwNew G E0 (E := "java/lang/IllegalArgumentException") (tx := "the log does not have so many bytes") (names := ["java/lang/RuntimeException", "java/lang/Exception"]) (by decide +kernel) (by decide +kernel) oa_212 bw_417 bw_418 bw_12 (by decide) (by decide) (by decide) (by decide) (Nat.le_of_ble_eq_true rfl) rfl d_S_requireKeepable_15 d_S_requireKeepable_18 d_S_requireKeepable_19 d_S_requireKeepable_21 d_S_requireKeepable_24 (Or.inr ⟨_, rfl, ⟨fun z => by first | exact absurd z.1 (Int32.not_le.mpr c1) | exact c12 z.2, rfl, rfl⟩⟩)
  · refine bV.iload_n G d_S_requireKeepable_4 rfl ?_
    refine bV.aload_n G d_S_requireKeepable_5 rfl ?_
    refine bV.getf G cl_S 0 0 rfl (by decide) bw_73 rfl d_S_requireKeepable_6 ?_
    refine bV.callVi G m_L_length bw_414 bw_415 bw_413 (c_L_length wS_l hRl) 1 rfl rfl rfl rfl rfl ⟨by decide, by decide⟩ ⟨by decide, by decide⟩ (Nat.le_of_ble_eq_true rfl) d_S_requireKeepable_9 (fun x9 ws9 h9 => ?_)
    obtain ⟨rfl, h9e⟩ := h9
    rw [h9e]
    try dsimp only
    refine bV.icmp_le (tgt := 25) G d_S_requireKeepable_12 (by decide) (fun c12 => ?_) (fun c12 => ?_)
    · exact bV.vretO G E0 rfl (by decide) (by decide) d_S_requireKeepable_25 ⟨⟨Int32.not_lt.mp c1, c12⟩, rfl⟩
    · exact bV.throwNew G E0 (E := "java/lang/IllegalArgumentException") (tx := "the log does not have so many bytes") (names := ["java/lang/RuntimeException", "java/lang/Exception"]) (by decide +kernel) (by decide +kernel) oa_212 bw_417 bw_418 bw_12 (by decide) (by decide) (by decide) (by decide) (Nat.le_of_ble_eq_true rfl) rfl d_S_requireKeepable_15 d_S_requireKeepable_18 d_S_requireKeepable_19 d_S_requireKeepable_21 d_S_requireKeepable_24 (Or.inr ⟨_, rfl, ⟨fun z => by first | exact absurd z.1 (Int32.not_le.mpr c1) | exact c12 z.2, rfl, rfl⟩⟩)
