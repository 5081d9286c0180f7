/-! ===== a new store ===== -/
theorem d_S_init_0 : decode b_S_init 0 = .ok (.aload_n 0, 1) := by decide +kernel
theorem d_S_init_1 : decode b_S_init 1 = .ok (.invokespecial 3, 3) := by decide +kernel
theorem d_S_init_4 : decode b_S_init 4 = .ok (.aload_n 0, 1) := by decide +kernel
theorem d_S_init_5 : decode b_S_init 5 = .ok (.new 9, 3) := by decide +kernel
theorem d_S_init_8 : decode b_S_init 8 = .ok (.dup, 1) := by decide +kernel
theorem d_S_init_9 : decode b_S_init 9 = .ok (.invokespecial 11, 3) := by decide +kernel
theorem d_S_init_12 : decode b_S_init 12 = .ok (.putfield 12, 3) := by decide +kernel
theorem d_S_init_15 : decode b_S_init 15 = .ok (.aload_n 0, 1) := by decide +kernel
theorem d_S_init_16 : decode b_S_init 16 = .ok (.new 16, 3) := by decide +kernel
theorem d_S_init_19 : decode b_S_init 19 = .ok (.dup, 1) := by decide +kernel
theorem d_S_init_20 : decode b_S_init 20 = .ok (.bipush 24, 2) := by decide +kernel
theorem d_S_init_22 : decode b_S_init 22 = .ok (.sipush 600, 3) := by decide +kernel
theorem d_S_init_25 : decode b_S_init 25 = .ok (.invokespecial 18, 3) := by decide +kernel
theorem d_S_init_28 : decode b_S_init 28 = .ok (.putfield 21, 3) := by decide +kernel
theorem d_S_init_31 : decode b_S_init 31 = .ok (.aload_n 0, 1) := by decide +kernel
theorem d_S_init_32 : decode b_S_init 32 = .ok (.new 25, 3) := by decide +kernel
theorem d_S_init_35 : decode b_S_init 35 = .ok (.dup, 1) := by decide +kernel
theorem d_S_init_36 : decode b_S_init 36 = .ok (.bipush 24, 2) := by decide +kernel
theorem d_S_init_38 : decode b_S_init 38 = .ok (.invokespecial 27, 3) := by decide +kernel
theorem d_S_init_41 : decode b_S_init 41 = .ok (.putfield 30, 3) := by decide +kernel
theorem d_S_init_44 : decode b_S_init 44 = .ok (.aload_n 0, 1) := by decide +kernel
theorem d_S_init_45 : decode b_S_init 45 = .ok (.new 25, 3) := by decide +kernel
theorem d_S_init_48 : decode b_S_init 48 = .ok (.dup, 1) := by decide +kernel
theorem d_S_init_49 : decode b_S_init 49 = .ok (.bipush 24, 2) := by decide +kernel
theorem d_S_init_51 : decode b_S_init 51 = .ok (.invokespecial 27, 3) := by decide +kernel
theorem d_S_init_54 : decode b_S_init 54 = .ok (.putfield 34, 3) := by decide +kernel
theorem d_S_init_57 : decode b_S_init 57 = .ok (.aload_n 0, 1) := by decide +kernel
theorem d_S_init_58 : decode b_S_init 58 = .ok (.new 25, 3) := by decide +kernel
theorem d_S_init_61 : decode b_S_init 61 = .ok (.dup, 1) := by decide +kernel
theorem d_S_init_62 : decode b_S_init 62 = .ok (.bipush 24, 2) := by decide +kernel
theorem d_S_init_64 : decode b_S_init 64 = .ok (.invokespecial 27, 3) := by decide +kernel
theorem d_S_init_67 : decode b_S_init 67 = .ok (.putfield 37, 3) := by decide +kernel
theorem d_S_init_70 : decode b_S_init 70 = .ok (.aload_n 0, 1) := by decide +kernel
theorem d_S_init_71 : decode b_S_init 71 = .ok (.new 16, 3) := by decide +kernel
theorem d_S_init_74 : decode b_S_init 74 = .ok (.dup, 1) := by decide +kernel
theorem d_S_init_75 : decode b_S_init 75 = .ok (.bipush 12, 2) := by decide +kernel
theorem d_S_init_77 : decode b_S_init 77 = .ok (.bipush 104, 2) := by decide +kernel
theorem d_S_init_79 : decode b_S_init 79 = .ok (.invokespecial 18, 3) := by decide +kernel
theorem d_S_init_82 : decode b_S_init 82 = .ok (.putfield 40, 3) := by decide +kernel
theorem d_S_init_85 : decode b_S_init 85 = .ok (.aload_n 0, 1) := by decide +kernel
theorem d_S_init_86 : decode b_S_init 86 = .ok (.new 25, 3) := by decide +kernel
theorem d_S_init_89 : decode b_S_init 89 = .ok (.dup, 1) := by decide +kernel
theorem d_S_init_90 : decode b_S_init 90 = .ok (.bipush 12, 2) := by decide +kernel
theorem d_S_init_92 : decode b_S_init 92 = .ok (.invokespecial 27, 3) := by decide +kernel
theorem d_S_init_95 : decode b_S_init 95 = .ok (.putfield 43, 3) := by decide +kernel
theorem d_S_init_98 : decode b_S_init 98 = .ok (.aload_n 0, 1) := by decide +kernel
theorem d_S_init_99 : decode b_S_init 99 = .ok (.new 16, 3) := by decide +kernel
theorem d_S_init_102 : decode b_S_init 102 = .ok (.dup, 1) := by decide +kernel
theorem d_S_init_103 : decode b_S_init 103 = .ok (.iconst 1, 1) := by decide +kernel
theorem d_S_init_104 : decode b_S_init 104 = .ok (.bipush 8, 2) := by decide +kernel
theorem d_S_init_106 : decode b_S_init 106 = .ok (.iload_n 1, 1) := by decide +kernel
theorem d_S_init_107 : decode b_S_init 107 = .ok (.invokestatic 46, 3) := by decide +kernel
theorem d_S_init_110 : decode b_S_init 110 = .ok (.invokestatic 52, 3) := by decide +kernel
theorem d_S_init_113 : decode b_S_init 113 = .ok (.sipush 664, 3) := by decide +kernel
theorem d_S_init_116 : decode b_S_init 116 = .ok (.invokespecial 18, 3) := by decide +kernel
theorem d_S_init_119 : decode b_S_init 119 = .ok (.putfield 55, 3) := by decide +kernel
theorem d_S_init_122 : decode b_S_init 122 = .ok (.aload_n 0, 1) := by decide +kernel
theorem d_S_init_123 : decode b_S_init 123 = .ok (.iconst 0, 1) := by decide +kernel
theorem d_S_init_124 : decode b_S_init 124 = .ok (.putfield 58, 3) := by decide +kernel
theorem d_S_init_127 : decode b_S_init 127 = .ok (.return_, 1) := by decide +kernel
set_option maxRecDepth 20000 in
set_option maxHeartbeats 4000000 in
theorem c_S_init {D : va_G} {cI cZ cJ : ClassId} {a : Nat} {v : Int32} : bC D bcl (tys3 cI cZ cJ) y_S_init ({ frames := 2, cells := 19, slots := 2700, locals := 60 }) [(a, .inr (3, [.null, .null, .null, .null, .null, .null, .null, .null, .int (0)]))] [.ref a, .int v] (bO (fun ws9 => ∃ ad : Nat → Nat, ad 0 = a ∧ ws9 = wS ad cI cZ (mpN v) (fun _ => 0) 0 ((fun _ => 0, fun _ => 0, 0, 0) : pc_C) (fun _ => 0) (fun _ => 0) (fun _ => 0) ((fun _ => 0, fun _ => 0, 0, 0) : pc_C) (fun _ => 0) ((fun _ => 0, fun _ => 0, 0, 0) : pc_C) false []) bno) := by
  have hmp := mpN_b v
  refine bC.of (by decide) m_S_init.1 (Nat.le_of_ble_eq_true rfl) ?_
  intro Γ G E0
  show bV D bcl Γ 2 [(a, .inr (3, [.null, .null, .null, .null, .null, .null, .null, .null, .int (0)]))] 0 0 0 [(0, .ref a), (1, .int (v))] []
  refine bV.aload_n G d_S_init_0 rfl ?_
  refine bV.objInit G bw_18 bw_19 bw_20 (by decide) (by decide) d_S_init_1 ?_
  refine bV.aload_n G d_S_init_4 rfl ?_
  refine bV.new G cl_L (fs := [.null, .int (0)]) bw_21 bw_22 bw_2 (by decide) (Nat.le_of_ble_eq_true rfl) (Nat.le_of_ble_eq_true rfl) d_S_init_5 (fun o5 => ?_)
  show bV D bcl Γ 2 [(a, .inr (3, [.null, .null, .null, .null, .null, .null, .null, .null, .int (0)])), (o5, .inr (0, [.null, .int (0)]))] _ _ _ _ _
  refine bV.dup G d_S_init_8 rfl ?_
  refine bV.callINo (host := "BoardStore") G m_L_init rfl bw_24 bw_25 (by decide) (c_L_init (q0 := 1) rfl) rfl rfl ⟨by decide, by decide⟩ ⟨by decide, by decide⟩ (Nat.le_of_ble_eq_true rfl) d_S_init_9 (fun ws9 h9 => ?_)
  obtain ⟨r9a, h9e⟩ := h9
  rw [h9e]
  show bV D bcl Γ 2 [(a, .inr (3, [.null, .null, .null, .null, .null, .null, .null, .null, .int (0)])), (o5, .inr (0, [.ref r9a, .int (nI (0))])), (r9a, .inl (cI, 400, .inl (fun _ => 0)))] _ _ _ _ _
  refine bV.putF G (ws' := [(a, .inr (3, [.ref o5, .null, .null, .null, .null, .null, .null, .null, .int (0)])), (o5, .inr (0, [.ref r9a, .int (nI (0))])), (r9a, .inl (cI, 400, .inl (fun _ => 0)))]) cl_S 0 0 rfl (by decide) bw_73 rfl rfl rfl rfl (Nat.le_of_ble_eq_true rfl) d_S_init_12 rfl ?_
  refine bV.aload_n G d_S_init_15 rfl ?_
  refine bV.new G cl_P (fs := [.null, .null, .int (0), .int (0)]) bw_35 bw_36 bw_3 (by decide) (Nat.le_of_ble_eq_true rfl) (Nat.le_of_ble_eq_true rfl) d_S_init_16 (fun o16 => ?_)
  show bV D bcl Γ 2 [(a, .inr (3, [.ref o5, .null, .null, .null, .null, .null, .null, .null, .int (0)])), (o5, .inr (0, [.ref r9a, .int (nI (0))])), (r9a, .inl (cI, 400, .inl (fun _ => 0))), (o16, .inr (2, [.null, .null, .int (0), .int (0)]))] _ _ _ _ _
  refine bV.dup G d_S_init_19 rfl ?_
  refine bV.bipush (v := nI 24) G d_S_init_20 (by decide) ?_
  refine bV.sipush (v := nI 600) G d_S_init_22 (by decide) ?_
  refine bV.callIo G m_P_init rfl bw_38 bw_39 bw_37 (c_P_init (q0 := 3) (mo := 24) (ro := 600) (by omega) rfl) rfl rfl ⟨by decide, by decide⟩ ⟨by decide, by decide⟩ (Nat.le_of_ble_eq_true rfl) d_S_init_25 (fun ws9 h9 => ?_)
  obtain ⟨r25a, r25b, h9e⟩ := h9
  rw [h9e]
  show bV D bcl Γ 2 [(a, .inr (3, [.ref o5, .null, .null, .null, .null, .null, .null, .null, .int (0)])), (o5, .inr (0, [.ref r9a, .int (nI (0))])), (r9a, .inl (cI, 400, .inl (fun _ => 0))), (o16, .inr (2, [.ref r25a, .ref r25b, .int (nI (0)), .int (nI (0))])), (r25a, .inl (cI, 600, .inl (fun _ => 0))), (r25b, .inl (cI, (24 + 1), .inl (fun _ => 0)))] _ _ _ _ _
  refine bV.putF G (ws' := [(a, .inr (3, [.ref o5, .ref o16, .null, .null, .null, .null, .null, .null, .int (0)])), (o5, .inr (0, [.ref r9a, .int (nI (0))])), (r9a, .inl (cI, 400, .inl (fun _ => 0))), (o16, .inr (2, [.ref r25a, .ref r25b, .int (nI (0)), .int (nI (0))])), (r25a, .inl (cI, 600, .inl (fun _ => 0))), (r25b, .inl (cI, (24 + 1), .inl (fun _ => 0)))]) cl_S 0 1 rfl (by decide) bw_74 rfl rfl rfl rfl (Nat.le_of_ble_eq_true rfl) d_S_init_28 rfl ?_
  refine bV.aload_n G d_S_init_31 rfl ?_
  refine bV.new G cl_K (fs := [.null]) bw_57 bw_58 bw_5 (by decide) (Nat.le_of_ble_eq_true rfl) (Nat.le_of_ble_eq_true rfl) d_S_init_32 (fun o32 => ?_)
  show bV D bcl Γ 2 [(a, .inr (3, [.ref o5, .ref o16, .null, .null, .null, .null, .null, .null, .int (0)])), (o5, .inr (0, [.ref r9a, .int (nI (0))])), (r9a, .inl (cI, 400, .inl (fun _ => 0))), (o16, .inr (2, [.ref r25a, .ref r25b, .int (nI (0)), .int (nI (0))])), (r25a, .inl (cI, 600, .inl (fun _ => 0))), (r25b, .inl (cI, (24 + 1), .inl (fun _ => 0))), (o32, .inr (1, [.null]))] _ _ _ _ _
  refine bV.dup G d_S_init_35 rfl ?_
  refine bV.bipush (v := nI 24) G d_S_init_36 (by decide) ?_
  refine bV.callIo G m_K_init rfl bw_60 bw_61 bw_59 (c_K_init (q0 := 6) (y := 24) (by decide) rfl) rfl rfl ⟨by decide, by decide⟩ ⟨by decide, by decide⟩ (Nat.le_of_ble_eq_true rfl) d_S_init_38 (fun ws9 h9 => ?_)
  obtain ⟨r38a, h9e⟩ := h9
  rw [h9e]
  show bV D bcl Γ 2 [(a, .inr (3, [.ref o5, .ref o16, .null, .null, .null, .null, .null, .null, .int (0)])), (o5, .inr (0, [.ref r9a, .int (nI (0))])), (r9a, .inl (cI, 400, .inl (fun _ => 0))), (o16, .inr (2, [.ref r25a, .ref r25b, .int (nI (0)), .int (nI (0))])), (r25a, .inl (cI, 600, .inl (fun _ => 0))), (r25b, .inl (cI, (24 + 1), .inl (fun _ => 0))), (o32, .inr (1, [.ref r38a])), (r38a, .inl (cZ, 24, .inl (fun _ => 0)))] _ _ _ _ _
  refine bV.putF G (ws' := [(a, .inr (3, [.ref o5, .ref o16, .ref o32, .null, .null, .null, .null, .null, .int (0)])), (o5, .inr (0, [.ref r9a, .int (nI (0))])), (r9a, .inl (cI, 400, .inl (fun _ => 0))), (o16, .inr (2, [.ref r25a, .ref r25b, .int (nI (0)), .int (nI (0))])), (r25a, .inl (cI, 600, .inl (fun _ => 0))), (r25b, .inl (cI, (24 + 1), .inl (fun _ => 0))), (o32, .inr (1, [.ref r38a])), (r38a, .inl (cZ, 24, .inl (fun _ => 0)))]) cl_S 0 2 rfl (by decide) bw_75 rfl rfl rfl rfl (Nat.le_of_ble_eq_true rfl) d_S_init_41 rfl ?_
  refine bV.aload_n G d_S_init_44 rfl ?_
  refine bV.new G cl_K (fs := [.null]) bw_57 bw_58 bw_5 (by decide) (Nat.le_of_ble_eq_true rfl) (Nat.le_of_ble_eq_true rfl) d_S_init_45 (fun o45 => ?_)
  show bV D bcl Γ 2 [(a, .inr (3, [.ref o5, .ref o16, .ref o32, .null, .null, .null, .null, .null, .int (0)])), (o5, .inr (0, [.ref r9a, .int (nI (0))])), (r9a, .inl (cI, 400, .inl (fun _ => 0))), (o16, .inr (2, [.ref r25a, .ref r25b, .int (nI (0)), .int (nI (0))])), (r25a, .inl (cI, 600, .inl (fun _ => 0))), (r25b, .inl (cI, (24 + 1), .inl (fun _ => 0))), (o32, .inr (1, [.ref r38a])), (r38a, .inl (cZ, 24, .inl (fun _ => 0))), (o45, .inr (1, [.null]))] _ _ _ _ _
  refine bV.dup G d_S_init_48 rfl ?_
  refine bV.bipush (v := nI 24) G d_S_init_49 (by decide) ?_
  refine bV.callIo G m_K_init rfl bw_60 bw_61 bw_59 (c_K_init (q0 := 8) (y := 24) (by decide) rfl) rfl rfl ⟨by decide, by decide⟩ ⟨by decide, by decide⟩ (Nat.le_of_ble_eq_true rfl) d_S_init_51 (fun ws9 h9 => ?_)
  obtain ⟨r51a, h9e⟩ := h9
  rw [h9e]
  show bV D bcl Γ 2 [(a, .inr (3, [.ref o5, .ref o16, .ref o32, .null, .null, .null, .null, .null, .int (0)])), (o5, .inr (0, [.ref r9a, .int (nI (0))])), (r9a, .inl (cI, 400, .inl (fun _ => 0))), (o16, .inr (2, [.ref r25a, .ref r25b, .int (nI (0)), .int (nI (0))])), (r25a, .inl (cI, 600, .inl (fun _ => 0))), (r25b, .inl (cI, (24 + 1), .inl (fun _ => 0))), (o32, .inr (1, [.ref r38a])), (r38a, .inl (cZ, 24, .inl (fun _ => 0))), (o45, .inr (1, [.ref r51a])), (r51a, .inl (cZ, 24, .inl (fun _ => 0)))] _ _ _ _ _
  refine bV.putF G (ws' := [(a, .inr (3, [.ref o5, .ref o16, .ref o32, .ref o45, .null, .null, .null, .null, .int (0)])), (o5, .inr (0, [.ref r9a, .int (nI (0))])), (r9a, .inl (cI, 400, .inl (fun _ => 0))), (o16, .inr (2, [.ref r25a, .ref r25b, .int (nI (0)), .int (nI (0))])), (r25a, .inl (cI, 600, .inl (fun _ => 0))), (r25b, .inl (cI, (24 + 1), .inl (fun _ => 0))), (o32, .inr (1, [.ref r38a])), (r38a, .inl (cZ, 24, .inl (fun _ => 0))), (o45, .inr (1, [.ref r51a])), (r51a, .inl (cZ, 24, .inl (fun _ => 0)))]) cl_S 0 3 rfl (by decide) bw_76 rfl rfl rfl rfl (Nat.le_of_ble_eq_true rfl) d_S_init_54 rfl ?_
  refine bV.aload_n G d_S_init_57 rfl ?_
  refine bV.new G cl_K (fs := [.null]) bw_57 bw_58 bw_5 (by decide) (Nat.le_of_ble_eq_true rfl) (Nat.le_of_ble_eq_true rfl) d_S_init_58 (fun o58 => ?_)
  show bV D bcl Γ 2 [(a, .inr (3, [.ref o5, .ref o16, .ref o32, .ref o45, .null, .null, .null, .null, .int (0)])), (o5, .inr (0, [.ref r9a, .int (nI (0))])), (r9a, .inl (cI, 400, .inl (fun _ => 0))), (o16, .inr (2, [.ref r25a, .ref r25b, .int (nI (0)), .int (nI (0))])), (r25a, .inl (cI, 600, .inl (fun _ => 0))), (r25b, .inl (cI, (24 + 1), .inl (fun _ => 0))), (o32, .inr (1, [.ref r38a])), (r38a, .inl (cZ, 24, .inl (fun _ => 0))), (o45, .inr (1, [.ref r51a])), (r51a, .inl (cZ, 24, .inl (fun _ => 0))), (o58, .inr (1, [.null]))] _ _ _ _ _
  refine bV.dup G d_S_init_61 rfl ?_
  refine bV.bipush (v := nI 24) G d_S_init_62 (by decide) ?_
  refine bV.callIo G m_K_init rfl bw_60 bw_61 bw_59 (c_K_init (q0 := 10) (y := 24) (by decide) rfl) rfl rfl ⟨by decide, by decide⟩ ⟨by decide, by decide⟩ (Nat.le_of_ble_eq_true rfl) d_S_init_64 (fun ws9 h9 => ?_)
  obtain ⟨r64a, h9e⟩ := h9
  rw [h9e]
  show bV D bcl Γ 2 [(a, .inr (3, [.ref o5, .ref o16, .ref o32, .ref o45, .null, .null, .null, .null, .int (0)])), (o5, .inr (0, [.ref r9a, .int (nI (0))])), (r9a, .inl (cI, 400, .inl (fun _ => 0))), (o16, .inr (2, [.ref r25a, .ref r25b, .int (nI (0)), .int (nI (0))])), (r25a, .inl (cI, 600, .inl (fun _ => 0))), (r25b, .inl (cI, (24 + 1), .inl (fun _ => 0))), (o32, .inr (1, [.ref r38a])), (r38a, .inl (cZ, 24, .inl (fun _ => 0))), (o45, .inr (1, [.ref r51a])), (r51a, .inl (cZ, 24, .inl (fun _ => 0))), (o58, .inr (1, [.ref r64a])), (r64a, .inl (cZ, 24, .inl (fun _ => 0)))] _ _ _ _ _
  refine bV.putF G (ws' := [(a, .inr (3, [.ref o5, .ref o16, .ref o32, .ref o45, .ref o58, .null, .null, .null, .int (0)])), (o5, .inr (0, [.ref r9a, .int (nI (0))])), (r9a, .inl (cI, 400, .inl (fun _ => 0))), (o16, .inr (2, [.ref r25a, .ref r25b, .int (nI (0)), .int (nI (0))])), (r25a, .inl (cI, 600, .inl (fun _ => 0))), (r25b, .inl (cI, (24 + 1), .inl (fun _ => 0))), (o32, .inr (1, [.ref r38a])), (r38a, .inl (cZ, 24, .inl (fun _ => 0))), (o45, .inr (1, [.ref r51a])), (r51a, .inl (cZ, 24, .inl (fun _ => 0))), (o58, .inr (1, [.ref r64a])), (r64a, .inl (cZ, 24, .inl (fun _ => 0)))]) cl_S 0 4 rfl (by decide) bw_77 rfl rfl rfl rfl (Nat.le_of_ble_eq_true rfl) d_S_init_67 rfl ?_
  refine bV.aload_n G d_S_init_70 rfl ?_
  refine bV.new G cl_P (fs := [.null, .null, .int (0), .int (0)]) bw_35 bw_36 bw_3 (by decide) (Nat.le_of_ble_eq_true rfl) (Nat.le_of_ble_eq_true rfl) d_S_init_71 (fun o71 => ?_)
  show bV D bcl Γ 2 [(a, .inr (3, [.ref o5, .ref o16, .ref o32, .ref o45, .ref o58, .null, .null, .null, .int (0)])), (o5, .inr (0, [.ref r9a, .int (nI (0))])), (r9a, .inl (cI, 400, .inl (fun _ => 0))), (o16, .inr (2, [.ref r25a, .ref r25b, .int (nI (0)), .int (nI (0))])), (r25a, .inl (cI, 600, .inl (fun _ => 0))), (r25b, .inl (cI, (24 + 1), .inl (fun _ => 0))), (o32, .inr (1, [.ref r38a])), (r38a, .inl (cZ, 24, .inl (fun _ => 0))), (o45, .inr (1, [.ref r51a])), (r51a, .inl (cZ, 24, .inl (fun _ => 0))), (o58, .inr (1, [.ref r64a])), (r64a, .inl (cZ, 24, .inl (fun _ => 0))), (o71, .inr (2, [.null, .null, .int (0), .int (0)]))] _ _ _ _ _
  refine bV.dup G d_S_init_74 rfl ?_
  refine bV.bipush (v := nI 12) G d_S_init_75 (by decide) ?_
  refine bV.bipush (v := nI 104) G d_S_init_77 (by decide) ?_
  refine bV.callIo G m_P_init rfl bw_38 bw_39 bw_37 (c_P_init (q0 := 12) (mo := 12) (ro := 104) (by omega) rfl) rfl rfl ⟨by decide, by decide⟩ ⟨by decide, by decide⟩ (Nat.le_of_ble_eq_true rfl) d_S_init_79 (fun ws9 h9 => ?_)
  obtain ⟨r79a, r79b, h9e⟩ := h9
  rw [h9e]
  show bV D bcl Γ 2 [(a, .inr (3, [.ref o5, .ref o16, .ref o32, .ref o45, .ref o58, .null, .null, .null, .int (0)])), (o5, .inr (0, [.ref r9a, .int (nI (0))])), (r9a, .inl (cI, 400, .inl (fun _ => 0))), (o16, .inr (2, [.ref r25a, .ref r25b, .int (nI (0)), .int (nI (0))])), (r25a, .inl (cI, 600, .inl (fun _ => 0))), (r25b, .inl (cI, (24 + 1), .inl (fun _ => 0))), (o32, .inr (1, [.ref r38a])), (r38a, .inl (cZ, 24, .inl (fun _ => 0))), (o45, .inr (1, [.ref r51a])), (r51a, .inl (cZ, 24, .inl (fun _ => 0))), (o58, .inr (1, [.ref r64a])), (r64a, .inl (cZ, 24, .inl (fun _ => 0))), (o71, .inr (2, [.ref r79a, .ref r79b, .int (nI (0)), .int (nI (0))])), (r79a, .inl (cI, 104, .inl (fun _ => 0))), (r79b, .inl (cI, (12 + 1), .inl (fun _ => 0)))] _ _ _ _ _
  refine bV.putF G (ws' := [(a, .inr (3, [.ref o5, .ref o16, .ref o32, .ref o45, .ref o58, .ref o71, .null, .null, .int (0)])), (o5, .inr (0, [.ref r9a, .int (nI (0))])), (r9a, .inl (cI, 400, .inl (fun _ => 0))), (o16, .inr (2, [.ref r25a, .ref r25b, .int (nI (0)), .int (nI (0))])), (r25a, .inl (cI, 600, .inl (fun _ => 0))), (r25b, .inl (cI, (24 + 1), .inl (fun _ => 0))), (o32, .inr (1, [.ref r38a])), (r38a, .inl (cZ, 24, .inl (fun _ => 0))), (o45, .inr (1, [.ref r51a])), (r51a, .inl (cZ, 24, .inl (fun _ => 0))), (o58, .inr (1, [.ref r64a])), (r64a, .inl (cZ, 24, .inl (fun _ => 0))), (o71, .inr (2, [.ref r79a, .ref r79b, .int (nI (0)), .int (nI (0))])), (r79a, .inl (cI, 104, .inl (fun _ => 0))), (r79b, .inl (cI, (12 + 1), .inl (fun _ => 0)))]) cl_S 0 5 rfl (by decide) bw_78 rfl rfl rfl rfl (Nat.le_of_ble_eq_true rfl) d_S_init_82 rfl ?_
  refine bV.aload_n G d_S_init_85 rfl ?_
  refine bV.new G cl_K (fs := [.null]) bw_57 bw_58 bw_5 (by decide) (Nat.le_of_ble_eq_true rfl) (Nat.le_of_ble_eq_true rfl) d_S_init_86 (fun o86 => ?_)
  show bV D bcl Γ 2 [(a, .inr (3, [.ref o5, .ref o16, .ref o32, .ref o45, .ref o58, .ref o71, .null, .null, .int (0)])), (o5, .inr (0, [.ref r9a, .int (nI (0))])), (r9a, .inl (cI, 400, .inl (fun _ => 0))), (o16, .inr (2, [.ref r25a, .ref r25b, .int (nI (0)), .int (nI (0))])), (r25a, .inl (cI, 600, .inl (fun _ => 0))), (r25b, .inl (cI, (24 + 1), .inl (fun _ => 0))), (o32, .inr (1, [.ref r38a])), (r38a, .inl (cZ, 24, .inl (fun _ => 0))), (o45, .inr (1, [.ref r51a])), (r51a, .inl (cZ, 24, .inl (fun _ => 0))), (o58, .inr (1, [.ref r64a])), (r64a, .inl (cZ, 24, .inl (fun _ => 0))), (o71, .inr (2, [.ref r79a, .ref r79b, .int (nI (0)), .int (nI (0))])), (r79a, .inl (cI, 104, .inl (fun _ => 0))), (r79b, .inl (cI, (12 + 1), .inl (fun _ => 0))), (o86, .inr (1, [.null]))] _ _ _ _ _
  refine bV.dup G d_S_init_89 rfl ?_
  refine bV.bipush (v := nI 12) G d_S_init_90 (by decide) ?_
  refine bV.callIo G m_K_init rfl bw_60 bw_61 bw_59 (c_K_init (q0 := 15) (y := 12) (by decide) rfl) rfl rfl ⟨by decide, by decide⟩ ⟨by decide, by decide⟩ (Nat.le_of_ble_eq_true rfl) d_S_init_92 (fun ws9 h9 => ?_)
  obtain ⟨r92a, h9e⟩ := h9
  rw [h9e]
  show bV D bcl Γ 2 [(a, .inr (3, [.ref o5, .ref o16, .ref o32, .ref o45, .ref o58, .ref o71, .null, .null, .int (0)])), (o5, .inr (0, [.ref r9a, .int (nI (0))])), (r9a, .inl (cI, 400, .inl (fun _ => 0))), (o16, .inr (2, [.ref r25a, .ref r25b, .int (nI (0)), .int (nI (0))])), (r25a, .inl (cI, 600, .inl (fun _ => 0))), (r25b, .inl (cI, (24 + 1), .inl (fun _ => 0))), (o32, .inr (1, [.ref r38a])), (r38a, .inl (cZ, 24, .inl (fun _ => 0))), (o45, .inr (1, [.ref r51a])), (r51a, .inl (cZ, 24, .inl (fun _ => 0))), (o58, .inr (1, [.ref r64a])), (r64a, .inl (cZ, 24, .inl (fun _ => 0))), (o71, .inr (2, [.ref r79a, .ref r79b, .int (nI (0)), .int (nI (0))])), (r79a, .inl (cI, 104, .inl (fun _ => 0))), (r79b, .inl (cI, (12 + 1), .inl (fun _ => 0))), (o86, .inr (1, [.ref r92a])), (r92a, .inl (cZ, 12, .inl (fun _ => 0)))] _ _ _ _ _
  refine bV.putF G (ws' := [(a, .inr (3, [.ref o5, .ref o16, .ref o32, .ref o45, .ref o58, .ref o71, .ref o86, .null, .int (0)])), (o5, .inr (0, [.ref r9a, .int (nI (0))])), (r9a, .inl (cI, 400, .inl (fun _ => 0))), (o16, .inr (2, [.ref r25a, .ref r25b, .int (nI (0)), .int (nI (0))])), (r25a, .inl (cI, 600, .inl (fun _ => 0))), (r25b, .inl (cI, (24 + 1), .inl (fun _ => 0))), (o32, .inr (1, [.ref r38a])), (r38a, .inl (cZ, 24, .inl (fun _ => 0))), (o45, .inr (1, [.ref r51a])), (r51a, .inl (cZ, 24, .inl (fun _ => 0))), (o58, .inr (1, [.ref r64a])), (r64a, .inl (cZ, 24, .inl (fun _ => 0))), (o71, .inr (2, [.ref r79a, .ref r79b, .int (nI (0)), .int (nI (0))])), (r79a, .inl (cI, 104, .inl (fun _ => 0))), (r79b, .inl (cI, (12 + 1), .inl (fun _ => 0))), (o86, .inr (1, [.ref r92a])), (r92a, .inl (cZ, 12, .inl (fun _ => 0)))]) cl_S 0 6 rfl (by decide) bw_79 rfl rfl rfl rfl (Nat.le_of_ble_eq_true rfl) d_S_init_95 rfl ?_
  refine bV.aload_n G d_S_init_98 rfl ?_
  refine bV.new G cl_P (fs := [.null, .null, .int (0), .int (0)]) bw_35 bw_36 bw_3 (by decide) (Nat.le_of_ble_eq_true rfl) (Nat.le_of_ble_eq_true rfl) d_S_init_99 (fun o99 => ?_)
  show bV D bcl Γ 2 [(a, .inr (3, [.ref o5, .ref o16, .ref o32, .ref o45, .ref o58, .ref o71, .ref o86, .null, .int (0)])), (o5, .inr (0, [.ref r9a, .int (nI (0))])), (r9a, .inl (cI, 400, .inl (fun _ => 0))), (o16, .inr (2, [.ref r25a, .ref r25b, .int (nI (0)), .int (nI (0))])), (r25a, .inl (cI, 600, .inl (fun _ => 0))), (r25b, .inl (cI, (24 + 1), .inl (fun _ => 0))), (o32, .inr (1, [.ref r38a])), (r38a, .inl (cZ, 24, .inl (fun _ => 0))), (o45, .inr (1, [.ref r51a])), (r51a, .inl (cZ, 24, .inl (fun _ => 0))), (o58, .inr (1, [.ref r64a])), (r64a, .inl (cZ, 24, .inl (fun _ => 0))), (o71, .inr (2, [.ref r79a, .ref r79b, .int (nI (0)), .int (nI (0))])), (r79a, .inl (cI, 104, .inl (fun _ => 0))), (r79b, .inl (cI, (12 + 1), .inl (fun _ => 0))), (o86, .inr (1, [.ref r92a])), (r92a, .inl (cZ, 12, .inl (fun _ => 0))), (o99, .inr (2, [.null, .null, .int (0), .int (0)]))] _ _ _ _ _
  refine bV.dup G d_S_init_102 rfl ?_
  refine bV.iconst (v := nI 1) G d_S_init_103 (by decide) ?_
  refine bV.bipush (v := nI 8) G d_S_init_104 (by decide) ?_
  refine bV.iload_n G d_S_init_106 rfl ?_
  refine bV.mmin G bw_69 bw_70 bw_4 bw_71 (by decide) (Nat.le_of_ble_eq_true rfl) (Nat.le_of_ble_eq_true rfl) (Nat.le_of_ble_eq_true rfl) d_S_init_107 ?_
  refine bV.mmax G bw_72 bw_42 bw_4 bw_43 (by decide) (Nat.le_of_ble_eq_true rfl) (Nat.le_of_ble_eq_true rfl) (Nat.le_of_ble_eq_true rfl) d_S_init_110 ?_
  refine bV.topi (y := (nI (mpN v))) (mp_e v) ?_
  refine bV.sipush (v := nI 664) G d_S_init_113 (by decide) ?_
  refine bV.callIo G m_P_init rfl bw_38 bw_39 bw_37 (c_P_init (q0 := 17) (mo := mpN v) (ro := 664) (by omega) rfl) rfl rfl ⟨by decide, by decide⟩ ⟨by decide, by decide⟩ (Nat.le_of_ble_eq_true rfl) d_S_init_116 (fun ws9 h9 => ?_)
  obtain ⟨r116a, r116b, h9e⟩ := h9
  rw [h9e]
  show bV D bcl Γ 2 [(a, .inr (3, [.ref o5, .ref o16, .ref o32, .ref o45, .ref o58, .ref o71, .ref o86, .null, .int (0)])), (o5, .inr (0, [.ref r9a, .int (nI (0))])), (r9a, .inl (cI, 400, .inl (fun _ => 0))), (o16, .inr (2, [.ref r25a, .ref r25b, .int (nI (0)), .int (nI (0))])), (r25a, .inl (cI, 600, .inl (fun _ => 0))), (r25b, .inl (cI, (24 + 1), .inl (fun _ => 0))), (o32, .inr (1, [.ref r38a])), (r38a, .inl (cZ, 24, .inl (fun _ => 0))), (o45, .inr (1, [.ref r51a])), (r51a, .inl (cZ, 24, .inl (fun _ => 0))), (o58, .inr (1, [.ref r64a])), (r64a, .inl (cZ, 24, .inl (fun _ => 0))), (o71, .inr (2, [.ref r79a, .ref r79b, .int (nI (0)), .int (nI (0))])), (r79a, .inl (cI, 104, .inl (fun _ => 0))), (r79b, .inl (cI, (12 + 1), .inl (fun _ => 0))), (o86, .inr (1, [.ref r92a])), (r92a, .inl (cZ, 12, .inl (fun _ => 0))), (o99, .inr (2, [.ref r116a, .ref r116b, .int (nI (0)), .int (nI (0))])), (r116a, .inl (cI, 664, .inl (fun _ => 0))), (r116b, .inl (cI, (mpN v + 1), .inl (fun _ => 0)))] _ _ _ _ _
  refine bV.putF G (ws' := [(a, .inr (3, [.ref o5, .ref o16, .ref o32, .ref o45, .ref o58, .ref o71, .ref o86, .ref o99, .int (0)])), (o5, .inr (0, [.ref r9a, .int (nI (0))])), (r9a, .inl (cI, 400, .inl (fun _ => 0))), (o16, .inr (2, [.ref r25a, .ref r25b, .int (nI (0)), .int (nI (0))])), (r25a, .inl (cI, 600, .inl (fun _ => 0))), (r25b, .inl (cI, (24 + 1), .inl (fun _ => 0))), (o32, .inr (1, [.ref r38a])), (r38a, .inl (cZ, 24, .inl (fun _ => 0))), (o45, .inr (1, [.ref r51a])), (r51a, .inl (cZ, 24, .inl (fun _ => 0))), (o58, .inr (1, [.ref r64a])), (r64a, .inl (cZ, 24, .inl (fun _ => 0))), (o71, .inr (2, [.ref r79a, .ref r79b, .int (nI (0)), .int (nI (0))])), (r79a, .inl (cI, 104, .inl (fun _ => 0))), (r79b, .inl (cI, (12 + 1), .inl (fun _ => 0))), (o86, .inr (1, [.ref r92a])), (r92a, .inl (cZ, 12, .inl (fun _ => 0))), (o99, .inr (2, [.ref r116a, .ref r116b, .int (nI (0)), .int (nI (0))])), (r116a, .inl (cI, 664, .inl (fun _ => 0))), (r116b, .inl (cI, (mpN v + 1), .inl (fun _ => 0)))]) cl_S 0 7 rfl (by decide) bw_80 rfl rfl rfl rfl (Nat.le_of_ble_eq_true rfl) d_S_init_119 rfl ?_
  refine bV.aload_n G d_S_init_122 rfl ?_
  refine bV.iconst (v := nI 0) G d_S_init_123 (by decide) ?_
  refine bV.topi (x := nI 0) (y := bB false) (by decide) ?_
  refine bV.putf G (ws' := [(a, .inr (3, [.ref o5, .ref o16, .ref o32, .ref o45, .ref o58, .ref o71, .ref o86, .ref o99, .int (bB (false))])), (o5, .inr (0, [.ref r9a, .int (nI (0))])), (r9a, .inl (cI, 400, .inl (fun _ => 0))), (o16, .inr (2, [.ref r25a, .ref r25b, .int (nI (0)), .int (nI (0))])), (r25a, .inl (cI, 600, .inl (fun _ => 0))), (r25b, .inl (cI, (24 + 1), .inl (fun _ => 0))), (o32, .inr (1, [.ref r38a])), (r38a, .inl (cZ, 24, .inl (fun _ => 0))), (o45, .inr (1, [.ref r51a])), (r51a, .inl (cZ, 24, .inl (fun _ => 0))), (o58, .inr (1, [.ref r64a])), (r64a, .inl (cZ, 24, .inl (fun _ => 0))), (o71, .inr (2, [.ref r79a, .ref r79b, .int (nI (0)), .int (nI (0))])), (r79a, .inl (cI, 104, .inl (fun _ => 0))), (r79b, .inl (cI, (12 + 1), .inl (fun _ => 0))), (o86, .inr (1, [.ref r92a])), (r92a, .inl (cZ, 12, .inl (fun _ => 0))), (o99, .inr (2, [.ref r116a, .ref r116b, .int (nI (0)), .int (nI (0))])), (r116a, .inl (cI, 664, .inl (fun _ => 0))), (r116b, .inl (cI, (mpN v + 1), .inl (fun _ => 0)))]) cl_S 0 8 rfl (by decide) bw_81 rfl (bB_n _) (bB_f _) (Nat.le_of_ble_eq_true rfl) d_S_init_124 rfl ?_
  refine bV.perm (ws' := wS (fun i => [a, o5, r9a, o16, r25a, r25b, o32, r38a, o45, r51a, o58, r64a, o71, r79a, r79b, o86, r92a, o99, r116a, r116b].getD i 0) cI cZ (mpN v) (fun _ => 0) 0 ((fun _ => 0, fun _ => 0, 0, 0) : pc_C) (fun _ => 0) (fun _ => 0) (fun _ => 0) ((fun _ => 0, fun _ => 0, 0, 0) : pc_C) (fun _ => 0) ((fun _ => 0, fun _ => 0, 0, 0) : pc_C) false []) [0, 1, 2, 3, 4, 5, 6, 7, 8, 9, 10, 11, 12, 13, 14, 15, 16, 17, 18, 19] (by decide) rfl ?_
  exact bV.vretO G E0 rfl (Nat.le_of_ble_eq_true rfl) (Nat.le_of_ble_eq_true rfl) d_S_init_127 ⟨_, rfl, rfl⟩
