/-! ===== a new reference ===== -/
theorem d_M_init_0 : decode b_M_init 0 = .ok (.aload_n 0, 1) := by decide +kernel
theorem d_M_init_1 : decode b_M_init 1 = .ok (.invokespecial 1, 3) := by decide +kernel
theorem d_M_init_4 : decode b_M_init 4 = .ok (.aload_n 0, 1) := by decide +kernel
theorem d_M_init_5 : decode b_M_init 5 = .ok (.bipush 24, 2) := by decide +kernel
theorem d_M_init_7 : decode b_M_init 7 = .ok (.newarray .int, 2) := by decide +kernel
theorem d_M_init_9 : decode b_M_init 9 = .ok (.putfield 7, 3) := by decide +kernel
theorem d_M_init_12 : decode b_M_init 12 = .ok (.aload_n 0, 1) := by decide +kernel
theorem d_M_init_13 : decode b_M_init 13 = .ok (.sipush 400, 3) := by decide +kernel
theorem d_M_init_16 : decode b_M_init 16 = .ok (.newarray .int, 2) := by decide +kernel
theorem d_M_init_18 : decode b_M_init 18 = .ok (.putfield 13, 3) := by decide +kernel
theorem d_M_init_21 : decode b_M_init 21 = .ok (.aload_n 0, 1) := by decide +kernel
theorem d_M_init_22 : decode b_M_init 22 = .ok (.bipush 8, 2) := by decide +kernel
theorem d_M_init_24 : decode b_M_init 24 = .ok (.newarray .int, 2) := by decide +kernel
theorem d_M_init_26 : decode b_M_init 26 = .ok (.putfield 16, 3) := by decide +kernel
theorem d_M_init_29 : decode b_M_init 29 = .ok (.aload_n 0, 1) := by decide +kernel
theorem d_M_init_30 : decode b_M_init 30 = .ok (.sipush 5600, 3) := by decide +kernel
theorem d_M_init_33 : decode b_M_init 33 = .ok (.newarray .int, 2) := by decide +kernel
theorem d_M_init_35 : decode b_M_init 35 = .ok (.putfield 19, 3) := by decide +kernel
theorem d_M_init_38 : decode b_M_init 38 = .ok (.aload_n 0, 1) := by decide +kernel
theorem d_M_init_39 : decode b_M_init 39 = .ok (.bipush 24, 2) := by decide +kernel
theorem d_M_init_41 : decode b_M_init 41 = .ok (.newarray .boolean, 2) := by decide +kernel
theorem d_M_init_43 : decode b_M_init 43 = .ok (.putfield 22, 3) := by decide +kernel
theorem d_M_init_46 : decode b_M_init 46 = .ok (.aload_n 0, 1) := by decide +kernel
theorem d_M_init_47 : decode b_M_init 47 = .ok (.bipush 24, 2) := by decide +kernel
theorem d_M_init_49 : decode b_M_init 49 = .ok (.newarray .int, 2) := by decide +kernel
theorem d_M_init_51 : decode b_M_init 51 = .ok (.putfield 26, 3) := by decide +kernel
theorem d_M_init_54 : decode b_M_init 54 = .ok (.aload_n 0, 1) := by decide +kernel
theorem d_M_init_55 : decode b_M_init 55 = .ok (.bipush 24, 2) := by decide +kernel
theorem d_M_init_57 : decode b_M_init 57 = .ok (.newarray .int, 2) := by decide +kernel
theorem d_M_init_59 : decode b_M_init 59 = .ok (.putfield 29, 3) := by decide +kernel
theorem d_M_init_62 : decode b_M_init 62 = .ok (.aload_n 0, 1) := by decide +kernel
theorem d_M_init_63 : decode b_M_init 63 = .ok (.bipush 24, 2) := by decide +kernel
theorem d_M_init_65 : decode b_M_init 65 = .ok (.newarray .boolean, 2) := by decide +kernel
theorem d_M_init_67 : decode b_M_init 67 = .ok (.putfield 32, 3) := by decide +kernel
theorem d_M_init_70 : decode b_M_init 70 = .ok (.aload_n 0, 1) := by decide +kernel
theorem d_M_init_71 : decode b_M_init 71 = .ok (.bipush 13, 2) := by decide +kernel
theorem d_M_init_73 : decode b_M_init 73 = .ok (.newarray .int, 2) := by decide +kernel
theorem d_M_init_75 : decode b_M_init 75 = .ok (.putfield 35, 3) := by decide +kernel
theorem d_M_init_78 : decode b_M_init 78 = .ok (.aload_n 0, 1) := by decide +kernel
theorem d_M_init_79 : decode b_M_init 79 = .ok (.bipush 104, 2) := by decide +kernel
theorem d_M_init_81 : decode b_M_init 81 = .ok (.newarray .int, 2) := by decide +kernel
theorem d_M_init_83 : decode b_M_init 83 = .ok (.putfield 38, 3) := by decide +kernel
theorem d_M_init_86 : decode b_M_init 86 = .ok (.aload_n 0, 1) := by decide +kernel
theorem d_M_init_87 : decode b_M_init 87 = .ok (.bipush 13, 2) := by decide +kernel
theorem d_M_init_89 : decode b_M_init 89 = .ok (.newarray .boolean, 2) := by decide +kernel
theorem d_M_init_91 : decode b_M_init 91 = .ok (.putfield 41, 3) := by decide +kernel
theorem d_M_init_94 : decode b_M_init 94 = .ok (.aload_n 0, 1) := by decide +kernel
theorem d_M_init_95 : decode b_M_init 95 = .ok (.iload_n 1, 1) := by decide +kernel
theorem d_M_init_96 : decode b_M_init 96 = .ok (.iconst 1, 1) := by decide +kernel
theorem d_M_init_97 : decode b_M_init 97 = .ok (.if_icmp .ge 7, 3) := by decide +kernel
theorem d_M_init_100 : decode b_M_init 100 = .ok (.iconst 1, 1) := by decide +kernel
theorem d_M_init_101 : decode b_M_init 101 = .ok (.goto 15, 3) := by decide +kernel
theorem d_M_init_104 : decode b_M_init 104 = .ok (.iload_n 1, 1) := by decide +kernel
theorem d_M_init_105 : decode b_M_init 105 = .ok (.bipush 8, 2) := by decide +kernel
theorem d_M_init_107 : decode b_M_init 107 = .ok (.if_icmp .le 8, 3) := by decide +kernel
theorem d_M_init_110 : decode b_M_init 110 = .ok (.bipush 8, 2) := by decide +kernel
theorem d_M_init_112 : decode b_M_init 112 = .ok (.goto 4, 3) := by decide +kernel
theorem d_M_init_115 : decode b_M_init 115 = .ok (.iload_n 1, 1) := by decide +kernel
theorem d_M_init_116 : decode b_M_init 116 = .ok (.putfield 44, 3) := by decide +kernel
theorem d_M_init_119 : decode b_M_init 119 = .ok (.return_, 1) := by decide +kernel
set_option maxRecDepth 20000 in
set_option maxHeartbeats 4000000 in
theorem c_M_init {D : va_G} {cI cZ cJ : ClassId} {a : Nat} {v : Int32} {rest : va_W} : bC D bcl (tys3 cI cZ cJ) y_M_init ({ frames := 1, cells := 11, slots := 6268, locals := 12 }) ((a, .inr (4, [.int (0), .int (0), .int (0), .int (0), .null, .int (0), .null, .int (0), .null, .null, .null, .int (0), .null, .null, .null, .int (0), .null, .null, .null, .int (0), .int (0)])) :: (rest) : va_W) [.ref a, .int v] (bO (fun ws9 => ∃ am : Nat → Nat, am 0 = a ∧ ws9 = ((am 0, .inr (4, [.int 0, .int (nI (mpN v)), .int 0, .int 0, .ref (am 1), .int 0, .ref (am 2), .int 0, .ref (am 3), .ref (am 4), .ref (am 5), .int 0, .ref (am 6), .ref (am 7), .ref (am 8), .int 0, .ref (am 9), .ref (am 10), .ref (am 11), .int 0, .int 0])) :: ((((((((((((rest ++ [(am 1, .inl (cI, 24, .inl (fun _ => 0)))]) ++ [(am 2, .inl (cI, 400, .inl (fun _ => 0)))]) ++ [(am 3, .inl (cI, 8, .inl (fun _ => 0)))]) ++ [(am 4, .inl (cI, 5600, .inl (fun _ => 0)))]) ++ [(am 5, .inl (cZ, 24, .inl (fun _ => 0)))]) ++ [(am 6, .inl (cI, 24, .inl (fun _ => 0)))]) ++ [(am 7, .inl (cI, 24, .inl (fun _ => 0)))]) ++ [(am 8, .inl (cZ, 24, .inl (fun _ => 0)))]) ++ [(am 9, .inl (cI, 13, .inl (fun _ => 0)))]) ++ [(am 10, .inl (cI, 104, .inl (fun _ => 0)))]) ++ [(am 11, .inl (cZ, 13, .inl (fun _ => 0)))])) : va_W)) bno) := by
  refine bC.of (by decide) m_M_init.1 (Nat.le_of_ble_eq_true rfl) ?_
  intro Γ G E0
  show bV D bcl Γ 2 ((a, .inr (4, [.int (0), .int (0), .int (0), .int (0), .null, .int (0), .null, .int (0), .null, .null, .null, .int (0), .null, .null, .null, .int (0), .null, .null, .null, .int (0), .int (0)])) :: (rest) : va_W) 0 0 0 [(0, .ref a), (1, .int (v))] []
  refine bV.aload_n G d_M_init_0 rfl ?_
  refine bV.objInit G bw_544 bw_19 bw_20 (by decide) (by decide) d_M_init_1 ?_
  refine bV.aload_n G d_M_init_4 rfl ?_
  refine bV.bipush (v := nI 24) G d_M_init_5 (by decide) ?_
  refine bV.newarray (atype := .int) (ty := .int) (N := 24) (a0 := (24, .inl (fun _ => 0))) G 0 bw_34 rfl (fun C h => by cases h) rfl (fun _ => rfl) (nI_pos (by decide)) (nI_clamp (by decide)) (by decide) (Nat.le_of_ble_eq_true rfl) (Nat.le_of_ble_eq_true rfl) d_M_init_7 (fun q1 => ?_)
  show bV D bcl Γ 2 ((a, .inr (4, [.int (0), .int (0), .int (0), .int (0), .null, .int (0), .null, .int (0), .null, .null, .null, .int (0), .null, .null, .null, .int (0), .null, .null, .null, .int (0), .int (0)])) :: ((rest ++ [(q1, .inl (cI, 24, .inl (fun _ => 0)))])) : va_W) _ _ _ _ _
  refine bV.putF G (ws' := ((a, .inr (4, [.int (0), .int (0), .int (0), .int (0), .ref q1, .int (0), .null, .int (0), .null, .null, .null, .int (0), .null, .null, .null, .int (0), .null, .null, .null, .int (0), .int (0)])) :: ((rest ++ [(q1, .inl (cI, 24, .inl (fun _ => 0)))])) : va_W)) cl_M 0 4 rfl (by decide) bw_549 rfl rfl rfl rfl (Nat.le_of_ble_eq_true rfl) d_M_init_9 rfl ?_
  refine bV.aload_n G d_M_init_12 rfl ?_
  refine bV.sipush (v := nI 400) G d_M_init_13 (by decide) ?_
  refine bV.newarray (atype := .int) (ty := .int) (N := 400) (a0 := (400, .inl (fun _ => 0))) G 0 bw_34 rfl (fun C h => by cases h) rfl (fun _ => rfl) (nI_pos (by decide)) (nI_clamp (by decide)) (by decide) (Nat.le_of_ble_eq_true rfl) (Nat.le_of_ble_eq_true rfl) d_M_init_16 (fun q2 => ?_)
  show bV D bcl Γ 2 ((a, .inr (4, [.int (0), .int (0), .int (0), .int (0), .ref q1, .int (0), .null, .int (0), .null, .null, .null, .int (0), .null, .null, .null, .int (0), .null, .null, .null, .int (0), .int (0)])) :: (((rest ++ [(q1, .inl (cI, 24, .inl (fun _ => 0)))]) ++ [(q2, .inl (cI, 400, .inl (fun _ => 0)))])) : va_W) _ _ _ _ _
  refine bV.putF G (ws' := ((a, .inr (4, [.int (0), .int (0), .int (0), .int (0), .ref q1, .int (0), .ref q2, .int (0), .null, .null, .null, .int (0), .null, .null, .null, .int (0), .null, .null, .null, .int (0), .int (0)])) :: (((rest ++ [(q1, .inl (cI, 24, .inl (fun _ => 0)))]) ++ [(q2, .inl (cI, 400, .inl (fun _ => 0)))])) : va_W)) cl_M 0 6 rfl (by decide) bw_551 rfl rfl rfl rfl (Nat.le_of_ble_eq_true rfl) d_M_init_18 rfl ?_
  refine bV.aload_n G d_M_init_21 rfl ?_
  refine bV.bipush (v := nI 8) G d_M_init_22 (by decide) ?_
  refine bV.newarray (atype := .int) (ty := .int) (N := 8) (a0 := (8, .inl (fun _ => 0))) G 0 bw_34 rfl (fun C h => by cases h) rfl (fun _ => rfl) (nI_pos (by decide)) (nI_clamp (by decide)) (by decide) (Nat.le_of_ble_eq_true rfl) (Nat.le_of_ble_eq_true rfl) d_M_init_24 (fun q3 => ?_)
  show bV D bcl Γ 2 ((a, .inr (4, [.int (0), .int (0), .int (0), .int (0), .ref q1, .int (0), .ref q2, .int (0), .null, .null, .null, .int (0), .null, .null, .null, .int (0), .null, .null, .null, .int (0), .int (0)])) :: ((((rest ++ [(q1, .inl (cI, 24, .inl (fun _ => 0)))]) ++ [(q2, .inl (cI, 400, .inl (fun _ => 0)))]) ++ [(q3, .inl (cI, 8, .inl (fun _ => 0)))])) : va_W) _ _ _ _ _
  refine bV.putF G (ws' := ((a, .inr (4, [.int (0), .int (0), .int (0), .int (0), .ref q1, .int (0), .ref q2, .int (0), .ref q3, .null, .null, .int (0), .null, .null, .null, .int (0), .null, .null, .null, .int (0), .int (0)])) :: ((((rest ++ [(q1, .inl (cI, 24, .inl (fun _ => 0)))]) ++ [(q2, .inl (cI, 400, .inl (fun _ => 0)))]) ++ [(q3, .inl (cI, 8, .inl (fun _ => 0)))])) : va_W)) cl_M 0 8 rfl (by decide) bw_553 rfl rfl rfl rfl (Nat.le_of_ble_eq_true rfl) d_M_init_26 rfl ?_
  refine bV.aload_n G d_M_init_29 rfl ?_
  refine bV.sipush (v := nI 5600) G d_M_init_30 (by decide) ?_
  refine bV.newarray (atype := .int) (ty := .int) (N := 5600) (a0 := (5600, .inl (fun _ => 0))) G 0 bw_34 rfl (fun C h => by cases h) rfl (fun _ => rfl) (nI_pos (by decide)) (nI_clamp (by decide)) (by decide) (Nat.le_of_ble_eq_true rfl) (Nat.le_of_ble_eq_true rfl) d_M_init_33 (fun q4 => ?_)
  show bV D bcl Γ 2 ((a, .inr (4, [.int (0), .int (0), .int (0), .int (0), .ref q1, .int (0), .ref q2, .int (0), .ref q3, .null, .null, .int (0), .null, .null, .null, .int (0), .null, .null, .null, .int (0), .int (0)])) :: (((((rest ++ [(q1, .inl (cI, 24, .inl (fun _ => 0)))]) ++ [(q2, .inl (cI, 400, .inl (fun _ => 0)))]) ++ [(q3, .inl (cI, 8, .inl (fun _ => 0)))]) ++ [(q4, .inl (cI, 5600, .inl (fun _ => 0)))])) : va_W) _ _ _ _ _
  refine bV.putF G (ws' := ((a, .inr (4, [.int (0), .int (0), .int (0), .int (0), .ref q1, .int (0), .ref q2, .int (0), .ref q3, .ref q4, .null, .int (0), .null, .null, .null, .int (0), .null, .null, .null, .int (0), .int (0)])) :: (((((rest ++ [(q1, .inl (cI, 24, .inl (fun _ => 0)))]) ++ [(q2, .inl (cI, 400, .inl (fun _ => 0)))]) ++ [(q3, .inl (cI, 8, .inl (fun _ => 0)))]) ++ [(q4, .inl (cI, 5600, .inl (fun _ => 0)))])) : va_W)) cl_M 0 9 rfl (by decide) bw_554 rfl rfl rfl rfl (Nat.le_of_ble_eq_true rfl) d_M_init_35 rfl ?_
  refine bV.aload_n G d_M_init_38 rfl ?_
  refine bV.bipush (v := nI 24) G d_M_init_39 (by decide) ?_
  refine bV.newarray (atype := .boolean) (ty := .boolean) (N := 24) (a0 := (24, .inl (fun _ => 0))) G 1 bw_68 rfl (fun C h => by cases h) rfl (fun _ => rfl) (nI_pos (by decide)) (nI_clamp (by decide)) (by decide) (Nat.le_of_ble_eq_true rfl) (Nat.le_of_ble_eq_true rfl) d_M_init_41 (fun q5 => ?_)
  show bV D bcl Γ 2 ((a, .inr (4, [.int (0), .int (0), .int (0), .int (0), .ref q1, .int (0), .ref q2, .int (0), .ref q3, .ref q4, .null, .int (0), .null, .null, .null, .int (0), .null, .null, .null, .int (0), .int (0)])) :: ((((((rest ++ [(q1, .inl (cI, 24, .inl (fun _ => 0)))]) ++ [(q2, .inl (cI, 400, .inl (fun _ => 0)))]) ++ [(q3, .inl (cI, 8, .inl (fun _ => 0)))]) ++ [(q4, .inl (cI, 5600, .inl (fun _ => 0)))]) ++ [(q5, .inl (cZ, 24, .inl (fun _ => 0)))])) : va_W) _ _ _ _ _
  refine bV.putF G (ws' := ((a, .inr (4, [.int (0), .int (0), .int (0), .int (0), .ref q1, .int (0), .ref q2, .int (0), .ref q3, .ref q4, .ref q5, .int (0), .null, .null, .null, .int (0), .null, .null, .null, .int (0), .int (0)])) :: ((((((rest ++ [(q1, .inl (cI, 24, .inl (fun _ => 0)))]) ++ [(q2, .inl (cI, 400, .inl (fun _ => 0)))]) ++ [(q3, .inl (cI, 8, .inl (fun _ => 0)))]) ++ [(q4, .inl (cI, 5600, .inl (fun _ => 0)))]) ++ [(q5, .inl (cZ, 24, .inl (fun _ => 0)))])) : va_W)) cl_M 0 10 rfl (by decide) bw_555 rfl rfl rfl rfl (Nat.le_of_ble_eq_true rfl) d_M_init_43 rfl ?_
  refine bV.aload_n G d_M_init_46 rfl ?_
  refine bV.bipush (v := nI 24) G d_M_init_47 (by decide) ?_
  refine bV.newarray (atype := .int) (ty := .int) (N := 24) (a0 := (24, .inl (fun _ => 0))) G 0 bw_34 rfl (fun C h => by cases h) rfl (fun _ => rfl) (nI_pos (by decide)) (nI_clamp (by decide)) (by decide) (Nat.le_of_ble_eq_true rfl) (Nat.le_of_ble_eq_true rfl) d_M_init_49 (fun q6 => ?_)
  show bV D bcl Γ 2 ((a, .inr (4, [.int (0), .int (0), .int (0), .int (0), .ref q1, .int (0), .ref q2, .int (0), .ref q3, .ref q4, .ref q5, .int (0), .null, .null, .null, .int (0), .null, .null, .null, .int (0), .int (0)])) :: (((((((rest ++ [(q1, .inl (cI, 24, .inl (fun _ => 0)))]) ++ [(q2, .inl (cI, 400, .inl (fun _ => 0)))]) ++ [(q3, .inl (cI, 8, .inl (fun _ => 0)))]) ++ [(q4, .inl (cI, 5600, .inl (fun _ => 0)))]) ++ [(q5, .inl (cZ, 24, .inl (fun _ => 0)))]) ++ [(q6, .inl (cI, 24, .inl (fun _ => 0)))])) : va_W) _ _ _ _ _
  refine bV.putF G (ws' := ((a, .inr (4, [.int (0), .int (0), .int (0), .int (0), .ref q1, .int (0), .ref q2, .int (0), .ref q3, .ref q4, .ref q5, .int (0), .ref q6, .null, .null, .int (0), .null, .null, .null, .int (0), .int (0)])) :: (((((((rest ++ [(q1, .inl (cI, 24, .inl (fun _ => 0)))]) ++ [(q2, .inl (cI, 400, .inl (fun _ => 0)))]) ++ [(q3, .inl (cI, 8, .inl (fun _ => 0)))]) ++ [(q4, .inl (cI, 5600, .inl (fun _ => 0)))]) ++ [(q5, .inl (cZ, 24, .inl (fun _ => 0)))]) ++ [(q6, .inl (cI, 24, .inl (fun _ => 0)))])) : va_W)) cl_M 0 12 rfl (by decide) bw_557 rfl rfl rfl rfl (Nat.le_of_ble_eq_true rfl) d_M_init_51 rfl ?_
  refine bV.aload_n G d_M_init_54 rfl ?_
  refine bV.bipush (v := nI 24) G d_M_init_55 (by decide) ?_
  refine bV.newarray (atype := .int) (ty := .int) (N := 24) (a0 := (24, .inl (fun _ => 0))) G 0 bw_34 rfl (fun C h => by cases h) rfl (fun _ => rfl) (nI_pos (by decide)) (nI_clamp (by decide)) (by decide) (Nat.le_of_ble_eq_true rfl) (Nat.le_of_ble_eq_true rfl) d_M_init_57 (fun q7 => ?_)
  show bV D bcl Γ 2 ((a, .inr (4, [.int (0), .int (0), .int (0), .int (0), .ref q1, .int (0), .ref q2, .int (0), .ref q3, .ref q4, .ref q5, .int (0), .ref q6, .null, .null, .int (0), .null, .null, .null, .int (0), .int (0)])) :: ((((((((rest ++ [(q1, .inl (cI, 24, .inl (fun _ => 0)))]) ++ [(q2, .inl (cI, 400, .inl (fun _ => 0)))]) ++ [(q3, .inl (cI, 8, .inl (fun _ => 0)))]) ++ [(q4, .inl (cI, 5600, .inl (fun _ => 0)))]) ++ [(q5, .inl (cZ, 24, .inl (fun _ => 0)))]) ++ [(q6, .inl (cI, 24, .inl (fun _ => 0)))]) ++ [(q7, .inl (cI, 24, .inl (fun _ => 0)))])) : va_W) _ _ _ _ _
  refine bV.putF G (ws' := ((a, .inr (4, [.int (0), .int (0), .int (0), .int (0), .ref q1, .int (0), .ref q2, .int (0), .ref q3, .ref q4, .ref q5, .int (0), .ref q6, .ref q7, .null, .int (0), .null, .null, .null, .int (0), .int (0)])) :: ((((((((rest ++ [(q1, .inl (cI, 24, .inl (fun _ => 0)))]) ++ [(q2, .inl (cI, 400, .inl (fun _ => 0)))]) ++ [(q3, .inl (cI, 8, .inl (fun _ => 0)))]) ++ [(q4, .inl (cI, 5600, .inl (fun _ => 0)))]) ++ [(q5, .inl (cZ, 24, .inl (fun _ => 0)))]) ++ [(q6, .inl (cI, 24, .inl (fun _ => 0)))]) ++ [(q7, .inl (cI, 24, .inl (fun _ => 0)))])) : va_W)) cl_M 0 13 rfl (by decide) bw_558 rfl rfl rfl rfl (Nat.le_of_ble_eq_true rfl) d_M_init_59 rfl ?_
  refine bV.aload_n G d_M_init_62 rfl ?_
  refine bV.bipush (v := nI 24) G d_M_init_63 (by decide) ?_
  refine bV.newarray (atype := .boolean) (ty := .boolean) (N := 24) (a0 := (24, .inl (fun _ => 0))) G 1 bw_68 rfl (fun C h => by cases h) rfl (fun _ => rfl) (nI_pos (by decide)) (nI_clamp (by decide)) (by decide) (Nat.le_of_ble_eq_true rfl) (Nat.le_of_ble_eq_true rfl) d_M_init_65 (fun q8 => ?_)
  show bV D bcl Γ 2 ((a, .inr (4, [.int (0), .int (0), .int (0), .int (0), .ref q1, .int (0), .ref q2, .int (0), .ref q3, .ref q4, .ref q5, .int (0), .ref q6, .ref q7, .null, .int (0), .null, .null, .null, .int (0), .int (0)])) :: (((((((((rest ++ [(q1, .inl (cI, 24, .inl (fun _ => 0)))]) ++ [(q2, .inl (cI, 400, .inl (fun _ => 0)))]) ++ [(q3, .inl (cI, 8, .inl (fun _ => 0)))]) ++ [(q4, .inl (cI, 5600, .inl (fun _ => 0)))]) ++ [(q5, .inl (cZ, 24, .inl (fun _ => 0)))]) ++ [(q6, .inl (cI, 24, .inl (fun _ => 0)))]) ++ [(q7, .inl (cI, 24, .inl (fun _ => 0)))]) ++ [(q8, .inl (cZ, 24, .inl (fun _ => 0)))])) : va_W) _ _ _ _ _
  refine bV.putF G (ws' := ((a, .inr (4, [.int (0), .int (0), .int (0), .int (0), .ref q1, .int (0), .ref q2, .int (0), .ref q3, .ref q4, .ref q5, .int (0), .ref q6, .ref q7, .ref q8, .int (0), .null, .null, .null, .int (0), .int (0)])) :: (((((((((rest ++ [(q1, .inl (cI, 24, .inl (fun _ => 0)))]) ++ [(q2, .inl (cI, 400, .inl (fun _ => 0)))]) ++ [(q3, .inl (cI, 8, .inl (fun _ => 0)))]) ++ [(q4, .inl (cI, 5600, .inl (fun _ => 0)))]) ++ [(q5, .inl (cZ, 24, .inl (fun _ => 0)))]) ++ [(q6, .inl (cI, 24, .inl (fun _ => 0)))]) ++ [(q7, .inl (cI, 24, .inl (fun _ => 0)))]) ++ [(q8, .inl (cZ, 24, .inl (fun _ => 0)))])) : va_W)) cl_M 0 14 rfl (by decide) bw_559 rfl rfl rfl rfl (Nat.le_of_ble_eq_true rfl) d_M_init_67 rfl ?_
  refine bV.aload_n G d_M_init_70 rfl ?_
  refine bV.bipush (v := nI 13) G d_M_init_71 (by decide) ?_
  refine bV.newarray (atype := .int) (ty := .int) (N := 13) (a0 := (13, .inl (fun _ => 0))) G 0 bw_34 rfl (fun C h => by cases h) rfl (fun _ => rfl) (nI_pos (by decide)) (nI_clamp (by decide)) (by decide) (Nat.le_of_ble_eq_true rfl) (Nat.le_of_ble_eq_true rfl) d_M_init_73 (fun q9 => ?_)
  show bV D bcl Γ 2 ((a, .inr (4, [.int (0), .int (0), .int (0), .int (0), .ref q1, .int (0), .ref q2, .int (0), .ref q3, .ref q4, .ref q5, .int (0), .ref q6, .ref q7, .ref q8, .int (0), .null, .null, .null, .int (0), .int (0)])) :: ((((((((((rest ++ [(q1, .inl (cI, 24, .inl (fun _ => 0)))]) ++ [(q2, .inl (cI, 400, .inl (fun _ => 0)))]) ++ [(q3, .inl (cI, 8, .inl (fun _ => 0)))]) ++ [(q4, .inl (cI, 5600, .inl (fun _ => 0)))]) ++ [(q5, .inl (cZ, 24, .inl (fun _ => 0)))]) ++ [(q6, .inl (cI, 24, .inl (fun _ => 0)))]) ++ [(q7, .inl (cI, 24, .inl (fun _ => 0)))]) ++ [(q8, .inl (cZ, 24, .inl (fun _ => 0)))]) ++ [(q9, .inl (cI, 13, .inl (fun _ => 0)))])) : va_W) _ _ _ _ _
  refine bV.putF G (ws' := ((a, .inr (4, [.int (0), .int (0), .int (0), .int (0), .ref q1, .int (0), .ref q2, .int (0), .ref q3, .ref q4, .ref q5, .int (0), .ref q6, .ref q7, .ref q8, .int (0), .ref q9, .null, .null, .int (0), .int (0)])) :: ((((((((((rest ++ [(q1, .inl (cI, 24, .inl (fun _ => 0)))]) ++ [(q2, .inl (cI, 400, .inl (fun _ => 0)))]) ++ [(q3, .inl (cI, 8, .inl (fun _ => 0)))]) ++ [(q4, .inl (cI, 5600, .inl (fun _ => 0)))]) ++ [(q5, .inl (cZ, 24, .inl (fun _ => 0)))]) ++ [(q6, .inl (cI, 24, .inl (fun _ => 0)))]) ++ [(q7, .inl (cI, 24, .inl (fun _ => 0)))]) ++ [(q8, .inl (cZ, 24, .inl (fun _ => 0)))]) ++ [(q9, .inl (cI, 13, .inl (fun _ => 0)))])) : va_W)) cl_M 0 16 rfl (by decide) bw_561 rfl rfl rfl rfl (Nat.le_of_ble_eq_true rfl) d_M_init_75 rfl ?_
  refine bV.aload_n G d_M_init_78 rfl ?_
  refine bV.bipush (v := nI 104) G d_M_init_79 (by decide) ?_
  refine bV.newarray (atype := .int) (ty := .int) (N := 104) (a0 := (104, .inl (fun _ => 0))) G 0 bw_34 rfl (fun C h => by cases h) rfl (fun _ => rfl) (nI_pos (by decide)) (nI_clamp (by decide)) (by decide) (Nat.le_of_ble_eq_true rfl) (Nat.le_of_ble_eq_true rfl) d_M_init_81 (fun q10 => ?_)
  show bV D bcl Γ 2 ((a, .inr (4, [.int (0), .int (0), .int (0), .int (0), .ref q1, .int (0), .ref q2, .int (0), .ref q3, .ref q4, .ref q5, .int (0), .ref q6, .ref q7, .ref q8, .int (0), .ref q9, .null, .null, .int (0), .int (0)])) :: (((((((((((rest ++ [(q1, .inl (cI, 24, .inl (fun _ => 0)))]) ++ [(q2, .inl (cI, 400, .inl (fun _ => 0)))]) ++ [(q3, .inl (cI, 8, .inl (fun _ => 0)))]) ++ [(q4, .inl (cI, 5600, .inl (fun _ => 0)))]) ++ [(q5, .inl (cZ, 24, .inl (fun _ => 0)))]) ++ [(q6, .inl (cI, 24, .inl (fun _ => 0)))]) ++ [(q7, .inl (cI, 24, .inl (fun _ => 0)))]) ++ [(q8, .inl (cZ, 24, .inl (fun _ => 0)))]) ++ [(q9, .inl (cI, 13, .inl (fun _ => 0)))]) ++ [(q10, .inl (cI, 104, .inl (fun _ => 0)))])) : va_W) _ _ _ _ _
  refine bV.putF G (ws' := ((a, .inr (4, [.int (0), .int (0), .int (0), .int (0), .ref q1, .int (0), .ref q2, .int (0), .ref q3, .ref q4, .ref q5, .int (0), .ref q6, .ref q7, .ref q8, .int (0), .ref q9, .ref q10, .null, .int (0), .int (0)])) :: (((((((((((rest ++ [(q1, .inl (cI, 24, .inl (fun _ => 0)))]) ++ [(q2, .inl (cI, 400, .inl (fun _ => 0)))]) ++ [(q3, .inl (cI, 8, .inl (fun _ => 0)))]) ++ [(q4, .inl (cI, 5600, .inl (fun _ => 0)))]) ++ [(q5, .inl (cZ, 24, .inl (fun _ => 0)))]) ++ [(q6, .inl (cI, 24, .inl (fun _ => 0)))]) ++ [(q7, .inl (cI, 24, .inl (fun _ => 0)))]) ++ [(q8, .inl (cZ, 24, .inl (fun _ => 0)))]) ++ [(q9, .inl (cI, 13, .inl (fun _ => 0)))]) ++ [(q10, .inl (cI, 104, .inl (fun _ => 0)))])) : va_W)) cl_M 0 17 rfl (by decide) bw_562 rfl rfl rfl rfl (Nat.le_of_ble_eq_true rfl) d_M_init_83 rfl ?_
  refine bV.aload_n G d_M_init_86 rfl ?_
  refine bV.bipush (v := nI 13) G d_M_init_87 (by decide) ?_
  refine bV.newarray (atype := .boolean) (ty := .boolean) (N := 13) (a0 := (13, .inl (fun _ => 0))) G 1 bw_68 rfl (fun C h => by cases h) rfl (fun _ => rfl) (nI_pos (by decide)) (nI_clamp (by decide)) (by decide) (Nat.le_of_ble_eq_true rfl) (Nat.le_of_ble_eq_true rfl) d_M_init_89 (fun q11 => ?_)
  show bV D bcl Γ 2 ((a, .inr (4, [.int (0), .int (0), .int (0), .int (0), .ref q1, .int (0), .ref q2, .int (0), .ref q3, .ref q4, .ref q5, .int (0), .ref q6, .ref q7, .ref q8, .int (0), .ref q9, .ref q10, .null, .int (0), .int (0)])) :: ((((((((((((rest ++ [(q1, .inl (cI, 24, .inl (fun _ => 0)))]) ++ [(q2, .inl (cI, 400, .inl (fun _ => 0)))]) ++ [(q3, .inl (cI, 8, .inl (fun _ => 0)))]) ++ [(q4, .inl (cI, 5600, .inl (fun _ => 0)))]) ++ [(q5, .inl (cZ, 24, .inl (fun _ => 0)))]) ++ [(q6, .inl (cI, 24, .inl (fun _ => 0)))]) ++ [(q7, .inl (cI, 24, .inl (fun _ => 0)))]) ++ [(q8, .inl (cZ, 24, .inl (fun _ => 0)))]) ++ [(q9, .inl (cI, 13, .inl (fun _ => 0)))]) ++ [(q10, .inl (cI, 104, .inl (fun _ => 0)))]) ++ [(q11, .inl (cZ, 13, .inl (fun _ => 0)))])) : va_W) _ _ _ _ _
  refine bV.putF G (ws' := ((a, .inr (4, [.int (0), .int (0), .int (0), .int (0), .ref q1, .int (0), .ref q2, .int (0), .ref q3, .ref q4, .ref q5, .int (0), .ref q6, .ref q7, .ref q8, .int (0), .ref q9, .ref q10, .ref q11, .int (0), .int (0)])) :: ((((((((((((rest ++ [(q1, .inl (cI, 24, .inl (fun _ => 0)))]) ++ [(q2, .inl (cI, 400, .inl (fun _ => 0)))]) ++ [(q3, .inl (cI, 8, .inl (fun _ => 0)))]) ++ [(q4, .inl (cI, 5600, .inl (fun _ => 0)))]) ++ [(q5, .inl (cZ, 24, .inl (fun _ => 0)))]) ++ [(q6, .inl (cI, 24, .inl (fun _ => 0)))]) ++ [(q7, .inl (cI, 24, .inl (fun _ => 0)))]) ++ [(q8, .inl (cZ, 24, .inl (fun _ => 0)))]) ++ [(q9, .inl (cI, 13, .inl (fun _ => 0)))]) ++ [(q10, .inl (cI, 104, .inl (fun _ => 0)))]) ++ [(q11, .inl (cZ, 13, .inl (fun _ => 0)))])) : va_W)) cl_M 0 18 rfl (by decide) bw_563 rfl rfl rfl rfl (Nat.le_of_ble_eq_true rfl) d_M_init_91 rfl ?_
  refine bV.aload_n G d_M_init_94 rfl ?_
  refine bV.iload_n G d_M_init_95 rfl ?_
  refine bV.iconst (v := nI 1) G d_M_init_96 (by decide) ?_
  refine bV.icmp_ge (tgt := 104) G d_M_init_97 (by decide) (fun c97 => ?_) (fun c97 => ?_)
  · refine bV.iload_n G d_M_init_104 rfl ?_
    refine bV.bipush (v := nI 8) G d_M_init_105 (by decide) ?_
    refine bV.icmp_le (tgt := 115) G d_M_init_107 (by decide) (fun c107 => ?_) (fun c107 => ?_)
    · refine bV.iload_n G d_M_init_115 rfl ?_
      refine bV.topi (y := nI (mpN v)) ((mpN_b v).2.2.2.2 (fun z => absurd z (Int32.not_lt.mpr c97)) (fun z => absurd z (Int32.not_lt.mpr c107))) ?_
      refine bV.putF G (ws' := ((a, .inr (4, [.int (0), .int (nI (mpN v)), .int (0), .int (0), .ref q1, .int (0), .ref q2, .int (0), .ref q3, .ref q4, .ref q5, .int (0), .ref q6, .ref q7, .ref q8, .int (0), .ref q9, .ref q10, .ref q11, .int (0), .int (0)])) :: ((((((((((((rest ++ [(q1, .inl (cI, 24, .inl (fun _ => 0)))]) ++ [(q2, .inl (cI, 400, .inl (fun _ => 0)))]) ++ [(q3, .inl (cI, 8, .inl (fun _ => 0)))]) ++ [(q4, .inl (cI, 5600, .inl (fun _ => 0)))]) ++ [(q5, .inl (cZ, 24, .inl (fun _ => 0)))]) ++ [(q6, .inl (cI, 24, .inl (fun _ => 0)))]) ++ [(q7, .inl (cI, 24, .inl (fun _ => 0)))]) ++ [(q8, .inl (cZ, 24, .inl (fun _ => 0)))]) ++ [(q9, .inl (cI, 13, .inl (fun _ => 0)))]) ++ [(q10, .inl (cI, 104, .inl (fun _ => 0)))]) ++ [(q11, .inl (cZ, 13, .inl (fun _ => 0)))])) : va_W)) cl_M 0 1 rfl (by decide) bw_546 rfl rfl rfl rfl (Nat.le_of_ble_eq_true rfl) d_M_init_116 rfl ?_
      exact bV.vretO G E0 rfl (Nat.le_of_ble_eq_true rfl) (Nat.le_of_ble_eq_true rfl) d_M_init_119 ⟨fun i => [a, q1, q2, q3, q4, q5, q6, q7, q8, q9, q10, q11].getD i 0, rfl, rfl⟩
    · refine bV.bipush (v := nI 8) G d_M_init_110 (by decide) ?_
      refine bV.goto (tgt := 116) G d_M_init_112 (by decide) ?_
      refine bV.topi (y := nI (mpN v)) (by rw [(mpN_b v).2.2.2.1 (fun z => absurd z (Int32.not_lt.mpr c97)) (Int32.not_le.mp c107)]) ?_
      refine bV.putF G (ws' := ((a, .inr (4, [.int (0), .int (nI (mpN v)), .int (0), .int (0), .ref q1, .int (0), .ref q2, .int (0), .ref q3, .ref q4, .ref q5, .int (0), .ref q6, .ref q7, .ref q8, .int (0), .ref q9, .ref q10, .ref q11, .int (0), .int (0)])) :: ((((((((((((rest ++ [(q1, .inl (cI, 24, .inl (fun _ => 0)))]) ++ [(q2, .inl (cI, 400, .inl (fun _ => 0)))]) ++ [(q3, .inl (cI, 8, .inl (fun _ => 0)))]) ++ [(q4, .inl (cI, 5600, .inl (fun _ => 0)))]) ++ [(q5, .inl (cZ, 24, .inl (fun _ => 0)))]) ++ [(q6, .inl (cI, 24, .inl (fun _ => 0)))]) ++ [(q7, .inl (cI, 24, .inl (fun _ => 0)))]) ++ [(q8, .inl (cZ, 24, .inl (fun _ => 0)))]) ++ [(q9, .inl (cI, 13, .inl (fun _ => 0)))]) ++ [(q10, .inl (cI, 104, .inl (fun _ => 0)))]) ++ [(q11, .inl (cZ, 13, .inl (fun _ => 0)))])) : va_W)) cl_M 0 1 rfl (by decide) bw_546 rfl rfl rfl rfl (Nat.le_of_ble_eq_true rfl) d_M_init_116 rfl ?_
      exact bV.vretO G E0 rfl (Nat.le_of_ble_eq_true rfl) (Nat.le_of_ble_eq_true rfl) d_M_init_119 ⟨fun i => [a, q1, q2, q3, q4, q5, q6, q7, q8, q9, q10, q11].getD i 0, rfl, rfl⟩
  · refine bV.iconst (v := nI 1) G d_M_init_100 (by decide) ?_
    refine bV.goto (tgt := 116) G d_M_init_101 (by decide) ?_
    refine bV.topi (y := nI (mpN v)) (by rw [(mpN_b v).2.2.1 (Int32.not_le.mp c97)]) ?_
    refine bV.putF G (ws' := ((a, .inr (4, [.int (0), .int (nI (mpN v)), .int (0), .int (0), .ref q1, .int (0), .ref q2, .int (0), .ref q3, .ref q4, .ref q5, .int (0), .ref q6, .ref q7, .ref q8, .int (0), .ref q9, .ref q10, .ref q11, .int (0), .int (0)])) :: ((((((((((((rest ++ [(q1, .inl (cI, 24, .inl (fun _ => 0)))]) ++ [(q2, .inl (cI, 400, .inl (fun _ => 0)))]) ++ [(q3, .inl (cI, 8, .inl (fun _ => 0)))]) ++ [(q4, .inl (cI, 5600, .inl (fun _ => 0)))]) ++ [(q5, .inl (cZ, 24, .inl (fun _ => 0)))]) ++ [(q6, .inl (cI, 24, .inl (fun _ => 0)))]) ++ [(q7, .inl (cI, 24, .inl (fun _ => 0)))]) ++ [(q8, .inl (cZ, 24, .inl (fun _ => 0)))]) ++ [(q9, .inl (cI, 13, .inl (fun _ => 0)))]) ++ [(q10, .inl (cI, 104, .inl (fun _ => 0)))]) ++ [(q11, .inl (cZ, 13, .inl (fun _ => 0)))])) : va_W)) cl_M 0 1 rfl (by decide) bw_546 rfl rfl rfl rfl (Nat.le_of_ble_eq_true rfl) d_M_init_116 rfl ?_
    exact bV.vretO G E0 rfl (Nat.le_of_ble_eq_true rfl) (Nat.le_of_ble_eq_true rfl) d_M_init_119 ⟨fun i => [a, q1, q2, q3, q4, q5, q6, q7, q8, q9, q10, q11].getD i 0, rfl, rfl⟩
