/-! ===== what the constructors make ===== -/
theorem bs_app {α : Type} {ws xs : List α} {q0 : Nat} {c : α} (h : ws[q0]? = some c) : (ws ++ xs)[q0]? = some c := by
  rw [List.getElem?_append_left (List.getElem?_eq_some_iff.mp h).1]; exact h
def mpN (v : Int32) : Nat := if v < 1 then 1 else if 8 < v then 8 else v.toNatClampNeg
theorem mpN_b (v : Int32) : 1 ≤ mpN v ∧ mpN v ≤ 8 ∧ (v < 1 → mpN v = 1) ∧ (¬ v < 1 → 8 < v → mpN v = 8) ∧ (¬ v < 1 → ¬ 8 < v → v = nI (mpN v)) := by
  unfold mpN
  by_cases h1 : v < 1
  · rw [if_pos h1]
    exact ⟨by decide, by decide, fun _ => rfl, fun h => absurd h1 h, fun h => absurd h1 h⟩
  · rw [if_neg h1]
    by_cases h2 : 8 < v
    · rw [if_pos h2]
      exact ⟨by decide, by decide, fun h => absurd h h1, fun _ _ => rfl, fun _ h => absurd h2 h⟩
    · rw [if_neg h2]
      have h0 : ¬ v < 0 := fun z => h1 (Int32.lt_trans z (by decide))
      obtain ⟨j, hj, rfl⟩ := nI_of h0
      rw [nI_clamp hj]
      have a1 : ¬ j < 1 := fun z => h1 (nI_lt z (by decide))
      have a2 : ¬ 8 < j := fun z => h2 (nI_lt z hj)
      exact ⟨by omega, by omega, fun h => absurd h h1, fun _ h => absurd h h2, fun _ _ => rfl⟩
theorem mp_e (v : Int32) : (if nI 1 < (if v < nI 8 then v else nI 8) then (if v < nI 8 then v else nI 8) else nI 1) = nI (mpN v) := by
  obtain ⟨b1, b2, b3, b4, b5⟩ := mpN_b v
  by_cases h1 : v < 1
  · have h8 : v < nI 8 := Int32.lt_trans h1 (by decide)
    rw [if_pos h8, if_neg (fun z => absurd (Int32.lt_trans z h1) (by decide)), b3 h1]
  · by_cases h2 : 8 < v
    · rw [if_neg (fun z => absurd (Int32.lt_trans h2 z) (by decide)), if_pos (by decide), b4 h1 h2]
    · have e := b5 h1 h2
      have hle : mpN v < 2 ^ 31 := by omega
      rw [e]
      have e2 : mpN (nI (mpN v)) = mpN v := by rw [← e]
      rw [e2]
      by_cases h3 : mpN v < 8
      · rw [if_pos (nI_lt h3 (by decide))]
        by_cases h4 : 1 < mpN v
        · rw [if_pos (nI_lt h4 hle)]
        · rw [if_neg (nI_nlt (by omega) (by decide)), show mpN v = 1 by omega]
      · rw [if_neg (nI_nlt (by omega) hle), if_pos (by decide), show mpN v = 8 by omega]
theorem d_L_init_0 : decode b_L_init 0 = .ok (.aload_n 0, 1) := by decide +kernel
theorem d_L_init_1 : decode b_L_init 1 = .ok (.invokespecial 3, 3) := by decide +kernel
theorem d_L_init_4 : decode b_L_init 4 = .ok (.aload_n 0, 1) := by decide +kernel
theorem d_L_init_5 : decode b_L_init 5 = .ok (.sipush 400, 3) := by decide +kernel
theorem d_L_init_8 : decode b_L_init 8 = .ok (.newarray .int, 2) := by decide +kernel
theorem d_L_init_10 : decode b_L_init 10 = .ok (.putfield 9, 3) := by decide +kernel
theorem d_L_init_13 : decode b_L_init 13 = .ok (.aload_n 0, 1) := by decide +kernel
theorem d_L_init_14 : decode b_L_init 14 = .ok (.iconst 0, 1) := by decide +kernel
theorem d_L_init_15 : decode b_L_init 15 = .ok (.putfield 15, 3) := by decide +kernel
theorem d_L_init_18 : decode b_L_init 18 = .ok (.return_, 1) := by decide +kernel
set_option maxRecDepth 20000 in
set_option maxHeartbeats 4000000 in
theorem c_L_init {D : va_G} {cI cZ cJ : ClassId} {ws : va_W} {q0 a : Nat}  (hW : ws[q0]? = some (a, .inr (0, [.null, .int (0)]))) : bC D bcl (tys3 cI cZ cJ) y_L_init ({ frames := 1, cells := 1, slots := 400, locals := 12 }) ws [.ref a] (bO (fun ws9 => ∃ q1 : Nat, ws9 = ((ws ++ ([(q1, .inl (cI, 400, .inl (fun _ => 0)))] : va_W)).set q0 (a, .inr (0, [.ref q1, .int 0]))).set q0 (a, .inr (0, [.ref q1, .int (nI 0)]))) bno) := by
  refine bC.of (by decide) m_L_init.1 (Nat.le_of_ble_eq_true rfl) ?_
  intro Γ G E0
  show bV D bcl Γ 1 ws 0 0 0 [(0, .ref a)] []
  refine bV.aload_n G d_L_init_0 rfl ?_
  refine bV.objInit G bw_26 bw_19 bw_20 (by decide) (by decide) d_L_init_1 ?_
  refine bV.aload_n G d_L_init_4 rfl ?_
  refine bV.sipush (v := nI 400) G d_L_init_5 (by decide) ?_
  refine bV.newarray (atype := .int) (ty := .int) (N := 400) (a0 := (400, .inl (fun _ => 0))) G 0 bw_34 rfl (fun C h => by cases h) rfl (fun _ => rfl) (nI_pos (by decide)) rfl (by decide) (Nat.le_of_ble_eq_true rfl) (Nat.le_of_ble_eq_true rfl) d_L_init_8 (fun q1 => ?_)
  refine bV.putF G (ws' := ((ws ++ ([(q1, .inl (cI, 400, .inl (fun _ => 0)))] : va_W)).set q0 (a, .inr (0, [.ref q1, .int (0)])))) cl_L q0 0 (bs_app (xs := ([(q1, .inl (cI, 400, .inl (fun _ => 0)))] : va_W)) hW) (by decide) bw_27 rfl rfl rfl rfl (Nat.le_of_ble_eq_true rfl) d_L_init_10 rfl ?_
  have g1_q0 := bs_eq (x := (a, .inr (0, [.ref q1, .int (0)]))) (bs_app (xs := ([(q1, .inl (cI, 400, .inl (fun _ => 0)))] : va_W)) hW)
  refine bV.aload_n G d_L_init_13 rfl ?_
  refine bV.iconst (v := nI 0) G d_L_init_14 (by decide) ?_
  refine bV.putf G (ws' := (((ws ++ ([(q1, .inl (cI, 400, .inl (fun _ => 0)))] : va_W)).set q0 (a, .inr (0, [.ref q1, .int (0)]))).set q0 (a, .inr (0, [.ref q1, .int (nI (0))])))) cl_L q0 1 g1_q0 (by decide) bw_28 rfl rfl rfl (Nat.le_of_ble_eq_true rfl) d_L_init_15 rfl ?_
  have g2_q0 := bs_eq (x := (a, .inr (0, [.ref q1, .int (nI (0))]))) g1_q0
  exact bV.vretO G E0 rfl (by decide) (by decide) d_L_init_18 ⟨q1, rfl⟩
theorem d_K_init_0 : decode b_K_init 0 = .ok (.aload_n 0, 1) := by decide +kernel
theorem d_K_init_1 : decode b_K_init 1 = .ok (.invokespecial 1, 3) := by decide +kernel
theorem d_K_init_4 : decode b_K_init 4 = .ok (.aload_n 0, 1) := by decide +kernel
theorem d_K_init_5 : decode b_K_init 5 = .ok (.iconst 0, 1) := by decide +kernel
theorem d_K_init_6 : decode b_K_init 6 = .ok (.iload_n 1, 1) := by decide +kernel
theorem d_K_init_7 : decode b_K_init 7 = .ok (.invokestatic 7, 3) := by decide +kernel
theorem d_K_init_10 : decode b_K_init 10 = .ok (.newarray .boolean, 2) := by decide +kernel
theorem d_K_init_12 : decode b_K_init 12 = .ok (.putfield 13, 3) := by decide +kernel
theorem d_K_init_15 : decode b_K_init 15 = .ok (.return_, 1) := by decide +kernel
set_option maxRecDepth 20000 in
set_option maxHeartbeats 4000000 in
theorem c_K_init {D : va_G} {cI cZ cJ : ClassId} {ws : va_W} {q0 a : Nat} {y : Nat} (hy : y ≤ 24) (hW : ws[q0]? = some (a, .inr (1, [.null]))) : bC D bcl (tys3 cI cZ cJ) y_K_init ({ frames := 1, cells := 1, slots := 24, locals := 21 }) ws [.ref a, .int (nI (y))] (bO (fun ws9 => ∃ q1 : Nat, ws9 = (ws ++ ([(q1, .inl (cZ, y, .inl (fun _ => 0)))] : va_W)).set q0 (a, .inr (1, [.ref q1]))) bno) := by
  refine bC.of (by decide) m_K_init.1 (Nat.le_of_ble_eq_true rfl) ?_
  intro Γ G E0
  show bV D bcl Γ 2 ws 0 0 0 [(0, .ref a), (1, .int (nI (y)))] []
  refine bV.aload_n G d_K_init_0 rfl ?_
  refine bV.objInit G bw_62 bw_19 bw_20 (by decide) (by decide) d_K_init_1 ?_
  refine bV.aload_n G d_K_init_4 rfl ?_
  refine bV.iconst (v := nI 0) G d_K_init_5 (by decide) ?_
  refine bV.iload_n G d_K_init_6 rfl ?_
  refine bV.mmax G bw_63 bw_42 bw_4 bw_43 (by decide) (Nat.le_of_ble_eq_true rfl) (Nat.le_of_ble_eq_true rfl) (Nat.le_of_ble_eq_true rfl) d_K_init_7 ?_
  refine bV.topi (y := (nI (y))) (lmax (by omega)) ?_
  refine bV.newarray (atype := .boolean) (ty := .boolean) (N := y) (a0 := (y, .inl (fun _ => 0))) G 1 bw_68 rfl (fun C h => by cases h) rfl (fun _ => rfl) (nI_pos (by omega)) (nI_clamp (by omega)) (show y * 1 ≤ 536870912 by omega) (Nat.le_of_ble_eq_true rfl) (show 0 + y ≤ 24 by omega) d_K_init_10 (fun q1 => ?_)
  refine bV.putF G (ws' := ((ws ++ ([(q1, .inl (cZ, y, .inl (fun _ => 0)))] : va_W)).set q0 (a, .inr (1, [.ref q1])))) cl_K q0 0 (bs_app (xs := ([(q1, .inl (cZ, y, .inl (fun _ => 0)))] : va_W)) hW) (by decide) bw_64 rfl rfl rfl rfl (Nat.le_of_ble_eq_true rfl) d_K_init_12 rfl ?_
  have g1_q0 := bs_eq (x := (a, .inr (1, [.ref q1]))) (bs_app (xs := ([(q1, .inl (cZ, y, .inl (fun _ => 0)))] : va_W)) hW)
  exact bV.vretO G E0 rfl (by decide) (show 0 + y ≤ 24 by omega) d_K_init_15 ⟨q1, rfl⟩
theorem d_P_init_0 : decode b_P_init 0 = .ok (.aload_n 0, 1) := by decide +kernel
theorem d_P_init_1 : decode b_P_init 1 = .ok (.invokespecial 3, 3) := by decide +kernel
theorem d_P_init_4 : decode b_P_init 4 = .ok (.aload_n 0, 1) := by decide +kernel
theorem d_P_init_5 : decode b_P_init 5 = .ok (.iconst 0, 1) := by decide +kernel
theorem d_P_init_6 : decode b_P_init 6 = .ok (.putfield 9, 3) := by decide +kernel
theorem d_P_init_9 : decode b_P_init 9 = .ok (.aload_n 0, 1) := by decide +kernel
theorem d_P_init_10 : decode b_P_init 10 = .ok (.iconst 0, 1) := by decide +kernel
theorem d_P_init_11 : decode b_P_init 11 = .ok (.putfield 15, 3) := by decide +kernel
theorem d_P_init_14 : decode b_P_init 14 = .ok (.aload_n 0, 1) := by decide +kernel
theorem d_P_init_15 : decode b_P_init 15 = .ok (.iconst 0, 1) := by decide +kernel
theorem d_P_init_16 : decode b_P_init 16 = .ok (.iload_n 2, 1) := by decide +kernel
theorem d_P_init_17 : decode b_P_init 17 = .ok (.invokestatic 18, 3) := by decide +kernel
theorem d_P_init_20 : decode b_P_init 20 = .ok (.newarray .int, 2) := by decide +kernel
theorem d_P_init_22 : decode b_P_init 22 = .ok (.putfield 24, 3) := by decide +kernel
theorem d_P_init_25 : decode b_P_init 25 = .ok (.aload_n 0, 1) := by decide +kernel
theorem d_P_init_26 : decode b_P_init 26 = .ok (.iconst 0, 1) := by decide +kernel
theorem d_P_init_27 : decode b_P_init 27 = .ok (.iload_n 1, 1) := by decide +kernel
theorem d_P_init_28 : decode b_P_init 28 = .ok (.invokestatic 18, 3) := by decide +kernel
theorem d_P_init_31 : decode b_P_init 31 = .ok (.iconst 1, 1) := by decide +kernel
theorem d_P_init_32 : decode b_P_init 32 = .ok (.iadd, 1) := by decide +kernel
theorem d_P_init_33 : decode b_P_init 33 = .ok (.newarray .int, 2) := by decide +kernel
theorem d_P_init_35 : decode b_P_init 35 = .ok (.putfield 28, 3) := by decide +kernel
theorem d_P_init_38 : decode b_P_init 38 = .ok (.return_, 1) := by decide +kernel
set_option maxRecDepth 20000 in
set_option maxHeartbeats 4000000 in
theorem c_P_init {D : va_G} {cI cZ cJ : ClassId} {ws : va_W} {q0 a : Nat} {mo ro : Nat} (hr : ro + (mo + 1) ≤ 700) (hW : ws[q0]? = some (a, .inr (2, [.null, .null, .int (0), .int (0)]))) : bC D bcl (tys3 cI cZ cJ) y_P_init ({ frames := 1, cells := 2, slots := 700, locals := 21 }) ws [.ref a, .int (nI (mo)), .int (nI (ro))] (bO (fun ws9 => ∃ q1 q2 : Nat, ws9 = (((((ws.set q0 (a, .inr (2, [.null, .null, .int (nI 0), .int 0]))).set q0 (a, .inr (2, [.null, .null, .int (nI 0), .int (nI 0)]))) ++ ([(q1, .inl (cI, ro, .inl (fun _ => 0)))] : va_W)).set q0 (a, .inr (2, [.ref q1, .null, .int (nI 0), .int (nI 0)]))) ++ ([(q2, .inl (cI, mo + 1, .inl (fun _ => 0)))] : va_W)).set q0 (a, .inr (2, [.ref q1, .ref q2, .int (nI 0), .int (nI 0)]))) bno) := by
  refine bC.of (by decide) m_P_init.1 (Nat.le_of_ble_eq_true rfl) ?_
  intro Γ G E0
  show bV D bcl Γ 3 ws 0 0 0 [(0, .ref a), (1, .int (nI (mo))), (2, .int (nI (ro)))] []
  refine bV.aload_n G d_P_init_0 rfl ?_
  refine bV.objInit G bw_40 bw_19 bw_20 (by decide) (by decide) d_P_init_1 ?_
  refine bV.aload_n G d_P_init_4 rfl ?_
  refine bV.iconst (v := nI 0) G d_P_init_5 (by decide) ?_
  refine bV.putf G (ws' := (ws.set q0 (a, .inr (2, [.null, .null, .int (nI (0)), .int (0)])))) cl_P q0 2 hW (by decide) bw_46 rfl rfl rfl (Nat.le_of_ble_eq_true rfl) d_P_init_6 rfl ?_
  have g1_q0 := bs_eq (x := (a, .inr (2, [.null, .null, .int (nI (0)), .int (0)]))) hW
  refine bV.aload_n G d_P_init_9 rfl ?_
  refine bV.iconst (v := nI 0) G d_P_init_10 (by decide) ?_
  refine bV.putf G (ws' := ((ws.set q0 (a, .inr (2, [.null, .null, .int (nI (0)), .int (0)]))).set q0 (a, .inr (2, [.null, .null, .int (nI (0)), .int (nI (0))])))) cl_P q0 3 g1_q0 (by decide) bw_47 rfl rfl rfl (Nat.le_of_ble_eq_true rfl) d_P_init_11 rfl ?_
  have g2_q0 := bs_eq (x := (a, .inr (2, [.null, .null, .int (nI (0)), .int (nI (0))]))) g1_q0
  refine bV.aload_n G d_P_init_14 rfl ?_
  refine bV.iconst (v := nI 0) G d_P_init_15 (by decide) ?_
  refine bV.iload_n G d_P_init_16 rfl ?_
  refine bV.mmax G bw_41 bw_42 bw_4 bw_43 (by decide) (Nat.le_of_ble_eq_true rfl) (Nat.le_of_ble_eq_true rfl) (Nat.le_of_ble_eq_true rfl) d_P_init_17 ?_
  refine bV.topi (y := (nI (ro))) (lmax (by omega)) ?_
  refine bV.newarray (atype := .int) (ty := .int) (N := ro) (a0 := (ro, .inl (fun _ => 0))) G 0 bw_34 rfl (fun C h => by cases h) rfl (fun _ => rfl) (nI_pos (by omega)) (nI_clamp (by omega)) (show ro * 4 ≤ 536870912 by omega) (Nat.le_of_ble_eq_true rfl) (show 0 + ro ≤ 700 by omega) d_P_init_20 (fun q1 => ?_)
  refine bV.putF G (ws' := ((((ws.set q0 (a, .inr (2, [.null, .null, .int (nI (0)), .int (0)]))).set q0 (a, .inr (2, [.null, .null, .int (nI (0)), .int (nI (0))]))) ++ ([(q1, .inl (cI, ro, .inl (fun _ => 0)))] : va_W)).set q0 (a, .inr (2, [.ref q1, .null, .int (nI (0)), .int (nI (0))])))) cl_P q0 0 (bs_app (xs := ([(q1, .inl (cI, ro, .inl (fun _ => 0)))] : va_W)) g2_q0) (by decide) bw_44 rfl rfl rfl rfl (Nat.le_of_ble_eq_true rfl) d_P_init_22 rfl ?_
  have g3_q0 := bs_eq (x := (a, .inr (2, [.ref q1, .null, .int (nI (0)), .int (nI (0))]))) (bs_app (xs := ([(q1, .inl (cI, ro, .inl (fun _ => 0)))] : va_W)) g2_q0)
  refine bV.aload_n G d_P_init_25 rfl ?_
  refine bV.iconst (v := nI 0) G d_P_init_26 (by decide) ?_
  refine bV.iload_n G d_P_init_27 rfl ?_
  refine bV.mmax G bw_41 bw_42 bw_4 bw_43 (by decide) (Nat.le_of_ble_eq_true rfl) (Nat.le_of_ble_eq_true rfl) (show 0 + ro ≤ 700 by omega) d_P_init_28 ?_
  refine bV.topi (y := (nI (mo))) (lmax (by omega)) ?_
  refine bV.iconst (v := nI 1) G d_P_init_31 (by decide) ?_
  refine bV.iaddN G d_P_init_32 ?_
  refine bV.newarray (atype := .int) (ty := .int) (N := (mo + 1)) (a0 := ((mo + 1), .inl (fun _ => 0))) G 0 bw_34 rfl (fun C h => by cases h) rfl (fun _ => rfl) (nI_pos (by omega)) (nI_clamp (by omega)) (show (mo + 1) * 4 ≤ 536870912 by omega) (Nat.le_of_ble_eq_true rfl) (show 0 + ro + (mo + 1) ≤ 700 by omega) d_P_init_33 (fun q2 => ?_)
  refine bV.putF G (ws' := ((((((ws.set q0 (a, .inr (2, [.null, .null, .int (nI (0)), .int (0)]))).set q0 (a, .inr (2, [.null, .null, .int (nI (0)), .int (nI (0))]))) ++ ([(q1, .inl (cI, ro, .inl (fun _ => 0)))] : va_W)).set q0 (a, .inr (2, [.ref q1, .null, .int (nI (0)), .int (nI (0))]))) ++ ([(q2, .inl (cI, (mo + 1), .inl (fun _ => 0)))] : va_W)).set q0 (a, .inr (2, [.ref q1, .ref q2, .int (nI (0)), .int (nI (0))])))) cl_P q0 1 (bs_app (xs := ([(q2, .inl (cI, (mo + 1), .inl (fun _ => 0)))] : va_W)) g3_q0) (by decide) bw_45 rfl rfl rfl rfl (Nat.le_of_ble_eq_true rfl) d_P_init_35 rfl ?_
  have g4_q0 := bs_eq (x := (a, .inr (2, [.ref q1, .ref q2, .int (nI (0)), .int (nI (0))]))) (bs_app (xs := ([(q2, .inl (cI, (mo + 1), .inl (fun _ => 0)))] : va_W)) g3_q0)
  exact bV.vretO G E0 rfl (by decide) (show 0 + ro + (mo + 1) ≤ 700 by omega) d_P_init_38 ⟨q1, q2, rfl⟩
