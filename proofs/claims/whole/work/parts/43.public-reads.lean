/-! ===== the store: public reads ===== -/
theorem bV.ltake {D : va_G} {cl : List vw_C} {Γ : bCtx} {nL : Nat} {ws : va_W} {k n pc : Nat} {lv lv' ex : List (Nat × Value)} {st : List Value} (h : lv = lv' ++ ex) (kk : bV D cl Γ nL ws k n pc lv' st) : bV D cl Γ nL ws k n pc lv st := by
  subst h
  exact bV.locals (fun q hq => List.mem_append_left _ hq) kk
theorem d_S_byteAt_0 : decode b_S_byteAt 0 = .ok (.aload_n 0, 1) := by decide +kernel
theorem d_S_byteAt_1 : decode b_S_byteAt 1 = .ok (.invokevirtual 62, 3) := by decide +kernel
theorem d_S_byteAt_4 : decode b_S_byteAt 4 = .ok (.aload_n 0, 1) := by decide +kernel
theorem d_S_byteAt_5 : decode b_S_byteAt 5 = .ok (.iload_n 1, 1) := by decide +kernel
theorem d_S_byteAt_6 : decode b_S_byteAt 6 = .ok (.invokevirtual 97, 3) := by decide +kernel
theorem d_S_byteAt_9 : decode b_S_byteAt 9 = .ok (.aload_n 0, 1) := by decide +kernel
theorem d_S_byteAt_10 : decode b_S_byteAt 10 = .ok (.iload_n 2, 1) := by decide +kernel
theorem d_S_byteAt_11 : decode b_S_byteAt 11 = .ok (.invokevirtual 138, 3) := by decide +kernel
theorem d_S_byteAt_14 : decode b_S_byteAt 14 = .ok (.aload_n 0, 1) := by decide +kernel
theorem d_S_byteAt_15 : decode b_S_byteAt 15 = .ok (.getfield 30, 3) := by decide +kernel
theorem d_S_byteAt_18 : decode b_S_byteAt 18 = .ok (.iload_n 1, 1) := by decide +kernel
theorem d_S_byteAt_19 : decode b_S_byteAt 19 = .ok (.invokevirtual 141, 3) := by decide +kernel
theorem d_S_byteAt_22 : decode b_S_byteAt 22 = .ok (.ifCond .eq 15, 3) := by decide +kernel
theorem d_S_byteAt_25 : decode b_S_byteAt 25 = .ok (.aload_n 0, 1) := by decide +kernel
theorem d_S_byteAt_26 : decode b_S_byteAt 26 = .ok (.getfield 21, 3) := by decide +kernel
theorem d_S_byteAt_29 : decode b_S_byteAt 29 = .ok (.iload_n 1, 1) := by decide +kernel
theorem d_S_byteAt_30 : decode b_S_byteAt 30 = .ok (.iload_n 2, 1) := by decide +kernel
theorem d_S_byteAt_31 : decode b_S_byteAt 31 = .ok (.invokevirtual 107, 3) := by decide +kernel
theorem d_S_byteAt_34 : decode b_S_byteAt 34 = .ok (.goto 4, 3) := by decide +kernel
theorem d_S_byteAt_37 : decode b_S_byteAt 37 = .ok (.iconst (-1), 1) := by decide +kernel
theorem d_S_byteAt_38 : decode b_S_byteAt 38 = .ok (.ireturn, 1) := by decide +kernel
set_option maxRecDepth 20000 in
set_option maxHeartbeats 4000000 in
theorem c_S_byteAt {D : va_G} {cI cZ cJ : ClassId} {ad : Nat → Nat} {mp : Nat} {lf : Nat → Int32} {n : Nat} {Pb : pc_C} {gt gp gh : Nat → Int32} {Pv : pc_C} {gd : Nat → Int32} {Pq : pc_C} {cr : Bool} {rest : va_W} {nb : Nat} {bl : Nat → Nat} {ba : Nat → Nat → Nat} {mt : Nat → Bool} (hRb : pc_R 600 25 Pb (nb, bl, ba)) (hRt : mk_R 24 gt mt) {v u : Int32} : bC D bcl (tys3 cI cZ cJ) y_S_byteAt ({ frames := 7, cells := 3, slots := 18, locals := 106 }) (wS ad cI cZ mp lf n Pb gt gp gh Pv gd Pq cr rest) [.ref (ad 0), .int (v), .int (u)] (bI (fun x ws9 => cr = false ∧ ((0 ≤ v ∧ v < nI nb) ∧ 0 ≤ u) ∧ x = (if mt v.toNatClampNeg = true then (if u.toNatClampNeg < bl v.toNatClampNeg then nI (ba v.toNatClampNeg u.toNatClampNeg) else (-1)) else (-1)) ∧ ws9 = wS ad cI cZ mp lf n Pb gt gp gh Pv gd Pq cr rest) (fun E ws9 => (cr = true ∧ E = "java/lang/IllegalStateException" ∧ ws9 = wS ad cI cZ mp lf n Pb gt gp gh Pv gd Pq cr rest) ∨ (cr = false ∧ ¬ ((0 ≤ v ∧ v < nI nb) ∧ 0 ≤ u) ∧ E = "java/lang/IndexOutOfBoundsException" ∧ ws9 = wS ad cI cZ mp lf n Pb gt gp gh Pv gd Pq cr rest))) := by
  have fb : nb < 25 := hRb.2.1
  refine bC.of (by decide) m_S_byteAt.1 (Nat.le_of_ble_eq_true rfl) ?_
  intro Γ G E0
  show bV D bcl Γ 3 (wS ad cI cZ mp lf n Pb gt gp gh Pv gd Pq cr rest) 0 0 0 [(0, .ref (ad 0)), (1, .int (v)), (2, .int (u))] []
  refine bV.aload_n G d_S_byteAt_0 rfl ?_
  refine bV.callVot G m_S_requireRunning bw_114 bw_s0 bw_112 (c_S_requireRunning ) 0 rfl rfl rfl rfl rfl ⟨by decide, by decide⟩ ⟨by decide, by decide⟩ (Nat.le_of_ble_eq_true rfl) d_S_byteAt_1 (fun ws9 h9 => ?_) (fun E9 ws9 h9 => ?_)
  · obtain ⟨hg1, h9e⟩ := h9
    rw [h9e]
    refine bV.aload_n G d_S_byteAt_4 rfl ?_
    refine bV.iload_n G d_S_byteAt_5 rfl ?_
    refine bV.callVot G m_S_requireBlock bw_310 bw_s7 bw_308 (c_S_requireBlock hRb (v := v)) 0 rfl rfl rfl rfl rfl ⟨by decide, by decide⟩ ⟨by decide, by decide⟩ (Nat.le_of_ble_eq_true rfl) d_S_byteAt_6 (fun ws9 h9 => ?_) (fun E9 ws9 h9 => ?_)
    · obtain ⟨hg6, h9e⟩ := h9
      rw [h9e]
      obtain ⟨j, hj, rfl⟩ := nI_btw hg6 (by omega)
      refine bV.aload_n G d_S_byteAt_9 rfl ?_
      refine bV.iload_n G d_S_byteAt_10 rfl ?_
      refine bV.callVot G m_S_requireNotNegative bw_398 bw_s16 bw_396 (c_S_requireNotNegative (v := u)) 0 rfl rfl rfl rfl rfl ⟨by decide, by decide⟩ ⟨by decide, by decide⟩ (Nat.le_of_ble_eq_true rfl) d_S_byteAt_11 (fun ws9 h9 => ?_) (fun E9 ws9 h9 => ?_)
      · obtain ⟨hg11, h9e⟩ := h9
        rw [h9e]
        obtain ⟨i, hi, rfl⟩ := nI_of (Int32.not_lt.mpr hg11)
        refine bV.aload_n G d_S_byteAt_14 rfl ?_
        refine bV.getf G cl_S 0 2 rfl (by decide) bw_75 rfl d_S_byteAt_15 ?_
        refine bV.iload_n G d_S_byteAt_18 rfl ?_
        refine bV.callVi G m_K_isOn bw_212 bw_213 bw_211 (c_K_isOn wS_t hRt (j := j) (by omega)) 6 rfl rfl rfl rfl rfl ⟨by decide, by decide⟩ ⟨by decide, by decide⟩ (Nat.le_of_ble_eq_true rfl) d_S_byteAt_19 (fun x9 ws9 h9 => ?_)
        obtain ⟨rfl, h9e⟩ := h9
        rw [h9e]
        try dsimp only
        rw [decide_eq_true (show j < 24 by omega), Bool.true_and]
        refine bV.if_eqB (tgt := 37) G d_S_byteAt_22 (by decide) (fun c22 => ?_) (fun c22 => ?_)
        · refine bV.iconst (v := (-1)) G d_S_byteAt_37 (by decide) ?_
          exact bV.iretI G E0 rfl rfl (by decide) (by decide) d_S_byteAt_38 ⟨hg1, ⟨hg6, hg11⟩, by rw [nI_clamp (by omega), nI_clamp (by omega)]; rw [if_neg (by rw [c22]; decide)], rfl⟩
        · refine bV.aload_n G d_S_byteAt_25 rfl ?_
          refine bV.getf G cl_S 0 1 rfl (by decide) bw_74 rfl d_S_byteAt_26 ?_
          refine bV.iload_n G d_S_byteAt_29 rfl ?_
          refine bV.iload_n G d_S_byteAt_30 rfl ?_
          refine bV.callVi G m_P_at bw_221 bw_222 bw_322 (c_P_at wS_b hRb (j := j) (i := i) (by first | omega | exact Nat.le_refl _) (by omega)) 3 rfl rfl rfl rfl rfl ⟨by decide, by decide⟩ ⟨by decide, by decide⟩ (Nat.le_of_ble_eq_true rfl) d_S_byteAt_31 (fun x9 ws9 h9 => ?_)
          obtain ⟨rfl, h9e⟩ := h9
          rw [h9e]
          try dsimp only
          refine bV.goto (tgt := 38) G d_S_byteAt_34 (by decide) ?_
          exact bV.iretI G E0 rfl rfl (by decide) (by decide) d_S_byteAt_38 ⟨hg1, ⟨hg6, hg11⟩, by rw [nI_clamp (by omega), nI_clamp (by omega)]; rw [if_pos c22], rfl⟩
      · obtain ⟨hz, rfl, h9e⟩ := h9
        rw [h9e]
        exact bT.leaveI G E0 rfl (by decide) (by decide) (Or.inr ⟨hg1, fun z => hz z.2, rfl, rfl⟩)
    · obtain ⟨hz, rfl, h9e⟩ := h9
      rw [h9e]
      exact bT.leaveI G E0 rfl (by decide) (by decide) (Or.inr ⟨hg1, fun z => hz z.1, rfl, rfl⟩)
  · obtain ⟨hz, rfl, h9e⟩ := h9
    rw [h9e]
    exact bT.leaveI G E0 rfl (by decide) (by decide) (Or.inl ⟨hz, rfl, rfl⟩)
theorem d_S_digest_0 : decode b_S_digest 0 = .ok (.aload_n 0, 1) := by decide +kernel
theorem d_S_digest_1 : decode b_S_digest 1 = .ok (.invokevirtual 62, 3) := by decide +kernel
theorem d_S_digest_4 : decode b_S_digest 4 = .ok (.aload_n 0, 1) := by decide +kernel
theorem d_S_digest_5 : decode b_S_digest 5 = .ok (.iload_n 1, 1) := by decide +kernel
theorem d_S_digest_6 : decode b_S_digest 6 = .ok (.invokevirtual 97, 3) := by decide +kernel
theorem d_S_digest_9 : decode b_S_digest 9 = .ok (.aload_n 0, 1) := by decide +kernel
theorem d_S_digest_10 : decode b_S_digest 10 = .ok (.iload_n 2, 1) := by decide +kernel
theorem d_S_digest_11 : decode b_S_digest 11 = .ok (.invokevirtual 174, 3) := by decide +kernel
theorem d_S_digest_14 : decode b_S_digest 14 = .ok (.aload_n 0, 1) := by decide +kernel
theorem d_S_digest_15 : decode b_S_digest 15 = .ok (.getfield 30, 3) := by decide +kernel
theorem d_S_digest_18 : decode b_S_digest 18 = .ok (.iload_n 1, 1) := by decide +kernel
theorem d_S_digest_19 : decode b_S_digest 19 = .ok (.invokevirtual 141, 3) := by decide +kernel
theorem d_S_digest_22 : decode b_S_digest 22 = .ok (.ifCond .ne 5, 3) := by decide +kernel
theorem d_S_digest_25 : decode b_S_digest 25 = .ok (.iconst (-1), 1) := by decide +kernel
theorem d_S_digest_26 : decode b_S_digest 26 = .ok (.ireturn, 1) := by decide +kernel
theorem d_S_digest_27 : decode b_S_digest 27 = .ok (.aload_n 0, 1) := by decide +kernel
theorem d_S_digest_28 : decode b_S_digest 28 = .ok (.getfield 21, 3) := by decide +kernel
theorem d_S_digest_31 : decode b_S_digest 31 = .ok (.iconst 1, 1) := by decide +kernel
theorem d_S_digest_32 : decode b_S_digest 32 = .ok (.iload_n 1, 1) := by decide +kernel
theorem d_S_digest_33 : decode b_S_digest 33 = .ok (.aload_n 0, 1) := by decide +kernel
theorem d_S_digest_34 : decode b_S_digest 34 = .ok (.getfield 21, 3) := by decide +kernel
theorem d_S_digest_37 : decode b_S_digest 37 = .ok (.iload_n 1, 1) := by decide +kernel
theorem d_S_digest_38 : decode b_S_digest 38 = .ok (.invokevirtual 110, 3) := by decide +kernel
theorem d_S_digest_41 : decode b_S_digest 41 = .ok (.invokevirtual 113, 3) := by decide +kernel
theorem d_S_digest_44 : decode b_S_digest 44 = .ok (.iload_n 2, 1) := by decide +kernel
theorem d_S_digest_45 : decode b_S_digest 45 = .ok (.invokestatic 177, 3) := by decide +kernel
theorem d_S_digest_48 : decode b_S_digest 48 = .ok (.ireturn, 1) := by decide +kernel
set_option maxRecDepth 20000 in
set_option maxHeartbeats 4000000 in
theorem c_S_digest {D : va_G} {cI cZ cJ : ClassId} {ad : Nat → Nat} {mp : Nat} {lf : Nat → Int32} {n : Nat} {Pb : pc_C} {gt gp gh : Nat → Int32} {Pv : pc_C} {gd : Nat → Int32} {Pq : pc_C} {cr : Bool} {rest : va_W} {nb : Nat} {bl : Nat → Nat} {ba : Nat → Nat → Nat} {mt : Nat → Bool} (hRb : pc_R 600 25 Pb (nb, bl, ba)) (hRt : mk_R 24 gt mt) {v u : Int32} : bC D bcl (tys3 cI cZ cJ) y_S_digest ({ frames := 7, cells := 3, slots := 18, locals := 106 }) (wS ad cI cZ mp lf n Pb gt gp gh Pv gd Pq cr rest) [.ref (ad 0), .int (v), .int (u)] (bI (fun x ws9 => cr = false ∧ ((0 ≤ v ∧ v < nI nb) ∧ (0 ≤ u ∧ u < 4)) ∧ x = (if mt v.toNatClampNeg = true then byteS (sumS (ba v.toNatClampNeg) (nI 1) (bl v.toNatClampNeg)) u.toNatClampNeg else (-1)) ∧ ws9 = wS ad cI cZ mp lf n Pb gt gp gh Pv gd Pq cr rest) (fun E ws9 => (cr = true ∧ E = "java/lang/IllegalStateException" ∧ ws9 = wS ad cI cZ mp lf n Pb gt gp gh Pv gd Pq cr rest) ∨ (cr = false ∧ ¬ ((0 ≤ v ∧ v < nI nb) ∧ (0 ≤ u ∧ u < 4)) ∧ E = "java/lang/IndexOutOfBoundsException" ∧ ws9 = wS ad cI cZ mp lf n Pb gt gp gh Pv gd Pq cr rest))) := by
  have fb : nb < 25 := hRb.2.1
  refine bC.of (by decide) m_S_digest.1 (Nat.le_of_ble_eq_true rfl) ?_
  intro Γ G E0
  show bV D bcl Γ 3 (wS ad cI cZ mp lf n Pb gt gp gh Pv gd Pq cr rest) 0 0 0 [(0, .ref (ad 0)), (1, .int (v)), (2, .int (u))] []
  refine bV.aload_n G d_S_digest_0 rfl ?_
  refine bV.callVot G m_S_requireRunning bw_114 bw_s0 bw_112 (c_S_requireRunning ) 0 rfl rfl rfl rfl rfl ⟨by decide, by decide⟩ ⟨by decide, by decide⟩ (Nat.le_of_ble_eq_true rfl) d_S_digest_1 (fun ws9 h9 => ?_) (fun E9 ws9 h9 => ?_)
  · obtain ⟨hg1, h9e⟩ := h9
    rw [h9e]
    refine bV.aload_n G d_S_digest_4 rfl ?_
    refine bV.iload_n G d_S_digest_5 rfl ?_
    refine bV.callVot G m_S_requireBlock bw_310 bw_s7 bw_308 (c_S_requireBlock hRb (v := v)) 0 rfl rfl rfl rfl rfl ⟨by decide, by decide⟩ ⟨by decide, by decide⟩ (Nat.le_of_ble_eq_true rfl) d_S_digest_6 (fun ws9 h9 => ?_) (fun E9 ws9 h9 => ?_)
    · obtain ⟨hg6, h9e⟩ := h9
      rw [h9e]
      obtain ⟨j, hj, rfl⟩ := nI_btw hg6 (by omega)
      refine bV.aload_n G d_S_digest_9 rfl ?_
      refine bV.iload_n G d_S_digest_10 rfl ?_
      refine bV.callVot G m_S_requireByteOfSum bw_522 bw_s25 bw_520 (c_S_requireByteOfSum (v := u)) 0 rfl rfl rfl rfl rfl ⟨by decide, by decide⟩ ⟨by decide, by decide⟩ (Nat.le_of_ble_eq_true rfl) d_S_digest_11 (fun ws9 h9 => ?_) (fun E9 ws9 h9 => ?_)
      · obtain ⟨hg11, h9e⟩ := h9
        rw [h9e]
        obtain ⟨i, hi, rfl⟩ := nI_btw (n := 4) hg11 (by decide)
        refine bV.aload_n G d_S_digest_14 rfl ?_
        refine bV.getf G cl_S 0 2 rfl (by decide) bw_75 rfl d_S_digest_15 ?_
        refine bV.iload_n G d_S_digest_18 rfl ?_
        refine bV.callVi G m_K_isOn bw_212 bw_213 bw_211 (c_K_isOn wS_t hRt (j := j) (by omega)) 6 rfl rfl rfl rfl rfl ⟨by decide, by decide⟩ ⟨by decide, by decide⟩ (Nat.le_of_ble_eq_true rfl) d_S_digest_19 (fun x9 ws9 h9 => ?_)
        obtain ⟨rfl, h9e⟩ := h9
        rw [h9e]
        try dsimp only
        rw [decide_eq_true (show j < 24 by omega), Bool.true_and]
        refine bV.if_neB (tgt := 27) G d_S_digest_22 (by decide) (fun c22 => ?_) (fun c22 => ?_)
        · refine bV.aload_n G d_S_digest_27 rfl ?_
          refine bV.getf G cl_S 0 1 rfl (by decide) bw_74 rfl d_S_digest_28 ?_
          refine bV.iconst (v := nI 1) G d_S_digest_31 (by decide) ?_
          refine bV.iload_n G d_S_digest_32 rfl ?_
          refine bV.aload_n G d_S_digest_33 rfl ?_
          refine bV.getf G cl_S 0 1 rfl (by decide) bw_74 rfl d_S_digest_34 ?_
          refine bV.iload_n G d_S_digest_37 rfl ?_
          refine bV.callVi G m_P_length bw_189 bw_190 bw_321 (c_P_length wS_b hRb (j := j) (by first | omega | exact Nat.le_refl _)) 3 rfl rfl rfl rfl rfl ⟨by decide, by decide⟩ ⟨by decide, by decide⟩ (Nat.le_of_ble_eq_true rfl) d_S_digest_38 (fun x9 ws9 h9 => ?_)
          obtain ⟨rfl, h9e⟩ := h9
          rw [h9e]
          try dsimp only
          refine bV.callVi G m_P_sum bw_331 bw_332 bw_330 (c_P_sum wS_b hRb (s0 := nI 1) (j := j) (len := bl j) (by first | omega | exact Nat.le_refl _) (by first | omega | exact Nat.le_refl _ | (dsimp only; omega))) 3 rfl rfl rfl rfl rfl ⟨by decide, by decide⟩ ⟨by decide, by decide⟩ (Nat.le_of_ble_eq_true rfl) d_S_digest_41 (fun x9 ws9 h9 => ?_)
          obtain ⟨rfl, h9e⟩ := h9
          rw [h9e]
          try dsimp only
          refine bV.iload_n G d_S_digest_44 rfl ?_
          refine bV.callSi G m_S_byteOfSum bw_386 bw_385 (c_S_byteOfSum (s := sumS (ba j) (nI 1) (bl j)) (i := i) (by omega)) rfl rfl ⟨by decide, by decide⟩ ⟨by decide, by decide⟩ (Nat.le_of_ble_eq_true rfl) d_S_digest_45 (fun x9 ws9 h9 => ?_)
          obtain ⟨rfl, h9e⟩ := h9
          rw [h9e]
          try dsimp only
          exact bV.iretI G E0 rfl rfl (by decide) (by decide) d_S_digest_48 ⟨hg1, ⟨hg6, hg11⟩, by rw [nI_clamp (by omega), nI_clamp (by omega)]; rw [if_pos c22], rfl⟩
        · refine bV.iconst (v := (-1)) G d_S_digest_25 (by decide) ?_
          exact bV.iretI G E0 rfl rfl (by decide) (by decide) d_S_digest_26 ⟨hg1, ⟨hg6, hg11⟩, by rw [nI_clamp (by omega), nI_clamp (by omega)]; rw [if_neg (by rw [c22]; decide)], rfl⟩
      · obtain ⟨hz, rfl, h9e⟩ := h9
        rw [h9e]
        exact bT.leaveI G E0 rfl (by decide) (by decide) (Or.inr ⟨hg1, fun z => hz z.2, rfl, rfl⟩)
    · obtain ⟨hz, rfl, h9e⟩ := h9
      rw [h9e]
      exact bT.leaveI G E0 rfl (by decide) (by decide) (Or.inr ⟨hg1, fun z => hz z.1, rfl, rfl⟩)
  · obtain ⟨hz, rfl, h9e⟩ := h9
    rw [h9e]
    exact bT.leaveI G E0 rfl (by decide) (by decide) (Or.inl ⟨hz, rfl, rfl⟩)
theorem d_S_holds_0 : decode b_S_holds 0 = .ok (.aload_n 0, 1) := by decide +kernel
theorem d_S_holds_1 : decode b_S_holds 1 = .ok (.invokevirtual 62, 3) := by decide +kernel
theorem d_S_holds_4 : decode b_S_holds 4 = .ok (.aload_n 0, 1) := by decide +kernel
theorem d_S_holds_5 : decode b_S_holds 5 = .ok (.iload_n 1, 1) := by decide +kernel
theorem d_S_holds_6 : decode b_S_holds 6 = .ok (.invokevirtual 94, 3) := by decide +kernel
theorem d_S_holds_9 : decode b_S_holds 9 = .ok (.aload_n 0, 1) := by decide +kernel
theorem d_S_holds_10 : decode b_S_holds 10 = .ok (.iload_n 2, 1) := by decide +kernel
theorem d_S_holds_11 : decode b_S_holds 11 = .ok (.invokevirtual 97, 3) := by decide +kernel
theorem d_S_holds_14 : decode b_S_holds 14 = .ok (.aload_n 0, 1) := by decide +kernel
theorem d_S_holds_15 : decode b_S_holds 15 = .ok (.iload_n 1, 1) := by decide +kernel
theorem d_S_holds_16 : decode b_S_holds 16 = .ok (.iload_n 2, 1) := by decide +kernel
theorem d_S_holds_17 : decode b_S_holds 17 = .ok (.invokevirtual 100, 3) := by decide +kernel
theorem d_S_holds_20 : decode b_S_holds 20 = .ok (.ireturn, 1) := by decide +kernel
set_option maxRecDepth 20000 in
set_option maxHeartbeats 4000000 in
theorem c_S_holds {D : va_G} {cI cZ cJ : ClassId} {ad : Nat → Nat} {mp : Nat} {lf : Nat → Int32} {n : Nat} {Pb : pc_C} {gt gp gh : Nat → Int32} {Pv : pc_C} {gd : Nat → Int32} {Pq : pc_C} {cr : Bool} {rest : va_W} {nb : Nat} {bl : Nat → Nat} {ba : Nat → Nat → Nat} {nv : Nat} {vl : Nat → Nat} {va : Nat → Nat → Nat} {md : Nat → Bool} (hRb : pc_R 600 25 Pb (nb, bl, ba)) (hRv : pc_R 104 13 Pv (nv, vl, va)) (hRd : mk_R 12 gd md) {v u : Int32} : bC D bcl (tys3 cI cZ cJ) y_S_holds ({ frames := 7, cells := 3, slots := 18, locals := 106 }) (wS ad cI cZ mp lf n Pb gt gp gh Pv gd Pq cr rest) [.ref (ad 0), .int (v), .int (u)] (bI (fun x ws9 => cr = false ∧ ((0 ≤ v ∧ v < nI nv) ∧ (0 ≤ u ∧ u < nI nb)) ∧ x = bB (dcd (∃ k, k < lenV md vl v.toNatClampNeg ∧ va v.toNatClampNeg k = u.toNatClampNeg)) ∧ ws9 = wS ad cI cZ mp lf n Pb gt gp gh Pv gd Pq cr rest) (fun E ws9 => (cr = true ∧ E = "java/lang/IllegalStateException" ∧ ws9 = wS ad cI cZ mp lf n Pb gt gp gh Pv gd Pq cr rest) ∨ (cr = false ∧ ¬ ((0 ≤ v ∧ v < nI nv) ∧ (0 ≤ u ∧ u < nI nb)) ∧ E = "java/lang/IndexOutOfBoundsException" ∧ ws9 = wS ad cI cZ mp lf n Pb gt gp gh Pv gd Pq cr rest))) := by
  have fb : nb < 25 := hRb.2.1
  have fv : nv < 13 := hRv.2.1
  refine bC.of (by decide) m_S_holds.1 (Nat.le_of_ble_eq_true rfl) ?_
  intro Γ G E0
  show bV D bcl Γ 3 (wS ad cI cZ mp lf n Pb gt gp gh Pv gd Pq cr rest) 0 0 0 [(0, .ref (ad 0)), (1, .int (v)), (2, .int (u))] []
  refine bV.aload_n G d_S_holds_0 rfl ?_
  refine bV.callVot G m_S_requireRunning bw_114 bw_s0 bw_112 (c_S_requireRunning ) 0 rfl rfl rfl rfl rfl ⟨by decide, by decide⟩ ⟨by decide, by decide⟩ (Nat.le_of_ble_eq_true rfl) d_S_holds_1 (fun ws9 h9 => ?_) (fun E9 ws9 h9 => ?_)
  · obtain ⟨hg1, h9e⟩ := h9
    rw [h9e]
    refine bV.aload_n G d_S_holds_4 rfl ?_
    refine bV.iload_n G d_S_holds_5 rfl ?_
    refine bV.callVot G m_S_requireVersion bw_286 bw_s6 bw_284 (c_S_requireVersion hRv (v := v)) 0 rfl rfl rfl rfl rfl ⟨by decide, by decide⟩ ⟨by decide, by decide⟩ (Nat.le_of_ble_eq_true rfl) d_S_holds_6 (fun ws9 h9 => ?_) (fun E9 ws9 h9 => ?_)
    · obtain ⟨hg6, h9e⟩ := h9
      rw [h9e]
      obtain ⟨j, hj, rfl⟩ := nI_btw hg6 (by omega)
      refine bV.aload_n G d_S_holds_9 rfl ?_
      refine bV.iload_n G d_S_holds_10 rfl ?_
      refine bV.callVot G m_S_requireBlock bw_310 bw_s7 bw_308 (c_S_requireBlock hRb (v := u)) 0 rfl rfl rfl rfl rfl ⟨by decide, by decide⟩ ⟨by decide, by decide⟩ (Nat.le_of_ble_eq_true rfl) d_S_holds_11 (fun ws9 h9 => ?_) (fun E9 ws9 h9 => ?_)
      · obtain ⟨hg11, h9e⟩ := h9
        rw [h9e]
        obtain ⟨b, hb, rfl⟩ := nI_btw hg11 (by omega)
        refine bV.aload_n G d_S_holds_14 rfl ?_
        refine bV.iload_n G d_S_holds_15 rfl ?_
        refine bV.iload_n G d_S_holds_16 rfl ?_
        refine bV.callVi G m_S_hasBlock bw_315 bw_s8 bw_313 (c_S_hasBlock hRv hRd (v := j) (b := b) (by omega) (by omega)) 0 rfl rfl rfl rfl rfl ⟨by decide, by decide⟩ ⟨by decide, by decide⟩ (Nat.le_of_ble_eq_true rfl) d_S_holds_17 (fun x9 ws9 h9 => ?_)
        obtain ⟨rfl, h9e⟩ := h9
        rw [h9e]
        try dsimp only
        exact bV.iretI G E0 rfl (bB_n _) (by decide) (by decide) d_S_holds_20 ⟨hg1, ⟨hg6, hg11⟩, by rw [nI_clamp (by omega), nI_clamp (by omega)]; skip, rfl⟩
      · obtain ⟨hz, rfl, h9e⟩ := h9
        rw [h9e]
        exact bT.leaveI G E0 rfl (by decide) (by decide) (Or.inr ⟨hg1, fun z => hz z.2, rfl, rfl⟩)
    · obtain ⟨hz, rfl, h9e⟩ := h9
      rw [h9e]
      exact bT.leaveI G E0 rfl (by decide) (by decide) (Or.inr ⟨hg1, fun z => hz z.1, rfl, rfl⟩)
  · obtain ⟨hz, rfl, h9e⟩ := h9
    rw [h9e]
    exact bT.leaveI G E0 rfl (by decide) (by decide) (Or.inl ⟨hz, rfl, rfl⟩)
theorem d_S_packByte_0 : decode b_S_packByte 0 = .ok (.aload_n 0, 1) := by decide +kernel
theorem d_S_packByte_1 : decode b_S_packByte 1 = .ok (.invokevirtual 62, 3) := by decide +kernel
theorem d_S_packByte_4 : decode b_S_packByte 4 = .ok (.aload_n 0, 1) := by decide +kernel
theorem d_S_packByte_5 : decode b_S_packByte 5 = .ok (.iload_n 1, 1) := by decide +kernel
theorem d_S_packByte_6 : decode b_S_packByte 6 = .ok (.iload_n 2, 1) := by decide +kernel
theorem d_S_packByte_7 : decode b_S_packByte 7 = .ok (.invokevirtual 164, 3) := by decide +kernel
theorem d_S_packByte_10 : decode b_S_packByte 10 = .ok (.aload_n 0, 1) := by decide +kernel
theorem d_S_packByte_11 : decode b_S_packByte 11 = .ok (.getfield 55, 3) := by decide +kernel
theorem d_S_packByte_14 : decode b_S_packByte 14 = .ok (.iload_n 1, 1) := by decide +kernel
theorem d_S_packByte_15 : decode b_S_packByte 15 = .ok (.iload_n 2, 1) := by decide +kernel
theorem d_S_packByte_16 : decode b_S_packByte 16 = .ok (.invokevirtual 107, 3) := by decide +kernel
theorem d_S_packByte_19 : decode b_S_packByte 19 = .ok (.ireturn, 1) := by decide +kernel
set_option maxRecDepth 20000 in
set_option maxHeartbeats 4000000 in
theorem c_S_packByte {D : va_G} {cI cZ cJ : ClassId} {ad : Nat → Nat} {mp : Nat} {lf : Nat → Int32} {n : Nat} {Pb : pc_C} {gt gp gh : Nat → Int32} {Pv : pc_C} {gd : Nat → Int32} {Pq : pc_C} {cr : Bool} {rest : va_W} {np : Nat} {ql : Nat → Nat} {qa : Nat → Nat → Nat} (hRq : pc_R 664 (mp + 1) Pq (np, ql, qa)) {v u : Int32} (hm : mp ≤ 8) : bC D bcl (tys3 cI cZ cJ) y_S_packByte ({ frames := 7, cells := 2, slots := 12, locals := 106 }) (wS ad cI cZ mp lf n Pb gt gp gh Pv gd Pq cr rest) [.ref (ad 0), .int (v), .int (u)] (bI (fun x ws9 => cr = false ∧ ((0 ≤ v ∧ v < nI np) ∧ 0 ≤ u ∧ u < nI (ql v.toNatClampNeg)) ∧ x = nI (qa v.toNatClampNeg u.toNatClampNeg) ∧ ws9 = wS ad cI cZ mp lf n Pb gt gp gh Pv gd Pq cr rest) (fun E ws9 => (cr = true ∧ E = "java/lang/IllegalStateException" ∧ ws9 = wS ad cI cZ mp lf n Pb gt gp gh Pv gd Pq cr rest) ∨ (cr = false ∧ ¬ ((0 ≤ v ∧ v < nI np) ∧ 0 ≤ u ∧ u < nI (ql v.toNatClampNeg)) ∧ E = "java/lang/IndexOutOfBoundsException" ∧ ws9 = wS ad cI cZ mp lf n Pb gt gp gh Pv gd Pq cr rest))) := by
  have fq : np < mp + 1 := hRq.2.1
  refine bC.of (by decide) m_S_packByte.1 (Nat.le_of_ble_eq_true rfl) ?_
  intro Γ G E0
  show bV D bcl Γ 3 (wS ad cI cZ mp lf n Pb gt gp gh Pv gd Pq cr rest) 0 0 0 [(0, .ref (ad 0)), (1, .int (v)), (2, .int (u))] []
  refine bV.aload_n G d_S_packByte_0 rfl ?_
  refine bV.callVot G m_S_requireRunning bw_114 bw_s0 bw_112 (c_S_requireRunning ) 0 rfl rfl rfl rfl rfl ⟨by decide, by decide⟩ ⟨by decide, by decide⟩ (Nat.le_of_ble_eq_true rfl) d_S_packByte_1 (fun ws9 h9 => ?_) (fun E9 ws9 h9 => ?_)
  · obtain ⟨hg1, h9e⟩ := h9
    rw [h9e]
    refine bV.aload_n G d_S_packByte_4 rfl ?_
    refine bV.iload_n G d_S_packByte_5 rfl ?_
    refine bV.iload_n G d_S_packByte_6 rfl ?_
    refine bV.callVot G m_S_requireByteOfPack bw_488 bw_s23 bw_486 (c_S_requireByteOfPack hRq (v := v) (u := u) hm) 0 rfl rfl rfl rfl rfl ⟨by decide, by decide⟩ ⟨by decide, by decide⟩ (Nat.le_of_ble_eq_true rfl) d_S_packByte_7 (fun ws9 h9 => ?_) (fun E9 ws9 h9 => ?_)
    · obtain ⟨hg7, h9e⟩ := h9
      rw [h9e]
      obtain ⟨j, hj, rfl⟩ := nI_btw hg7.1 (by omega)
      have hl9 : ql j ≤ 664 := pc_R_len (A := (np, ql, qa)) hRq (Nat.le_of_lt hj)
      have hg8 : 0 ≤ u ∧ u < nI (ql j) := ⟨hg7.2.1, by have z3 := hg7.2.2; rw [nI_clamp (by omega)] at z3; exact z3⟩
      obtain ⟨i, hi, rfl⟩ := nI_btw hg8 (by omega)
      refine bV.aload_n G d_S_packByte_10 rfl ?_
      refine bV.getf G cl_S 0 7 rfl (by decide) bw_80 rfl d_S_packByte_11 ?_
      refine bV.iload_n G d_S_packByte_14 rfl ?_
      refine bV.iload_n G d_S_packByte_15 rfl ?_
      refine bV.callVi G m_P_at bw_221 bw_222 bw_322 (c_P_at wS_q hRq (j := j) (i := i) (by first | omega | exact Nat.le_refl _) (by omega)) 17 rfl rfl rfl rfl rfl ⟨by decide, by decide⟩ ⟨by decide, by decide⟩ (Nat.le_of_ble_eq_true rfl) d_S_packByte_16 (fun x9 ws9 h9 => ?_)
      obtain ⟨rfl, h9e⟩ := h9
      rw [h9e]
      try dsimp only
      rw [if_pos (by show i < ql j; omega)]
      exact bV.iretI G E0 rfl rfl (by decide) (by decide) d_S_packByte_19 ⟨hg1, hg7, by rw [nI_clamp (by omega), nI_clamp (by omega)]; skip, rfl⟩
    · obtain ⟨hz, rfl, h9e⟩ := h9
      rw [h9e]
      exact bT.leaveI G E0 rfl (by decide) (by decide) (Or.inr ⟨hg1, hz, rfl, rfl⟩)
  · obtain ⟨hz, rfl, h9e⟩ := h9
    rw [h9e]
    exact bT.leaveI G E0 rfl (by decide) (by decide) (Or.inl ⟨hz, rfl, rfl⟩)
theorem d_S_badAt_0 : decode b_S_badAt 0 = .ok (.aload_n 0, 1) := by decide +kernel
theorem d_S_badAt_1 : decode b_S_badAt 1 = .ok (.invokevirtual 62, 3) := by decide +kernel
theorem d_S_badAt_4 : decode b_S_badAt 4 = .ok (.iconst 0, 1) := by decide +kernel
theorem d_S_badAt_5 : decode b_S_badAt 5 = .ok (.istore_n 1, 1) := by decide +kernel
theorem d_S_badAt_6 : decode b_S_badAt 6 = .ok (.iload_n 1, 1) := by decide +kernel
theorem d_S_badAt_7 : decode b_S_badAt 7 = .ok (.aload_n 0, 1) := by decide +kernel
theorem d_S_badAt_8 : decode b_S_badAt 8 = .ok (.getfield 55, 3) := by decide +kernel
theorem d_S_badAt_11 : decode b_S_badAt 11 = .ok (.invokevirtual 123, 3) := by decide +kernel
theorem d_S_badAt_14 : decode b_S_badAt 14 = .ok (.if_icmp .ge 19, 3) := by decide +kernel
theorem d_S_badAt_17 : decode b_S_badAt 17 = .ok (.aload_n 0, 1) := by decide +kernel
theorem d_S_badAt_18 : decode b_S_badAt 18 = .ok (.iload_n 1, 1) := by decide +kernel
theorem d_S_badAt_19 : decode b_S_badAt 19 = .ok (.invokevirtual 171, 3) := by decide +kernel
theorem d_S_badAt_22 : decode b_S_badAt 22 = .ok (.ifCond .eq 5, 3) := by decide +kernel
theorem d_S_badAt_25 : decode b_S_badAt 25 = .ok (.iload_n 1, 1) := by decide +kernel
theorem d_S_badAt_26 : decode b_S_badAt 26 = .ok (.ireturn, 1) := by decide +kernel
theorem d_S_badAt_27 : decode b_S_badAt 27 = .ok (.iinc 1 1, 3) := by decide +kernel
theorem d_S_badAt_30 : decode b_S_badAt 30 = .ok (.goto (-24), 3) := by decide +kernel
theorem d_S_badAt_33 : decode b_S_badAt 33 = .ok (.iconst (-1), 1) := by decide +kernel
theorem d_S_badAt_34 : decode b_S_badAt 34 = .ok (.ireturn, 1) := by decide +kernel
set_option maxRecDepth 20000 in
set_option maxHeartbeats 4000000 in
theorem c_S_badAt {D : va_G} {cI cZ cJ : ClassId} {ad : Nat → Nat} {mp : Nat} {lf : Nat → Int32} {n : Nat} {Pb : pc_C} {gt gp gh : Nat → Int32} {Pv : pc_C} {gd : Nat → Int32} {Pq : pc_C} {cr : Bool} {rest : va_W} {np : Nat} {ql : Nat → Nat} {qa : Nat → Nat → Nat} (hRq : pc_R 664 (mp + 1) Pq (np, ql, qa)) (hm : mp ≤ 8) (hq4 : ∀ p, p < np → 4 ≤ ql p) : bC D bcl (tys3 cI cZ cJ) y_S_badAt ({ frames := 7, cells := 1, slots := 6, locals := 104 }) (wS ad cI cZ mp lf n Pb gt gp gh Pv gd Pq cr rest) [.ref (ad 0)] (bI (fun x ws9 => cr = false ∧ ((∃ p, p < np ∧ x = nI p ∧ badP ql qa p ∧ ∀ p0, p0 < p → ¬ badP ql qa p0) ∨ (x = -1 ∧ ∀ p, p < np → ¬ badP ql qa p)) ∧ ws9 = wS ad cI cZ mp lf n Pb gt gp gh Pv gd Pq cr rest) (fun E ws9 => cr = true ∧ E = "java/lang/IllegalStateException" ∧ ws9 = wS ad cI cZ mp lf n Pb gt gp gh Pv gd Pq cr rest)) := by
  have fq : np < mp + 1 := hRq.2.1
  refine bC.of (by decide) m_S_badAt.1 (Nat.le_of_ble_eq_true rfl) ?_
  intro Γ G E0
  show bV D bcl Γ 2 (wS ad cI cZ mp lf n Pb gt gp gh Pv gd Pq cr rest) 0 0 0 [(0, .ref (ad 0))] []
  have loop : ∀ (d : Nat) (p : Nat), cr = false → d + p = np → (∀ p0, p0 < p → ¬ badP ql qa p0) → bV D bcl Γ 2 (wS ad cI cZ mp lf n Pb gt gp gh Pv gd Pq cr rest) 1 6 6 [(0, .ref (ad 0)), (1, .int (nI (p)))] [] := by
    intro d
    induction d with
    | zero =>
      intro p hg1 hd hn
      refine bV.iload_n G d_S_badAt_6 rfl ?_
      refine bV.aload_n G d_S_badAt_7 rfl ?_
      refine bV.getf G cl_S 0 7 rfl (by decide) bw_80 rfl d_S_badAt_8 ?_
      refine bV.callVi G m_P_count bw_208 bw_209 bw_207 (c_P_count wS_q hRq) 17 rfl rfl rfl rfl rfl ⟨by decide, by decide⟩ ⟨by decide, by decide⟩ (Nat.le_of_ble_eq_true rfl) d_S_badAt_11 (fun x9 ws9 h9 => ?_)
      obtain ⟨rfl, h9e⟩ := h9
      rw [h9e]
      try dsimp only
      refine bV.icmp_geN (tgt := 33) G d_S_badAt_14 (by decide) (by omega) (by omega) (fun c14 => ?_) (fun c14 => ?_)
      · refine bV.iconst (v := (-1)) G d_S_badAt_33 (by decide) ?_
        exact bV.iretI G E0 rfl rfl (by decide) (by decide) d_S_badAt_34 ⟨hg1, Or.inr ⟨rfl, fun p1 h => hn p1 (by omega)⟩, rfl⟩
      · exfalso; omega
    | succ d ih =>
      intro p hg1 hd hn
      refine bV.iload_n G d_S_badAt_6 rfl ?_
      refine bV.aload_n G d_S_badAt_7 rfl ?_
      refine bV.getf G cl_S 0 7 rfl (by decide) bw_80 rfl d_S_badAt_8 ?_
      refine bV.callVi G m_P_count bw_208 bw_209 bw_207 (c_P_count wS_q hRq) 17 rfl rfl rfl rfl rfl ⟨by decide, by decide⟩ ⟨by decide, by decide⟩ (Nat.le_of_ble_eq_true rfl) d_S_badAt_11 (fun x9 ws9 h9 => ?_)
      obtain ⟨rfl, h9e⟩ := h9
      rw [h9e]
      try dsimp only
      refine bV.icmp_geN (tgt := 33) G d_S_badAt_14 (by decide) (by omega) (by omega) (fun c14 => ?_) (fun c14 => ?_)
      · exfalso; omega
      · refine bV.aload_n G d_S_badAt_17 rfl ?_
        refine bV.iload_n G d_S_badAt_18 rfl ?_
        refine bV.callVi G m_S_isBad bw_504 bw_s24 bw_502 (c_S_isBad hRq (p := p) (by omega) (hq4 _ (by omega)) hm) 0 rfl rfl rfl rfl rfl ⟨by decide, by decide⟩ ⟨by decide, by decide⟩ (Nat.le_of_ble_eq_true rfl) d_S_badAt_19 (fun x9 ws9 h9 => ?_)
        obtain ⟨rfl, h9e⟩ := h9
        rw [h9e]
        try dsimp only
        refine bV.if_eqB (tgt := 27) G d_S_badAt_22 (by decide) (fun c22 => ?_) (fun c22 => ?_)
        · refine bV.iincN G (lv' := [(0, .ref (ad 0)), (1, .int (nI (p + 1)))]) d_S_badAt_27 rfl (by decide) rfl rfl ?_
          refine bV.goto (tgt := 6) G d_S_badAt_30 (by decide) ?_
          have hnb : ¬ badP ql qa p := fun z => by rw [dcd_t z] at c22; cases c22
          exact ih (p + 1) hg1 (by omega) (fun p0 h => by rcases Nat.lt_or_ge p0 p with z | z; exact hn p0 z; rw [show p0 = p by omega]; exact hnb)
        · have hbad : badP ql qa p := Classical.byContradiction fun z => by rw [dcd_f z] at c22; cases c22
          refine bV.iload_n G d_S_badAt_25 rfl ?_
          exact bV.iretI G E0 rfl rfl (by decide) (by decide) d_S_badAt_26 ⟨hg1, Or.inl ⟨p, by omega, rfl, hbad, hn⟩, rfl⟩
  refine bV.aload_n G d_S_badAt_0 rfl ?_
  refine bV.callVot G m_S_requireRunning bw_114 bw_s0 bw_112 (c_S_requireRunning ) 0 rfl rfl rfl rfl rfl ⟨by decide, by decide⟩ ⟨by decide, by decide⟩ (Nat.le_of_ble_eq_true rfl) d_S_badAt_1 (fun ws9 h9 => ?_) (fun E9 ws9 h9 => ?_)
  · obtain ⟨hg1, h9e⟩ := h9
    rw [h9e]
    refine bV.iconst (v := nI 0) G d_S_badAt_4 (by decide) ?_
    refine bV.istore_n G (lv' := [(0, .ref (ad 0)), (1, .int (nI (0)))]) d_S_badAt_5 (by decide) rfl rfl ?_
    exact loop np 0 hg1 (by omega) (fun k0 h => absurd h (Nat.not_lt_zero _))
  · obtain ⟨hz, rfl, h9e⟩ := h9
    rw [h9e]
    exact bT.leaveI G E0 rfl (by decide) (by decide) ⟨hz, rfl, rfl⟩
theorem d_S_root_0 : decode b_S_root 0 = .ok (.aload_n 0, 1) := by decide +kernel
theorem d_S_root_1 : decode b_S_root 1 = .ok (.invokevirtual 62, 3) := by decide +kernel
theorem d_S_root_4 : decode b_S_root 4 = .ok (.aload_n 0, 1) := by decide +kernel
theorem d_S_root_5 : decode b_S_root 5 = .ok (.iload_n 1, 1) := by decide +kernel
theorem d_S_root_6 : decode b_S_root 6 = .ok (.invokevirtual 94, 3) := by decide +kernel
theorem d_S_root_9 : decode b_S_root 9 = .ok (.iconst 1, 1) := by decide +kernel
theorem d_S_root_10 : decode b_S_root 10 = .ok (.istore_n 2, 1) := by decide +kernel
theorem d_S_root_11 : decode b_S_root 11 = .ok (.aload_n 0, 1) := by decide +kernel
theorem d_S_root_12 : decode b_S_root 12 = .ok (.iload_n 1, 1) := by decide +kernel
theorem d_S_root_13 : decode b_S_root 13 = .ok (.invokevirtual 104, 3) := by decide +kernel
theorem d_S_root_16 : decode b_S_root 16 = .ok (.istore_n 3, 1) := by decide +kernel
theorem d_S_root_17 : decode b_S_root 17 = .ok (.iconst 0, 1) := by decide +kernel
theorem d_S_root_18 : decode b_S_root 18 = .ok (.istore 4, 2) := by decide +kernel
theorem d_S_root_20 : decode b_S_root 20 = .ok (.iload 4, 2) := by decide +kernel
theorem d_S_root_22 : decode b_S_root 22 = .ok (.iload_n 3, 1) := by decide +kernel
theorem d_S_root_23 : decode b_S_root 23 = .ok (.if_icmp .ge 41, 3) := by decide +kernel
theorem d_S_root_26 : decode b_S_root 26 = .ok (.aload_n 0, 1) := by decide +kernel
theorem d_S_root_27 : decode b_S_root 27 = .ok (.getfield 40, 3) := by decide +kernel
theorem d_S_root_30 : decode b_S_root 30 = .ok (.iload_n 1, 1) := by decide +kernel
theorem d_S_root_31 : decode b_S_root 31 = .ok (.iload 4, 2) := by decide +kernel
theorem d_S_root_33 : decode b_S_root 33 = .ok (.invokevirtual 107, 3) := by decide +kernel
theorem d_S_root_36 : decode b_S_root 36 = .ok (.istore 5, 2) := by decide +kernel
theorem d_S_root_38 : decode b_S_root 38 = .ok (.aload_n 0, 1) := by decide +kernel
theorem d_S_root_39 : decode b_S_root 39 = .ok (.getfield 21, 3) := by decide +kernel
theorem d_S_root_42 : decode b_S_root 42 = .ok (.iload_n 2, 1) := by decide +kernel
theorem d_S_root_43 : decode b_S_root 43 = .ok (.iload 5, 2) := by decide +kernel
theorem d_S_root_45 : decode b_S_root 45 = .ok (.aload_n 0, 1) := by decide +kernel
theorem d_S_root_46 : decode b_S_root 46 = .ok (.getfield 21, 3) := by decide +kernel
theorem d_S_root_49 : decode b_S_root 49 = .ok (.iload 5, 2) := by decide +kernel
theorem d_S_root_51 : decode b_S_root 51 = .ok (.invokevirtual 110, 3) := by decide +kernel
theorem d_S_root_54 : decode b_S_root 54 = .ok (.invokevirtual 113, 3) := by decide +kernel
theorem d_S_root_57 : decode b_S_root 57 = .ok (.istore_n 2, 1) := by decide +kernel
theorem d_S_root_58 : decode b_S_root 58 = .ok (.iinc 4 1, 3) := by decide +kernel
theorem d_S_root_61 : decode b_S_root 61 = .ok (.goto (-41), 3) := by decide +kernel
theorem d_S_root_64 : decode b_S_root 64 = .ok (.iload_n 2, 1) := by decide +kernel
theorem d_S_root_65 : decode b_S_root 65 = .ok (.ireturn, 1) := by decide +kernel
set_option maxRecDepth 20000 in
set_option maxHeartbeats 4000000 in
theorem c_S_root {D : va_G} {cI cZ cJ : ClassId} {ad : Nat → Nat} {mp : Nat} {lf : Nat → Int32} {n : Nat} {Pb : pc_C} {gt gp gh : Nat → Int32} {Pv : pc_C} {gd : Nat → Int32} {Pq : pc_C} {cr : Bool} {rest : va_W} {nb : Nat} {bl : Nat → Nat} {ba : Nat → Nat → Nat} {nv : Nat} {vl : Nat → Nat} {va : Nat → Nat → Nat} {md : Nat → Bool} (hRb : pc_R 600 25 Pb (nb, bl, ba)) (hRv : pc_R 104 13 Pv (nv, vl, va)) (hRd : mk_R 12 gd md) {v : Int32} (hvb : ∀ v k, v ≤ nv → k < vl v → va v k < nb) : bC D bcl (tys3 cI cZ cJ) y_S_root ({ frames := 7, cells := 2, slots := 12, locals := 106 }) (wS ad cI cZ mp lf n Pb gt gp gh Pv gd Pq cr rest) [.ref (ad 0), .int (v)] (bI (fun x ws9 => cr = false ∧ (0 ≤ v ∧ v < nI nv) ∧ x = rootS (va v.toNatClampNeg) bl ba (lenV md vl v.toNatClampNeg) ∧ ws9 = wS ad cI cZ mp lf n Pb gt gp gh Pv gd Pq cr rest) (fun E ws9 => (cr = true ∧ E = "java/lang/IllegalStateException" ∧ ws9 = wS ad cI cZ mp lf n Pb gt gp gh Pv gd Pq cr rest) ∨ (cr = false ∧ ¬ (0 ≤ v ∧ v < nI nv) ∧ E = "java/lang/IndexOutOfBoundsException" ∧ ws9 = wS ad cI cZ mp lf n Pb gt gp gh Pv gd Pq cr rest))) := by
  have fb : nb < 25 := hRb.2.1
  have fv : nv < 13 := hRv.2.1
  refine bC.of (by decide) m_S_root.1 (Nat.le_of_ble_eq_true rfl) ?_
  intro Γ G E0
  show bV D bcl Γ 6 (wS ad cI cZ mp lf n Pb gt gp gh Pv gd Pq cr rest) 0 0 0 [(0, .ref (ad 0)), (1, .int (v))] []
  have loop : ∀ (d : Nat) (j k : Nat), v = nI j → cr = false → j < nv → (0 ≤ v ∧ v < nI nv) → d + k = lenV md vl j → bV D bcl Γ 6 (wS ad cI cZ mp lf n Pb gt gp gh Pv gd Pq cr rest) 2 12 20 [(0, .ref (ad 0)), (1, .int (nI (j))), (2, .int (rootS (va j) bl ba k)), (3, .int (nI (lenV md vl j))), (4, .int (nI (k)))] [] := by
    intro d
    induction d with
    | zero =>
      intro j k hv hg1 hj hg6 hd
      subst hv
      have hlv := lenV_le md vl j
      have hl9 : vl j ≤ 104 := pc_R_len (A := (nv, vl, va)) hRv (Nat.le_of_lt hj)
      refine bV.iload G d_S_root_20 rfl ?_
      refine bV.iload_n G d_S_root_22 rfl ?_
      refine bV.icmp_geN (tgt := 64) G d_S_root_23 (by decide) (by omega) (by omega) (fun c23 => ?_) (fun c23 => ?_)
      · refine bV.iload_n G d_S_root_64 rfl ?_
        exact bV.iretI G E0 rfl rfl (by decide) (by decide) d_S_root_65 ⟨hg1, hg6, by rw [nI_clamp (by omega)]; rw [show k = lenV md vl j by omega], rfl⟩
      · exfalso; omega
    | succ d ih =>
      intro j k hv hg1 hj hg6 hd
      subst hv
      have hlv := lenV_le md vl j
      have hl9 : vl j ≤ 104 := pc_R_len (A := (nv, vl, va)) hRv (Nat.le_of_lt hj)
      refine bV.iload G d_S_root_20 rfl ?_
      refine bV.iload_n G d_S_root_22 rfl ?_
      refine bV.icmp_geN (tgt := 64) G d_S_root_23 (by decide) (by omega) (by omega) (fun c23 => ?_) (fun c23 => ?_)
      · exfalso; omega
      · refine bV.aload_n G d_S_root_26 rfl ?_
        refine bV.getf G cl_S 0 5 rfl (by decide) bw_78 rfl d_S_root_27 ?_
        refine bV.iload_n G d_S_root_30 rfl ?_
        refine bV.iload G d_S_root_31 rfl ?_
        refine bV.callVi G m_P_at bw_221 bw_222 bw_322 (c_P_at wS_v hRv (j := j) (i := k) (by first | omega | exact Nat.le_refl _) (by omega)) 12 rfl rfl rfl rfl rfl ⟨by decide, by decide⟩ ⟨by decide, by decide⟩ (Nat.le_of_ble_eq_true rfl) d_S_root_33 (fun x9 ws9 h9 => ?_)
        obtain ⟨rfl, h9e⟩ := h9
        rw [h9e]
        try dsimp only
        rw [if_pos (by show k < vl j; omega)]
        have hvk : va j k < nb := hvb j k (by omega) (by omega)
        refine bV.istore G (lv' := [(0, .ref (ad 0)), (1, .int (nI (j))), (2, .int (rootS (va j) bl ba k)), (3, .int (nI (lenV md vl j))), (4, .int (nI (k))), (5, .int (nI (va j k)))]) d_S_root_36 (by decide) rfl rfl ?_
        refine bV.aload_n G d_S_root_38 rfl ?_
        refine bV.getf G cl_S 0 1 rfl (by decide) bw_74 rfl d_S_root_39 ?_
        refine bV.iload_n G d_S_root_42 rfl ?_
        refine bV.iload G d_S_root_43 rfl ?_
        refine bV.aload_n G d_S_root_45 rfl ?_
        refine bV.getf G cl_S 0 1 rfl (by decide) bw_74 rfl d_S_root_46 ?_
        refine bV.iload G d_S_root_49 rfl ?_
        refine bV.callVi G m_P_length bw_189 bw_190 bw_321 (c_P_length wS_b hRb (j := va j k) (by first | omega | exact Nat.le_refl _)) 3 rfl rfl rfl rfl rfl ⟨by decide, by decide⟩ ⟨by decide, by decide⟩ (Nat.le_of_ble_eq_true rfl) d_S_root_51 (fun x9 ws9 h9 => ?_)
        obtain ⟨rfl, h9e⟩ := h9
        rw [h9e]
        try dsimp only
        refine bV.callVi G m_P_sum bw_331 bw_332 bw_330 (c_P_sum wS_b hRb (s0 := rootS (va j) bl ba k) (j := va j k) (len := bl (va j k)) (by first | omega | exact Nat.le_refl _) (by first | omega | exact Nat.le_refl _ | (dsimp only; omega))) 3 rfl rfl rfl rfl rfl ⟨by decide, by decide⟩ ⟨by decide, by decide⟩ (Nat.le_of_ble_eq_true rfl) d_S_root_54 (fun x9 ws9 h9 => ?_)
        obtain ⟨rfl, h9e⟩ := h9
        rw [h9e]
        try dsimp only
        refine bV.istore_n G (lv' := [(0, .ref (ad 0)), (1, .int (nI (j))), (2, .int (sumS (ba (va j k)) (rootS (va j) bl ba k) (bl (va j k)))), (3, .int (nI (lenV md vl j))), (4, .int (nI (k))), (5, .int (nI (va j k)))]) d_S_root_57 (by decide) rfl rfl ?_
        refine bV.iincN G (lv' := [(0, .ref (ad 0)), (1, .int (nI (j))), (2, .int (sumS (ba (va j k)) (rootS (va j) bl ba k) (bl (va j k)))), (3, .int (nI (lenV md vl j))), (4, .int (nI (k + 1))), (5, .int (nI (va j k)))]) d_S_root_58 rfl (by decide) rfl rfl ?_
        refine bV.goto (tgt := 20) G d_S_root_61 (by decide) ?_
        refine bV.ltake (lv' := [(0, .ref (ad 0)), (1, .int (nI (j))), (2, .int (sumS (ba (va j k)) (rootS (va j) bl ba k) (bl (va j k)))), (3, .int (nI (lenV md vl j))), (4, .int (nI (k + 1)))]) (ex := [(5, .int (nI (va j k)))]) rfl ?_
        exact ih j (k + 1) rfl hg1 hj hg6 (by omega)
  refine bV.aload_n G d_S_root_0 rfl ?_
  refine bV.callVot G m_S_requireRunning bw_114 bw_s0 bw_112 (c_S_requireRunning ) 0 rfl rfl rfl rfl rfl ⟨by decide, by decide⟩ ⟨by decide, by decide⟩ (Nat.le_of_ble_eq_true rfl) d_S_root_1 (fun ws9 h9 => ?_) (fun E9 ws9 h9 => ?_)
  · obtain ⟨hg1, h9e⟩ := h9
    rw [h9e]
    refine bV.aload_n G d_S_root_4 rfl ?_
    refine bV.iload_n G d_S_root_5 rfl ?_
    refine bV.callVot G m_S_requireVersion bw_286 bw_s6 bw_284 (c_S_requireVersion hRv (v := v)) 0 rfl rfl rfl rfl rfl ⟨by decide, by decide⟩ ⟨by decide, by decide⟩ (Nat.le_of_ble_eq_true rfl) d_S_root_6 (fun ws9 h9 => ?_) (fun E9 ws9 h9 => ?_)
    · obtain ⟨hg6, h9e⟩ := h9
      rw [h9e]
      obtain ⟨j, hj, rfl⟩ := nI_btw hg6 (by omega)
      refine bV.iconst (v := nI 1) G d_S_root_9 (by decide) ?_
      refine bV.istore_n G (lv' := [(0, .ref (ad 0)), (1, .int (nI (j))), (2, .int (nI (1)))]) d_S_root_10 (by decide) rfl rfl ?_
      refine bV.aload_n G d_S_root_11 rfl ?_
      refine bV.iload_n G d_S_root_12 rfl ?_
      refine bV.callVi G m_S_lengthOfVersion bw_319 bw_s9 bw_317 (c_S_lengthOfVersion hRv hRd (v := j) (by omega)) 0 rfl rfl rfl rfl rfl ⟨by decide, by decide⟩ ⟨by decide, by decide⟩ (Nat.le_of_ble_eq_true rfl) d_S_root_13 (fun x9 ws9 h9 => ?_)
      obtain ⟨rfl, h9e⟩ := h9
      rw [h9e]
      try dsimp only
      refine bV.istore_n G (lv' := [(0, .ref (ad 0)), (1, .int (nI (j))), (2, .int (nI (1))), (3, .int (nI (lenV md vl j)))]) d_S_root_16 (by decide) rfl rfl ?_
      refine bV.iconst (v := nI 0) G d_S_root_17 (by decide) ?_
      refine bV.istore G (lv' := [(0, .ref (ad 0)), (1, .int (nI (j))), (2, .int (nI (1))), (3, .int (nI (lenV md vl j))), (4, .int (nI (0)))]) d_S_root_18 (by decide) rfl rfl ?_
      exact loop (lenV md vl j) j 0 rfl hg1 hj hg6 (by omega)
    · obtain ⟨hz, rfl, h9e⟩ := h9
      rw [h9e]
      exact bT.leaveI G E0 rfl (by decide) (by decide) (Or.inr ⟨hg1, hz, rfl, rfl⟩)
  · obtain ⟨hz, rfl, h9e⟩ := h9
    rw [h9e]
    exact bT.leaveI G E0 rfl (by decide) (by decide) (Or.inl ⟨hz, rfl, rfl⟩)
theorem d_S_out_0 : decode b_S_out 0 = .ok (.aload_n 0, 1) := by decide +kernel
theorem d_S_out_1 : decode b_S_out 1 = .ok (.invokevirtual 62, 3) := by decide +kernel
theorem d_S_out_4 : decode b_S_out 4 = .ok (.aload_n 0, 1) := by decide +kernel
theorem d_S_out_5 : decode b_S_out 5 = .ok (.iload_n 1, 1) := by decide +kernel
theorem d_S_out_6 : decode b_S_out 6 = .ok (.invokevirtual 94, 3) := by decide +kernel
theorem d_S_out_9 : decode b_S_out 9 = .ok (.aload_n 0, 1) := by decide +kernel
theorem d_S_out_10 : decode b_S_out 10 = .ok (.iload_n 2, 1) := by decide +kernel
theorem d_S_out_11 : decode b_S_out 11 = .ok (.invokevirtual 138, 3) := by decide +kernel
theorem d_S_out_14 : decode b_S_out 14 = .ok (.iload_n 2, 1) := by decide +kernel
theorem d_S_out_15 : decode b_S_out 15 = .ok (.istore_n 3, 1) := by decide +kernel
theorem d_S_out_16 : decode b_S_out 16 = .ok (.aload_n 0, 1) := by decide +kernel
theorem d_S_out_17 : decode b_S_out 17 = .ok (.iload_n 1, 1) := by decide +kernel
theorem d_S_out_18 : decode b_S_out 18 = .ok (.invokevirtual 104, 3) := by decide +kernel
theorem d_S_out_21 : decode b_S_out 21 = .ok (.istore 4, 2) := by decide +kernel
theorem d_S_out_23 : decode b_S_out 23 = .ok (.iconst 0, 1) := by decide +kernel
theorem d_S_out_24 : decode b_S_out 24 = .ok (.istore 5, 2) := by decide +kernel
theorem d_S_out_26 : decode b_S_out 26 = .ok (.iload 5, 2) := by decide +kernel
theorem d_S_out_28 : decode b_S_out 28 = .ok (.iload 4, 2) := by decide +kernel
theorem d_S_out_30 : decode b_S_out 30 = .ok (.if_icmp .ge 57, 3) := by decide +kernel
theorem d_S_out_33 : decode b_S_out 33 = .ok (.aload_n 0, 1) := by decide +kernel
theorem d_S_out_34 : decode b_S_out 34 = .ok (.getfield 40, 3) := by decide +kernel
theorem d_S_out_37 : decode b_S_out 37 = .ok (.iload_n 1, 1) := by decide +kernel
theorem d_S_out_38 : decode b_S_out 38 = .ok (.iload 5, 2) := by decide +kernel
theorem d_S_out_40 : decode b_S_out 40 = .ok (.invokevirtual 107, 3) := by decide +kernel
theorem d_S_out_43 : decode b_S_out 43 = .ok (.istore 6, 2) := by decide +kernel
theorem d_S_out_45 : decode b_S_out 45 = .ok (.iload_n 3, 1) := by decide +kernel
theorem d_S_out_46 : decode b_S_out 46 = .ok (.aload_n 0, 1) := by decide +kernel
theorem d_S_out_47 : decode b_S_out 47 = .ok (.getfield 21, 3) := by decide +kernel
theorem d_S_out_50 : decode b_S_out 50 = .ok (.iload 6, 2) := by decide +kernel
theorem d_S_out_52 : decode b_S_out 52 = .ok (.invokevirtual 110, 3) := by decide +kernel
theorem d_S_out_55 : decode b_S_out 55 = .ok (.if_icmp .ge 14, 3) := by decide +kernel
theorem d_S_out_58 : decode b_S_out 58 = .ok (.aload_n 0, 1) := by decide +kernel
theorem d_S_out_59 : decode b_S_out 59 = .ok (.getfield 21, 3) := by decide +kernel
theorem d_S_out_62 : decode b_S_out 62 = .ok (.iload 6, 2) := by decide +kernel
theorem d_S_out_64 : decode b_S_out 64 = .ok (.iload_n 3, 1) := by decide +kernel
theorem d_S_out_65 : decode b_S_out 65 = .ok (.invokevirtual 107, 3) := by decide +kernel
theorem d_S_out_68 : decode b_S_out 68 = .ok (.ireturn, 1) := by decide +kernel
theorem d_S_out_69 : decode b_S_out 69 = .ok (.iload_n 3, 1) := by decide +kernel
theorem d_S_out_70 : decode b_S_out 70 = .ok (.aload_n 0, 1) := by decide +kernel
theorem d_S_out_71 : decode b_S_out 71 = .ok (.getfield 21, 3) := by decide +kernel
theorem d_S_out_74 : decode b_S_out 74 = .ok (.iload 6, 2) := by decide +kernel
theorem d_S_out_76 : decode b_S_out 76 = .ok (.invokevirtual 110, 3) := by decide +kernel
theorem d_S_out_79 : decode b_S_out 79 = .ok (.isub, 1) := by decide +kernel
theorem d_S_out_80 : decode b_S_out 80 = .ok (.istore_n 3, 1) := by decide +kernel
theorem d_S_out_81 : decode b_S_out 81 = .ok (.iinc 5 1, 3) := by decide +kernel
theorem d_S_out_84 : decode b_S_out 84 = .ok (.goto (-58), 3) := by decide +kernel
theorem d_S_out_87 : decode b_S_out 87 = .ok (.iconst (-1), 1) := by decide +kernel
theorem d_S_out_88 : decode b_S_out 88 = .ok (.ireturn, 1) := by decide +kernel
set_option maxRecDepth 20000 in
set_option maxHeartbeats 4000000 in
theorem c_S_out {D : va_G} {cI cZ cJ : ClassId} {ad : Nat → Nat} {mp : Nat} {lf : Nat → Int32} {n : Nat} {Pb : pc_C} {gt gp gh : Nat → Int32} {Pv : pc_C} {gd : Nat → Int32} {Pq : pc_C} {cr : Bool} {rest : va_W} {nb : Nat} {bl : Nat → Nat} {ba : Nat → Nat → Nat} {nv : Nat} {vl : Nat → Nat} {va : Nat → Nat → Nat} {md : Nat → Bool} (hRb : pc_R 600 25 Pb (nb, bl, ba)) (hRv : pc_R 104 13 Pv (nv, vl, va)) (hRd : mk_R 12 gd md) {v u : Int32} (hvb : ∀ v k, v ≤ nv → k < vl v → va v k < nb) : bC D bcl (tys3 cI cZ cJ) y_S_out ({ frames := 7, cells := 3, slots := 18, locals := 106 }) (wS ad cI cZ mp lf n Pb gt gp gh Pv gd Pq cr rest) [.ref (ad 0), .int (v), .int (u)] (bI (fun x ws9 => cr = false ∧ ((0 ≤ v ∧ v < nI nv) ∧ 0 ≤ u) ∧ x = outS (va v.toNatClampNeg) bl ba (lenV md vl v.toNatClampNeg) 0 u.toNatClampNeg ∧ ws9 = wS ad cI cZ mp lf n Pb gt gp gh Pv gd Pq cr rest) (fun E ws9 => (cr = true ∧ E = "java/lang/IllegalStateException" ∧ ws9 = wS ad cI cZ mp lf n Pb gt gp gh Pv gd Pq cr rest) ∨ (cr = false ∧ ¬ ((0 ≤ v ∧ v < nI nv) ∧ 0 ≤ u) ∧ E = "java/lang/IndexOutOfBoundsException" ∧ ws9 = wS ad cI cZ mp lf n Pb gt gp gh Pv gd Pq cr rest))) := by
  have fb : nb < 25 := hRb.2.1
  have fv : nv < 13 := hRv.2.1
  refine bC.of (by decide) m_S_out.1 (Nat.le_of_ble_eq_true rfl) ?_
  intro Γ G E0
  show bV D bcl Γ 7 (wS ad cI cZ mp lf n Pb gt gp gh Pv gd Pq cr rest) 0 0 0 [(0, .ref (ad 0)), (1, .int (v)), (2, .int (u))] []
  have loop : ∀ (d : Nat) (j i k e : Nat), v = nI j → u = nI i → i < 2 ^ 31 → e < 2 ^ 31 → cr = false → j < nv → (0 ≤ v ∧ v < nI nv) → 0 ≤ u → d + k = lenV md vl j → outS (va j) bl ba (lenV md vl j) 0 i = outS (va j) bl ba d k e → bV D bcl Γ 7 (wS ad cI cZ mp lf n Pb gt gp gh Pv gd Pq cr rest) 3 18 26 [(0, .ref (ad 0)), (1, .int (nI (j))), (2, .int (nI (i))), (3, .int (nI (e))), (4, .int (nI (lenV md vl j))), (5, .int (nI (k)))] [] := by
    intro d
    induction d with
    | zero =>
      intro j i k e hv hu hi he hg1 hj hg6 hg11 hd hout
      subst hv
      subst hu
      have hlv := lenV_le md vl j
      have hl9 : vl j ≤ 104 := pc_R_len (A := (nv, vl, va)) hRv (Nat.le_of_lt hj)
      refine bV.iload G d_S_out_26 rfl ?_
      refine bV.iload G d_S_out_28 rfl ?_
      refine bV.icmp_geN (tgt := 87) G d_S_out_30 (by decide) (by omega) (by omega) (fun c30 => ?_) (fun c30 => ?_)
      · refine bV.iconst (v := (-1)) G d_S_out_87 (by decide) ?_
        exact bV.iretI G E0 rfl rfl (by decide) (by decide) d_S_out_88 ⟨hg1, ⟨hg6, hg11⟩, by rw [nI_clamp (by omega), nI_clamp (by omega)]; rw [hout]; rfl, rfl⟩
      · exfalso; omega
    | succ d ih =>
      intro j i k e hv hu hi he hg1 hj hg6 hg11 hd hout
      subst hv
      subst hu
      have hlv := lenV_le md vl j
      have hl9 : vl j ≤ 104 := pc_R_len (A := (nv, vl, va)) hRv (Nat.le_of_lt hj)
      refine bV.iload G d_S_out_26 rfl ?_
      refine bV.iload G d_S_out_28 rfl ?_
      refine bV.icmp_geN (tgt := 87) G d_S_out_30 (by decide) (by omega) (by omega) (fun c30 => ?_) (fun c30 => ?_)
      · exfalso; omega
      · refine bV.aload_n G d_S_out_33 rfl ?_
        refine bV.getf G cl_S 0 5 rfl (by decide) bw_78 rfl d_S_out_34 ?_
        refine bV.iload_n G d_S_out_37 rfl ?_
        refine bV.iload G d_S_out_38 rfl ?_
        refine bV.callVi G m_P_at bw_221 bw_222 bw_322 (c_P_at wS_v hRv (j := j) (i := k) (by first | omega | exact Nat.le_refl _) (by omega)) 12 rfl rfl rfl rfl rfl ⟨by decide, by decide⟩ ⟨by decide, by decide⟩ (Nat.le_of_ble_eq_true rfl) d_S_out_40 (fun x9 ws9 h9 => ?_)
        obtain ⟨rfl, h9e⟩ := h9
        rw [h9e]
        try dsimp only
        rw [if_pos (by show k < vl j; omega)]
        have hvk : va j k < nb := hvb j k (by omega) (by omega)
        have hbk : bl (va j k) ≤ 600 := pc_R_len (A := (nb, bl, ba)) hRb (Nat.le_of_lt hvk)
        refine bV.istore G (lv' := [(0, .ref (ad 0)), (1, .int (nI (j))), (2, .int (nI (i))), (3, .int (nI (e))), (4, .int (nI (lenV md vl j))), (5, .int (nI (k))), (6, .int (nI (va j k)))]) d_S_out_43 (by decide) rfl rfl ?_
        refine bV.iload_n G d_S_out_45 rfl ?_
        refine bV.aload_n G d_S_out_46 rfl ?_
        refine bV.getf G cl_S 0 1 rfl (by decide) bw_74 rfl d_S_out_47 ?_
        refine bV.iload G d_S_out_50 rfl ?_
        refine bV.callVi G m_P_length bw_189 bw_190 bw_321 (c_P_length wS_b hRb (j := va j k) (by first | omega | exact Nat.le_refl _)) 3 rfl rfl rfl rfl rfl ⟨by decide, by decide⟩ ⟨by decide, by decide⟩ (Nat.le_of_ble_eq_true rfl) d_S_out_52 (fun x9 ws9 h9 => ?_)
        obtain ⟨rfl, h9e⟩ := h9
        rw [h9e]
        try dsimp only
        refine bV.icmp_geN (tgt := 69) G d_S_out_55 (by decide) (by omega) (by omega) (fun c55 => ?_) (fun c55 => ?_)
        · refine bV.iload_n G d_S_out_69 rfl ?_
          refine bV.aload_n G d_S_out_70 rfl ?_
          refine bV.getf G cl_S 0 1 rfl (by decide) bw_74 rfl d_S_out_71 ?_
          refine bV.iload G d_S_out_74 rfl ?_
          refine bV.callVi G m_P_length bw_189 bw_190 bw_321 (c_P_length wS_b hRb (j := va j k) (by first | omega | exact Nat.le_refl _)) 3 rfl rfl rfl rfl rfl ⟨by decide, by decide⟩ ⟨by decide, by decide⟩ (Nat.le_of_ble_eq_true rfl) d_S_out_76 (fun x9 ws9 h9 => ?_)
          obtain ⟨rfl, h9e⟩ := h9
          rw [h9e]
          try dsimp only
          refine bV.isubN G d_S_out_79 (by omega) ?_
          refine bV.istore_n G (lv' := [(0, .ref (ad 0)), (1, .int (nI (j))), (2, .int (nI (i))), (3, .int (nI (e - (bl (va j k))))), (4, .int (nI (lenV md vl j))), (5, .int (nI (k))), (6, .int (nI (va j k)))]) d_S_out_80 (by decide) rfl rfl ?_
          refine bV.iincN G (lv' := [(0, .ref (ad 0)), (1, .int (nI (j))), (2, .int (nI (i))), (3, .int (nI (e - (bl (va j k))))), (4, .int (nI (lenV md vl j))), (5, .int (nI (k + 1))), (6, .int (nI (va j k)))]) d_S_out_81 rfl (by decide) rfl rfl ?_
          refine bV.goto (tgt := 26) G d_S_out_84 (by decide) ?_
          refine bV.ltake (lv' := [(0, .ref (ad 0)), (1, .int (nI (j))), (2, .int (nI (i))), (3, .int (nI (e - (bl (va j k))))), (4, .int (nI (lenV md vl j))), (5, .int (nI (k + 1)))]) (ex := [(6, .int (nI (va j k)))]) rfl ?_
          exact ih j i (k + 1) (e - bl (va j k)) rfl rfl hi (by omega) hg1 hj hg6 hg11 (by omega) (hout.trans (if_neg (by omega)))
        · refine bV.aload_n G d_S_out_58 rfl ?_
          refine bV.getf G cl_S 0 1 rfl (by decide) bw_74 rfl d_S_out_59 ?_
          refine bV.iload G d_S_out_62 rfl ?_
          refine bV.iload_n G d_S_out_64 rfl ?_
          refine bV.callVi G m_P_at bw_221 bw_222 bw_322 (c_P_at wS_b hRb (j := va j k) (i := e) (by first | omega | exact Nat.le_refl _) (by omega)) 3 rfl rfl rfl rfl rfl ⟨by decide, by decide⟩ ⟨by decide, by decide⟩ (Nat.le_of_ble_eq_true rfl) d_S_out_65 (fun x9 ws9 h9 => ?_)
          obtain ⟨rfl, h9e⟩ := h9
          rw [h9e]
          try dsimp only
          rw [if_pos (by show e < bl (va j k); omega)]
          exact bV.iretI G E0 rfl rfl (by decide) (by decide) d_S_out_68 ⟨hg1, ⟨hg6, hg11⟩, by rw [nI_clamp (by omega), nI_clamp (by omega)]; rw [hout]; exact (if_pos (Nat.lt_of_not_le c55)).symm, rfl⟩
  refine bV.aload_n G d_S_out_0 rfl ?_
  refine bV.callVot G m_S_requireRunning bw_114 bw_s0 bw_112 (c_S_requireRunning ) 0 rfl rfl rfl rfl rfl ⟨by decide, by decide⟩ ⟨by decide, by decide⟩ (Nat.le_of_ble_eq_true rfl) d_S_out_1 (fun ws9 h9 => ?_) (fun E9 ws9 h9 => ?_)
  · obtain ⟨hg1, h9e⟩ := h9
    rw [h9e]
    refine bV.aload_n G d_S_out_4 rfl ?_
    refine bV.iload_n G d_S_out_5 rfl ?_
    refine bV.callVot G m_S_requireVersion bw_286 bw_s6 bw_284 (c_S_requireVersion hRv (v := v)) 0 rfl rfl rfl rfl rfl ⟨by decide, by decide⟩ ⟨by decide, by decide⟩ (Nat.le_of_ble_eq_true rfl) d_S_out_6 (fun ws9 h9 => ?_) (fun E9 ws9 h9 => ?_)
    · obtain ⟨hg6, h9e⟩ := h9
      rw [h9e]
      obtain ⟨j, hj, rfl⟩ := nI_btw hg6 (by omega)
      refine bV.aload_n G d_S_out_9 rfl ?_
      refine bV.iload_n G d_S_out_10 rfl ?_
      refine bV.callVot G m_S_requireNotNegative bw_398 bw_s16 bw_396 (c_S_requireNotNegative (v := u)) 0 rfl rfl rfl rfl rfl ⟨by decide, by decide⟩ ⟨by decide, by decide⟩ (Nat.le_of_ble_eq_true rfl) d_S_out_11 (fun ws9 h9 => ?_) (fun E9 ws9 h9 => ?_)
      · obtain ⟨hg11, h9e⟩ := h9
        rw [h9e]
        obtain ⟨i, hi, rfl⟩ := nI_of (Int32.not_lt.mpr hg11)
        refine bV.iload_n G d_S_out_14 rfl ?_
        refine bV.istore_n G (lv' := [(0, .ref (ad 0)), (1, .int (nI (j))), (2, .int (nI (i))), (3, .int (nI (i)))]) d_S_out_15 (by decide) rfl rfl ?_
        refine bV.aload_n G d_S_out_16 rfl ?_
        refine bV.iload_n G d_S_out_17 rfl ?_
        refine bV.callVi G m_S_lengthOfVersion bw_319 bw_s9 bw_317 (c_S_lengthOfVersion hRv hRd (v := j) (by omega)) 0 rfl rfl rfl rfl rfl ⟨by decide, by decide⟩ ⟨by decide, by decide⟩ (Nat.le_of_ble_eq_true rfl) d_S_out_18 (fun x9 ws9 h9 => ?_)
        obtain ⟨rfl, h9e⟩ := h9
        rw [h9e]
        try dsimp only
        refine bV.istore G (lv' := [(0, .ref (ad 0)), (1, .int (nI (j))), (2, .int (nI (i))), (3, .int (nI (i))), (4, .int (nI (lenV md vl j)))]) d_S_out_21 (by decide) rfl rfl ?_
        refine bV.iconst (v := nI 0) G d_S_out_23 (by decide) ?_
        refine bV.istore G (lv' := [(0, .ref (ad 0)), (1, .int (nI (j))), (2, .int (nI (i))), (3, .int (nI (i))), (4, .int (nI (lenV md vl j))), (5, .int (nI (0)))]) d_S_out_24 (by decide) rfl rfl ?_
        exact loop (lenV md vl j) j i 0 i rfl rfl hi hi hg1 hj hg6 hg11 (by omega) rfl
      · obtain ⟨hz, rfl, h9e⟩ := h9
        rw [h9e]
        exact bT.leaveI G E0 rfl (by decide) (by decide) (Or.inr ⟨hg1, fun z => hz z.2, rfl, rfl⟩)
    · obtain ⟨hz, rfl, h9e⟩ := h9
      rw [h9e]
      exact bT.leaveI G E0 rfl (by decide) (by decide) (Or.inr ⟨hg1, fun z => hz z.1, rfl, rfl⟩)
  · obtain ⟨hz, rfl, h9e⟩ := h9
    rw [h9e]
    exact bT.leaveI G E0 rfl (by decide) (by decide) (Or.inl ⟨hz, rfl, rfl⟩)
