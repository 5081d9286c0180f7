/-! ===== the law: its helpers, which call the class and catch what it throws ===== -/
theorem d_W_feed_0 : decode b_W_feed 0 = .ok (.aload_n 2, 1) := by decide +kernel
theorem d_W_feed_1 : decode b_W_feed 1 = .ok (.iconst 0, 1) := by decide +kernel
theorem d_W_feed_2 : decode b_W_feed 2 = .ok (.aload_n 0, 1) := by decide +kernel
theorem d_W_feed_3 : decode b_W_feed 3 = .ok (.iload_n 1, 1) := by decide +kernel
theorem d_W_feed_4 : decode b_W_feed 4 = .ok (.invokevirtual 7, 3) := by decide +kernel
theorem d_W_feed_7 : decode b_W_feed 7 = .ok (.ifCond .eq 7, 3) := by decide +kernel
theorem d_W_feed_10 : decode b_W_feed 10 = .ok (.lconst 1, 1) := by decide +kernel
theorem d_W_feed_11 : decode b_W_feed 11 = .ok (.goto 4, 3) := by decide +kernel
theorem d_W_feed_14 : decode b_W_feed 14 = .ok (.lconst 0, 1) := by decide +kernel
theorem d_W_feed_15 : decode b_W_feed 15 = .ok (.lastore, 1) := by decide +kernel
theorem d_W_feed_16 : decode b_W_feed 16 = .ok (.goto 6, 3) := by decide +kernel
theorem d_W_feed_19 : decode b_W_feed 19 = .ok (.astore_n 3, 1) := by decide +kernel
theorem d_W_feed_20 : decode b_W_feed 20 = .ok (.iconst 1, 1) := by decide +kernel
theorem d_W_feed_21 : decode b_W_feed 21 = .ok (.ireturn, 1) := by decide +kernel
theorem d_W_feed_22 : decode b_W_feed 22 = .ok (.iconst 0, 1) := by decide +kernel
theorem d_W_feed_23 : decode b_W_feed 23 = .ok (.ireturn, 1) := by decide +kernel
set_option maxRecDepth 20000 in
set_option maxHeartbeats 4000000 in
theorem h_feed {D : va_G} {cI cZ cJ : ClassId} {ad : Nat → Nat} {mp : Nat} {lf : Nat → Int32} {Pb : pc_C} {gt gp gh : Nat → Int32} {Pv : pc_C} {gd : Nat → Int32} {Pq : pc_C} {rest : va_W} {A : aA} {ao : Nat} {of : Nat → Int64} (hA : AI mp A) (hC : CL mp A lf Pb gt gp gh Pv gd Pq) {v : Int32} : bC D bcl (tys3 cI cZ cJ) y_W_feed ({ frames := 8, cells := 1, slots := 6, locals := 125 }) (wS ad cI cZ mp lf (aN A) Pb gt gp gh Pv gd Pq (aCr A) ((ao, .inl (cJ, 1, .inr (.inl of))) :: rest)) [.ref (ad 0), .int (v), .ref ao] (bI (fun x ws9 => ∃ (k : Nat) (A' : aA) (lf1 : Nat → Int32) (Pb1 : pc_C) (gt1 gp1 gh1 : Nat → Int32) (Pv1 : pc_C) (gd1 : Nat → Int32) (Pq1 : pc_C) (of1 : Nat → Int64), x = nI k ∧ k ≤ 2 ∧ ((k = 0 ∧ ∃ x, OP_feed A v x A' ∧ of1 0 = x.toInt64) ∨ (k ≠ 0 ∧ OT_feed A v k ∧ A' = A)) ∧ AI mp A' ∧ CL mp A' lf1 Pb1 gt1 gp1 gh1 Pv1 gd1 Pq1 ∧ ws9 = wS ad cI cZ mp lf1 (aN A') Pb1 gt1 gp1 gh1 Pv1 gd1 Pq1 (aCr A') ((ao, .inl (cJ, 1, .inr (.inl of1))) :: rest)) bno) := by
  refine bC.of (by decide) m_W_feed.1 (Nat.le_of_ble_eq_true rfl) ?_
  intro Γ G E0
  show bV D bcl Γ 4 (wS ad cI cZ mp lf (aN A) Pb gt gp gh Pv gd Pq (aCr A) ((ao, .inl (cJ, 1, .inr (.inl of))) :: rest)) 0 0 0 [(0, .ref (ad 0)), (1, .int (v)), (2, .ref ao)] []
  refine bV.aload_n G d_W_feed_0 rfl ?_
  refine bV.iconst (v := nI 0) G d_W_feed_1 (by decide) ?_
  refine bV.aload_n G d_W_feed_2 rfl ?_
  refine bV.iload_n G d_W_feed_3 rfl ?_
  refine bV.callVit G m_S_feed bw_109 bw_110 bw_108 (k_feed hA hC (v := v) ) 0 rfl rfl rfl rfl rfl ⟨by decide, by decide⟩ ⟨by decide, by decide⟩ (Nat.le_of_ble_eq_true rfl) d_W_feed_4 (fun x9 ws9 h9 => ?_) (fun E9 ws9 h9 => ?_)
  · obtain ⟨⟨b9, hb9⟩, A', lf1, Pb1, gt1, gp1, gh1, Pv1, gd1, Pq1, hop, hA1, hC1, h9e⟩ := h9
    rw [h9e]
    refine bV.if_eq (tgt := 14) G d_W_feed_7 (by decide) (fun c0 => ?_) (fun c0 => ?_)
    · refine bV.lconst (v := 0) G d_W_feed_14 (by decide) ?_
      refine bV.lastore (ws' := wS ad cI cZ mp lf1 (aN A') Pb1 gt1 gp1 gh1 Pv1 gd1 Pq1 (aCr A') ((ao, .inl (cJ, 1, .inr (.inl (vp_updL of (nI 0).toNatClampNeg (0))))) :: rest)) G 20 2 rfl rfl (vp_in_nI (by decide) (by decide)) d_W_feed_15 rfl ?_
      refine bV.goto (tgt := 22) G d_W_feed_16 (by decide) ?_
      refine bV.iconst (v := nI 0) G d_W_feed_22 (by decide) ?_
      exact bV.iretI G E0 rfl rfl (by decide) (by decide) d_W_feed_23 ⟨0, A', lf1, Pb1, gt1, gp1, gh1, Pv1, gd1, Pq1, (vp_updL of (nI 0).toNatClampNeg (0)), rfl, by decide, Or.inl ⟨rfl, x9, hop, by rw [nI_clamp (by decide)]; exact pk_uLs.trans (by rw [c0]; rfl)⟩, hA1, hC1, rfl⟩
    · refine bV.lconst (v := 1) G d_W_feed_10 (by decide) ?_
      refine bV.goto (tgt := 15) G d_W_feed_11 (by decide) ?_
      refine bV.lastore (ws' := wS ad cI cZ mp lf1 (aN A') Pb1 gt1 gp1 gh1 Pv1 gd1 Pq1 (aCr A') ((ao, .inl (cJ, 1, .inr (.inl (vp_updL of (nI 0).toNatClampNeg (1))))) :: rest)) G 20 2 rfl rfl (vp_in_nI (by decide) (by decide)) d_W_feed_15 rfl ?_
      refine bV.goto (tgt := 22) G d_W_feed_16 (by decide) ?_
      refine bV.iconst (v := nI 0) G d_W_feed_22 (by decide) ?_
      exact bV.iretI G E0 rfl rfl (by decide) (by decide) d_W_feed_23 ⟨0, A', lf1, Pb1, gt1, gp1, gh1, Pv1, gd1, Pq1, (vp_updL of (nI 0).toNatClampNeg (1)), rfl, by decide, Or.inl ⟨rfl, x9, hop, by rw [nI_clamp (by decide)]; exact pk_uLs.trans (by rw [hb9]; cases b9; exact absurd hb9 c0; rfl)⟩, hA1, hC1, rfl⟩
  · obtain ⟨⟨rfl, h9t⟩, h9e⟩ := h9
    rw [h9e]
    refine bT.catch G [] (0, 16, 19, 13) [] rfl "java/lang/IllegalStateException" (by decide) (by decide) bw_107 bw_118 (fun y hy => by cases hy) (fun ea => ?_)
    refine bV.astore_n G (lv' := [(0, .ref (ad 0)), (1, .int (v)), (2, .ref ao), (3, .ref ea)]) d_W_feed_19 (by decide) rfl rfl ?_
    refine bV.iconst (v := nI 1) G d_W_feed_20 (by decide) ?_
    exact bV.iretI G E0 rfl rfl (by decide) (by decide) d_W_feed_21 ⟨1, A, lf, Pb, gt, gp, gh, Pv, gd, Pq, of, rfl, by decide, Or.inr ⟨by decide, h9t, rfl⟩, hA, hC, rfl⟩
theorem d_W_block_0 : decode b_W_block 0 = .ok (.aload_n 1, 1) := by decide +kernel
theorem d_W_block_1 : decode b_W_block 1 = .ok (.iconst 0, 1) := by decide +kernel
theorem d_W_block_2 : decode b_W_block 2 = .ok (.aload_n 0, 1) := by decide +kernel
theorem d_W_block_3 : decode b_W_block 3 = .ok (.invokevirtual 15, 3) := by decide +kernel
theorem d_W_block_6 : decode b_W_block 6 = .ok (.i2l, 1) := by decide +kernel
theorem d_W_block_7 : decode b_W_block 7 = .ok (.lastore, 1) := by decide +kernel
theorem d_W_block_8 : decode b_W_block 8 = .ok (.goto 6, 3) := by decide +kernel
theorem d_W_block_11 : decode b_W_block 11 = .ok (.astore_n 2, 1) := by decide +kernel
theorem d_W_block_12 : decode b_W_block 12 = .ok (.iconst 1, 1) := by decide +kernel
theorem d_W_block_13 : decode b_W_block 13 = .ok (.ireturn, 1) := by decide +kernel
theorem d_W_block_14 : decode b_W_block 14 = .ok (.iconst 0, 1) := by decide +kernel
theorem d_W_block_15 : decode b_W_block 15 = .ok (.ireturn, 1) := by decide +kernel
set_option maxRecDepth 20000 in
set_option maxHeartbeats 4000000 in
theorem h_block {D : va_G} {cI cZ cJ : ClassId} {ad : Nat → Nat} {mp : Nat} {lf : Nat → Int32} {Pb : pc_C} {gt gp gh : Nat → Int32} {Pv : pc_C} {gd : Nat → Int32} {Pq : pc_C} {rest : va_W} {A : aA} {ao : Nat} {of : Nat → Int64} (hA : AI mp A) (hC : CL mp A lf Pb gt gp gh Pv gd Pq)  : bC D bcl (tys3 cI cZ cJ) y_W_block ({ frames := 8, cells := 1, slots := 6, locals := 136 }) (wS ad cI cZ mp lf (aN A) Pb gt gp gh Pv gd Pq (aCr A) ((ao, .inl (cJ, 1, .inr (.inl of))) :: rest)) [.ref (ad 0), .ref ao] (bI (fun x ws9 => ∃ (k : Nat) (A' : aA) (lf1 : Nat → Int32) (Pb1 : pc_C) (gt1 gp1 gh1 : Nat → Int32) (Pv1 : pc_C) (gd1 : Nat → Int32) (Pq1 : pc_C) (of1 : Nat → Int64), x = nI k ∧ k ≤ 2 ∧ ((k = 0 ∧ ∃ x, OP_block A x A' ∧ of1 0 = x.toInt64) ∨ (k ≠ 0 ∧ OT_block A k ∧ A' = A)) ∧ AI mp A' ∧ CL mp A' lf1 Pb1 gt1 gp1 gh1 Pv1 gd1 Pq1 ∧ ws9 = wS ad cI cZ mp lf1 (aN A') Pb1 gt1 gp1 gh1 Pv1 gd1 Pq1 (aCr A') ((ao, .inl (cJ, 1, .inr (.inl of1))) :: rest)) bno) := by
  refine bC.of (by decide) m_W_block.1 (Nat.le_of_ble_eq_true rfl) ?_
  intro Γ G E0
  show bV D bcl Γ 3 (wS ad cI cZ mp lf (aN A) Pb gt gp gh Pv gd Pq (aCr A) ((ao, .inl (cJ, 1, .inr (.inl of))) :: rest)) 0 0 0 [(0, .ref (ad 0)), (1, .ref ao)] []
  refine bV.aload_n G d_W_block_0 rfl ?_
  refine bV.iconst (v := nI 0) G d_W_block_1 (by decide) ?_
  refine bV.aload_n G d_W_block_2 rfl ?_
  refine bV.callVit G m_S_block bw_200 bw_201 bw_199 (k_block hA hC  ) 0 rfl rfl rfl rfl rfl ⟨by decide, by decide⟩ ⟨by decide, by decide⟩ (Nat.le_of_ble_eq_true rfl) d_W_block_3 (fun x9 ws9 h9 => ?_) (fun E9 ws9 h9 => ?_)
  · obtain ⟨A', lf1, Pb1, gt1, gp1, gh1, Pv1, gd1, Pq1, hop, hA1, hC1, h9e⟩ := h9
    rw [h9e]
    refine bV.i2l G d_W_block_6 ?_
    refine bV.lastore (ws' := wS ad cI cZ mp lf1 (aN A') Pb1 gt1 gp1 gh1 Pv1 gd1 Pq1 (aCr A') ((ao, .inl (cJ, 1, .inr (.inl (vp_updL of (nI 0).toNatClampNeg (x9.toInt64))))) :: rest)) G 20 2 rfl rfl (vp_in_nI (by decide) (by decide)) d_W_block_7 rfl ?_
    refine bV.goto (tgt := 14) G d_W_block_8 (by decide) ?_
    refine bV.iconst (v := nI 0) G d_W_block_14 (by decide) ?_
    exact bV.iretI G E0 rfl rfl (by decide) (by decide) d_W_block_15 ⟨0, A', lf1, Pb1, gt1, gp1, gh1, Pv1, gd1, Pq1, (vp_updL of (nI 0).toNatClampNeg (x9.toInt64)), rfl, by decide, Or.inl ⟨rfl, x9, hop, by rw [nI_clamp (by decide)]; exact pk_uLs.trans rfl⟩, hA1, hC1, rfl⟩
  · obtain ⟨⟨rfl, h9t⟩, h9e⟩ := h9
    rw [h9e]
    refine bT.catch G [] (0, 8, 11, 13) [] rfl "java/lang/IllegalStateException" (by decide) (by decide) bw_107 bw_118 (fun y hy => by cases hy) (fun ea => ?_)
    refine bV.astore_n G (lv' := [(0, .ref (ad 0)), (1, .ref ao), (2, .ref ea)]) d_W_block_11 (by decide) rfl rfl ?_
    refine bV.iconst (v := nI 1) G d_W_block_12 (by decide) ?_
    exact bV.iretI G E0 rfl rfl (by decide) (by decide) d_W_block_13 ⟨1, A, lf, Pb, gt, gp, gh, Pv, gd, Pq, of, rfl, by decide, Or.inr ⟨by decide, h9t, rfl⟩, hA, hC, rfl⟩
theorem d_W_version_0 : decode b_W_version 0 = .ok (.aload_n 1, 1) := by decide +kernel
theorem d_W_version_1 : decode b_W_version 1 = .ok (.iconst 0, 1) := by decide +kernel
theorem d_W_version_2 : decode b_W_version 2 = .ok (.aload_n 0, 1) := by decide +kernel
theorem d_W_version_3 : decode b_W_version 3 = .ok (.invokevirtual 19, 3) := by decide +kernel
theorem d_W_version_6 : decode b_W_version 6 = .ok (.i2l, 1) := by decide +kernel
theorem d_W_version_7 : decode b_W_version 7 = .ok (.lastore, 1) := by decide +kernel
theorem d_W_version_8 : decode b_W_version 8 = .ok (.goto 6, 3) := by decide +kernel
theorem d_W_version_11 : decode b_W_version 11 = .ok (.astore_n 2, 1) := by decide +kernel
theorem d_W_version_12 : decode b_W_version 12 = .ok (.iconst 1, 1) := by decide +kernel
theorem d_W_version_13 : decode b_W_version 13 = .ok (.ireturn, 1) := by decide +kernel
theorem d_W_version_14 : decode b_W_version 14 = .ok (.iconst 0, 1) := by decide +kernel
theorem d_W_version_15 : decode b_W_version 15 = .ok (.ireturn, 1) := by decide +kernel
set_option maxRecDepth 20000 in
set_option maxHeartbeats 4000000 in
theorem h_version {D : va_G} {cI cZ cJ : ClassId} {ad : Nat → Nat} {mp : Nat} {lf : Nat → Int32} {Pb : pc_C} {gt gp gh : Nat → Int32} {Pv : pc_C} {gd : Nat → Int32} {Pq : pc_C} {rest : va_W} {A : aA} {ao : Nat} {of : Nat → Int64} (hA : AI mp A) (hC : CL mp A lf Pb gt gp gh Pv gd Pq)  : bC D bcl (tys3 cI cZ cJ) y_W_version ({ frames := 8, cells := 1, slots := 6, locals := 124 }) (wS ad cI cZ mp lf (aN A) Pb gt gp gh Pv gd Pq (aCr A) ((ao, .inl (cJ, 1, .inr (.inl of))) :: rest)) [.ref (ad 0), .ref ao] (bI (fun x ws9 => ∃ (k : Nat) (A' : aA) (lf1 : Nat → Int32) (Pb1 : pc_C) (gt1 gp1 gh1 : Nat → Int32) (Pv1 : pc_C) (gd1 : Nat → Int32) (Pq1 : pc_C) (of1 : Nat → Int64), x = nI k ∧ k ≤ 2 ∧ ((k = 0 ∧ ∃ x, OP_version A x A' ∧ of1 0 = x.toInt64) ∨ (k ≠ 0 ∧ OT_version A k ∧ A' = A)) ∧ AI mp A' ∧ CL mp A' lf1 Pb1 gt1 gp1 gh1 Pv1 gd1 Pq1 ∧ ws9 = wS ad cI cZ mp lf1 (aN A') Pb1 gt1 gp1 gh1 Pv1 gd1 Pq1 (aCr A') ((ao, .inl (cJ, 1, .inr (.inl of1))) :: rest)) bno) := by
  refine bC.of (by decide) m_W_version.1 (Nat.le_of_ble_eq_true rfl) ?_
  intro Γ G E0
  show bV D bcl Γ 3 (wS ad cI cZ mp lf (aN A) Pb gt gp gh Pv gd Pq (aCr A) ((ao, .inl (cJ, 1, .inr (.inl of))) :: rest)) 0 0 0 [(0, .ref (ad 0)), (1, .ref ao)] []
  refine bV.aload_n G d_W_version_0 rfl ?_
  refine bV.iconst (v := nI 0) G d_W_version_1 (by decide) ?_
  refine bV.aload_n G d_W_version_2 rfl ?_
  refine bV.callVit G m_S_version bw_273 bw_274 bw_272 (k_version hA hC  ) 0 rfl rfl rfl rfl rfl ⟨by decide, by decide⟩ ⟨by decide, by decide⟩ (Nat.le_of_ble_eq_true rfl) d_W_version_3 (fun x9 ws9 h9 => ?_) (fun E9 ws9 h9 => ?_)
  · obtain ⟨A', lf1, Pb1, gt1, gp1, gh1, Pv1, gd1, Pq1, hop, hA1, hC1, h9e⟩ := h9
    rw [h9e]
    refine bV.i2l G d_W_version_6 ?_
    refine bV.lastore (ws' := wS ad cI cZ mp lf1 (aN A') Pb1 gt1 gp1 gh1 Pv1 gd1 Pq1 (aCr A') ((ao, .inl (cJ, 1, .inr (.inl (vp_updL of (nI 0).toNatClampNeg (x9.toInt64))))) :: rest)) G 20 2 rfl rfl (vp_in_nI (by decide) (by decide)) d_W_version_7 rfl ?_
    refine bV.goto (tgt := 14) G d_W_version_8 (by decide) ?_
    refine bV.iconst (v := nI 0) G d_W_version_14 (by decide) ?_
    exact bV.iretI G E0 rfl rfl (by decide) (by decide) d_W_version_15 ⟨0, A', lf1, Pb1, gt1, gp1, gh1, Pv1, gd1, Pq1, (vp_updL of (nI 0).toNatClampNeg (x9.toInt64)), rfl, by decide, Or.inl ⟨rfl, x9, hop, by rw [nI_clamp (by decide)]; exact pk_uLs.trans rfl⟩, hA1, hC1, rfl⟩
  · obtain ⟨⟨rfl, h9t⟩, h9e⟩ := h9
    rw [h9e]
    refine bT.catch G [] (0, 8, 11, 13) [] rfl "java/lang/IllegalStateException" (by decide) (by decide) bw_107 bw_118 (fun y hy => by cases hy) (fun ea => ?_)
    refine bV.astore_n G (lv' := [(0, .ref (ad 0)), (1, .ref ao), (2, .ref ea)]) d_W_version_11 (by decide) rfl rfl ?_
    refine bV.iconst (v := nI 1) G d_W_version_12 (by decide) ?_
    exact bV.iretI G E0 rfl rfl (by decide) (by decide) d_W_version_13 ⟨1, A, lf, Pb, gt, gp, gh, Pv, gd, Pq, of, rfl, by decide, Or.inr ⟨by decide, h9t, rfl⟩, hA, hC, rfl⟩
theorem d_W_holds_0 : decode b_W_holds 0 = .ok (.aload_n 3, 1) := by decide +kernel
theorem d_W_holds_1 : decode b_W_holds 1 = .ok (.iconst 0, 1) := by decide +kernel
theorem d_W_holds_2 : decode b_W_holds 2 = .ok (.aload_n 0, 1) := by decide +kernel
theorem d_W_holds_3 : decode b_W_holds 3 = .ok (.iload_n 1, 1) := by decide +kernel
theorem d_W_holds_4 : decode b_W_holds 4 = .ok (.iload_n 2, 1) := by decide +kernel
theorem d_W_holds_5 : decode b_W_holds 5 = .ok (.invokevirtual 22, 3) := by decide +kernel
theorem d_W_holds_8 : decode b_W_holds 8 = .ok (.ifCond .eq 7, 3) := by decide +kernel
theorem d_W_holds_11 : decode b_W_holds 11 = .ok (.lconst 1, 1) := by decide +kernel
theorem d_W_holds_12 : decode b_W_holds 12 = .ok (.goto 4, 3) := by decide +kernel
theorem d_W_holds_15 : decode b_W_holds 15 = .ok (.lconst 0, 1) := by decide +kernel
theorem d_W_holds_16 : decode b_W_holds 16 = .ok (.lastore, 1) := by decide +kernel
theorem d_W_holds_17 : decode b_W_holds 17 = .ok (.goto 11, 3) := by decide +kernel
theorem d_W_holds_20 : decode b_W_holds 20 = .ok (.astore 4, 2) := by decide +kernel
theorem d_W_holds_22 : decode b_W_holds 22 = .ok (.iconst 1, 1) := by decide +kernel
theorem d_W_holds_23 : decode b_W_holds 23 = .ok (.ireturn, 1) := by decide +kernel
theorem d_W_holds_24 : decode b_W_holds 24 = .ok (.astore 4, 2) := by decide +kernel
theorem d_W_holds_26 : decode b_W_holds 26 = .ok (.iconst 2, 1) := by decide +kernel
theorem d_W_holds_27 : decode b_W_holds 27 = .ok (.ireturn, 1) := by decide +kernel
theorem d_W_holds_28 : decode b_W_holds 28 = .ok (.iconst 0, 1) := by decide +kernel
theorem d_W_holds_29 : decode b_W_holds 29 = .ok (.ireturn, 1) := by decide +kernel
set_option maxRecDepth 20000 in
set_option maxHeartbeats 4000000 in
theorem h_holds {D : va_G} {cI cZ cJ : ClassId} {ad : Nat → Nat} {mp : Nat} {lf : Nat → Int32} {Pb : pc_C} {gt gp gh : Nat → Int32} {Pv : pc_C} {gd : Nat → Int32} {Pq : pc_C} {rest : va_W} {A : aA} {ao : Nat} {of : Nat → Int64} (hA : AI mp A) (hC : CL mp A lf Pb gt gp gh Pv gd Pq) {v u : Int32} : bC D bcl (tys3 cI cZ cJ) y_W_holds ({ frames := 8, cells := 3, slots := 18, locals := 128 }) (wS ad cI cZ mp lf (aN A) Pb gt gp gh Pv gd Pq (aCr A) ((ao, .inl (cJ, 1, .inr (.inl of))) :: rest)) [.ref (ad 0), .int (v), .int (u), .ref ao] (bI (fun x ws9 => ∃ (k : Nat) (A' : aA) (lf1 : Nat → Int32) (Pb1 : pc_C) (gt1 gp1 gh1 : Nat → Int32) (Pv1 : pc_C) (gd1 : Nat → Int32) (Pq1 : pc_C) (of1 : Nat → Int64), x = nI k ∧ k ≤ 2 ∧ ((k = 0 ∧ ∃ x, OP_holds A v u x A' ∧ of1 0 = x.toInt64) ∨ (k ≠ 0 ∧ OT_holds A v u k ∧ A' = A)) ∧ AI mp A' ∧ CL mp A' lf1 Pb1 gt1 gp1 gh1 Pv1 gd1 Pq1 ∧ ws9 = wS ad cI cZ mp lf1 (aN A') Pb1 gt1 gp1 gh1 Pv1 gd1 Pq1 (aCr A') ((ao, .inl (cJ, 1, .inr (.inl of1))) :: rest)) bno) := by
  refine bC.of (by decide) m_W_holds.1 (Nat.le_of_ble_eq_true rfl) ?_
  intro Γ G E0
  show bV D bcl Γ 5 (wS ad cI cZ mp lf (aN A) Pb gt gp gh Pv gd Pq (aCr A) ((ao, .inl (cJ, 1, .inr (.inl of))) :: rest)) 0 0 0 [(0, .ref (ad 0)), (1, .int (v)), (2, .int (u)), (3, .ref ao)] []
  refine bV.aload_n G d_W_holds_0 rfl ?_
  refine bV.iconst (v := nI 0) G d_W_holds_1 (by decide) ?_
  refine bV.aload_n G d_W_holds_2 rfl ?_
  refine bV.iload_n G d_W_holds_3 rfl ?_
  refine bV.iload_n G d_W_holds_4 rfl ?_
  refine bV.callVit G m_S_holds bw_281 bw_282 bw_280 (k_holds hA hC (v := v) (u := u) ) 0 rfl rfl rfl rfl rfl ⟨by decide, by decide⟩ ⟨by decide, by decide⟩ (Nat.le_of_ble_eq_true rfl) d_W_holds_5 (fun x9 ws9 h9 => ?_) (fun E9 ws9 h9 => ?_)
  · obtain ⟨⟨b9, hb9⟩, A', lf1, Pb1, gt1, gp1, gh1, Pv1, gd1, Pq1, hop, hA1, hC1, h9e⟩ := h9
    rw [h9e]
    refine bV.if_eq (tgt := 15) G d_W_holds_8 (by decide) (fun c0 => ?_) (fun c0 => ?_)
    · refine bV.lconst (v := 0) G d_W_holds_15 (by decide) ?_
      refine bV.lastore (ws' := wS ad cI cZ mp lf1 (aN A') Pb1 gt1 gp1 gh1 Pv1 gd1 Pq1 (aCr A') ((ao, .inl (cJ, 1, .inr (.inl (vp_updL of (nI 0).toNatClampNeg (0))))) :: rest)) G 20 2 rfl rfl (vp_in_nI (by decide) (by decide)) d_W_holds_16 rfl ?_
      refine bV.goto (tgt := 28) G d_W_holds_17 (by decide) ?_
      refine bV.iconst (v := nI 0) G d_W_holds_28 (by decide) ?_
      exact bV.iretI G E0 rfl rfl (by decide) (by decide) d_W_holds_29 ⟨0, A', lf1, Pb1, gt1, gp1, gh1, Pv1, gd1, Pq1, (vp_updL of (nI 0).toNatClampNeg (0)), rfl, by decide, Or.inl ⟨rfl, x9, hop, by rw [nI_clamp (by decide)]; exact pk_uLs.trans (by rw [c0]; rfl)⟩, hA1, hC1, rfl⟩
    · refine bV.lconst (v := 1) G d_W_holds_11 (by decide) ?_
      refine bV.goto (tgt := 16) G d_W_holds_12 (by decide) ?_
      refine bV.lastore (ws' := wS ad cI cZ mp lf1 (aN A') Pb1 gt1 gp1 gh1 Pv1 gd1 Pq1 (aCr A') ((ao, .inl (cJ, 1, .inr (.inl (vp_updL of (nI 0).toNatClampNeg (1))))) :: rest)) G 20 2 rfl rfl (vp_in_nI (by decide) (by decide)) d_W_holds_16 rfl ?_
      refine bV.goto (tgt := 28) G d_W_holds_17 (by decide) ?_
      refine bV.iconst (v := nI 0) G d_W_holds_28 (by decide) ?_
      exact bV.iretI G E0 rfl rfl (by decide) (by decide) d_W_holds_29 ⟨0, A', lf1, Pb1, gt1, gp1, gh1, Pv1, gd1, Pq1, (vp_updL of (nI 0).toNatClampNeg (1)), rfl, by decide, Or.inl ⟨rfl, x9, hop, by rw [nI_clamp (by decide)]; exact pk_uLs.trans (by rw [hb9]; cases b9; exact absurd hb9 c0; rfl)⟩, hA1, hC1, rfl⟩
  · obtain ⟨h9d, h9e⟩ := h9
    rw [h9e]
    rcases h9d with ⟨rfl, h9t⟩ | ⟨rfl, h9t⟩
    · refine bT.catch G [(0, 17, 20, 26)] (0, 17, 24, 13) [] rfl "java/lang/IllegalStateException" (by decide) (by decide) bw_107 bw_118 (fun y hy => by obtain rfl := List.mem_singleton.mp hy; exact ⟨by decide, "java/lang/IndexOutOfBoundsException", bw_279, by decide⟩) (fun ea => ?_)
      refine bV.astore G (lv' := [(0, .ref (ad 0)), (1, .int (v)), (2, .int (u)), (3, .ref ao), (4, .ref ea)]) d_W_holds_24 (by decide) rfl rfl ?_
      refine bV.iconst (v := nI 2) G d_W_holds_26 (by decide) ?_
      exact bV.iretI G E0 rfl rfl (by decide) (by decide) d_W_holds_27 ⟨2, A, lf, Pb, gt, gp, gh, Pv, gd, Pq, of, rfl, by decide, Or.inr ⟨by decide, h9t, rfl⟩, hA, hC, rfl⟩
    · refine bT.catch G [] (0, 17, 20, 26) [(0, 17, 24, 13)] rfl "java/lang/IndexOutOfBoundsException" (by decide) (by decide) bw_279 bw_294 (fun y hy => by cases hy) (fun ea => ?_)
      refine bV.astore G (lv' := [(0, .ref (ad 0)), (1, .int (v)), (2, .int (u)), (3, .ref ao), (4, .ref ea)]) d_W_holds_20 (by decide) rfl rfl ?_
      refine bV.iconst (v := nI 1) G d_W_holds_22 (by decide) ?_
      exact bV.iretI G E0 rfl rfl (by decide) (by decide) d_W_holds_23 ⟨1, A, lf, Pb, gt, gp, gh, Pv, gd, Pq, of, rfl, by decide, Or.inr ⟨by decide, h9t, rfl⟩, hA, hC, rfl⟩
theorem d_W_root_0 : decode b_W_root 0 = .ok (.aload_n 2, 1) := by decide +kernel
theorem d_W_root_1 : decode b_W_root 1 = .ok (.iconst 0, 1) := by decide +kernel
theorem d_W_root_2 : decode b_W_root 2 = .ok (.aload_n 0, 1) := by decide +kernel
theorem d_W_root_3 : decode b_W_root 3 = .ok (.iload_n 1, 1) := by decide +kernel
theorem d_W_root_4 : decode b_W_root 4 = .ok (.invokevirtual 28, 3) := by decide +kernel
theorem d_W_root_7 : decode b_W_root 7 = .ok (.i2l, 1) := by decide +kernel
theorem d_W_root_8 : decode b_W_root 8 = .ok (.lastore, 1) := by decide +kernel
theorem d_W_root_9 : decode b_W_root 9 = .ok (.goto 9, 3) := by decide +kernel
theorem d_W_root_12 : decode b_W_root 12 = .ok (.astore_n 3, 1) := by decide +kernel
theorem d_W_root_13 : decode b_W_root 13 = .ok (.iconst 1, 1) := by decide +kernel
theorem d_W_root_14 : decode b_W_root 14 = .ok (.ireturn, 1) := by decide +kernel
theorem d_W_root_15 : decode b_W_root 15 = .ok (.astore_n 3, 1) := by decide +kernel
theorem d_W_root_16 : decode b_W_root 16 = .ok (.iconst 2, 1) := by decide +kernel
theorem d_W_root_17 : decode b_W_root 17 = .ok (.ireturn, 1) := by decide +kernel
theorem d_W_root_18 : decode b_W_root 18 = .ok (.iconst 0, 1) := by decide +kernel
theorem d_W_root_19 : decode b_W_root 19 = .ok (.ireturn, 1) := by decide +kernel
set_option maxRecDepth 20000 in
set_option maxHeartbeats 4000000 in
theorem h_root {D : va_G} {cI cZ cJ : ClassId} {ad : Nat → Nat} {mp : Nat} {lf : Nat → Int32} {Pb : pc_C} {gt gp gh : Nat → Int32} {Pv : pc_C} {gd : Nat → Int32} {Pq : pc_C} {rest : va_W} {A : aA} {ao : Nat} {of : Nat → Int64} (hA : AI mp A) (hC : CL mp A lf Pb gt gp gh Pv gd Pq) {v : Int32} : bC D bcl (tys3 cI cZ cJ) y_W_root ({ frames := 8, cells := 2, slots := 12, locals := 131 }) (wS ad cI cZ mp lf (aN A) Pb gt gp gh Pv gd Pq (aCr A) ((ao, .inl (cJ, 1, .inr (.inl of))) :: rest)) [.ref (ad 0), .int (v), .ref ao] (bI (fun x ws9 => ∃ (k : Nat) (A' : aA) (lf1 : Nat → Int32) (Pb1 : pc_C) (gt1 gp1 gh1 : Nat → Int32) (Pv1 : pc_C) (gd1 : Nat → Int32) (Pq1 : pc_C) (of1 : Nat → Int64), x = nI k ∧ k ≤ 2 ∧ ((k = 0 ∧ ∃ x, OP_root A v x A' ∧ of1 0 = x.toInt64) ∨ (k ≠ 0 ∧ OT_root A v k ∧ A' = A)) ∧ AI mp A' ∧ CL mp A' lf1 Pb1 gt1 gp1 gh1 Pv1 gd1 Pq1 ∧ ws9 = wS ad cI cZ mp lf1 (aN A') Pb1 gt1 gp1 gh1 Pv1 gd1 Pq1 (aCr A') ((ao, .inl (cJ, 1, .inr (.inl of1))) :: rest)) bno) := by
  refine bC.of (by decide) m_W_root.1 (Nat.le_of_ble_eq_true rfl) ?_
  intro Γ G E0
  show bV D bcl Γ 4 (wS ad cI cZ mp lf (aN A) Pb gt gp gh Pv gd Pq (aCr A) ((ao, .inl (cJ, 1, .inr (.inl of))) :: rest)) 0 0 0 [(0, .ref (ad 0)), (1, .int (v)), (2, .ref ao)] []
  refine bV.aload_n G d_W_root_0 rfl ?_
  refine bV.iconst (v := nI 0) G d_W_root_1 (by decide) ?_
  refine bV.aload_n G d_W_root_2 rfl ?_
  refine bV.iload_n G d_W_root_3 rfl ?_
  refine bV.callVit G m_S_root bw_327 bw_328 bw_326 (k_root hA hC (v := v) ) 0 rfl rfl rfl rfl rfl ⟨by decide, by decide⟩ ⟨by decide, by decide⟩ (Nat.le_of_ble_eq_true rfl) d_W_root_4 (fun x9 ws9 h9 => ?_) (fun E9 ws9 h9 => ?_)
  · obtain ⟨A', lf1, Pb1, gt1, gp1, gh1, Pv1, gd1, Pq1, hop, hA1, hC1, h9e⟩ := h9
    rw [h9e]
    refine bV.i2l G d_W_root_7 ?_
    refine bV.lastore (ws' := wS ad cI cZ mp lf1 (aN A') Pb1 gt1 gp1 gh1 Pv1 gd1 Pq1 (aCr A') ((ao, .inl (cJ, 1, .inr (.inl (vp_updL of (nI 0).toNatClampNeg (x9.toInt64))))) :: rest)) G 20 2 rfl rfl (vp_in_nI (by decide) (by decide)) d_W_root_8 rfl ?_
    refine bV.goto (tgt := 18) G d_W_root_9 (by decide) ?_
    refine bV.iconst (v := nI 0) G d_W_root_18 (by decide) ?_
    exact bV.iretI G E0 rfl rfl (by decide) (by decide) d_W_root_19 ⟨0, A', lf1, Pb1, gt1, gp1, gh1, Pv1, gd1, Pq1, (vp_updL of (nI 0).toNatClampNeg (x9.toInt64)), rfl, by decide, Or.inl ⟨rfl, x9, hop, by rw [nI_clamp (by decide)]; exact pk_uLs.trans rfl⟩, hA1, hC1, rfl⟩
  · obtain ⟨h9d, h9e⟩ := h9
    rw [h9e]
    rcases h9d with ⟨rfl, h9t⟩ | ⟨rfl, h9t⟩
    · refine bT.catch G [(0, 9, 12, 26)] (0, 9, 15, 13) [] rfl "java/lang/IllegalStateException" (by decide) (by decide) bw_107 bw_118 (fun y hy => by obtain rfl := List.mem_singleton.mp hy; exact ⟨by decide, "java/lang/IndexOutOfBoundsException", bw_279, by decide⟩) (fun ea => ?_)
      refine bV.astore_n G (lv' := [(0, .ref (ad 0)), (1, .int (v)), (2, .ref ao), (3, .ref ea)]) d_W_root_15 (by decide) rfl rfl ?_
      refine bV.iconst (v := nI 2) G d_W_root_16 (by decide) ?_
      exact bV.iretI G E0 rfl rfl (by decide) (by decide) d_W_root_17 ⟨2, A, lf, Pb, gt, gp, gh, Pv, gd, Pq, of, rfl, by decide, Or.inr ⟨by decide, h9t, rfl⟩, hA, hC, rfl⟩
    · refine bT.catch G [] (0, 9, 12, 26) [(0, 9, 15, 13)] rfl "java/lang/IndexOutOfBoundsException" (by decide) (by decide) bw_279 bw_294 (fun y hy => by cases hy) (fun ea => ?_)
      refine bV.astore_n G (lv' := [(0, .ref (ad 0)), (1, .int (v)), (2, .ref ao), (3, .ref ea)]) d_W_root_12 (by decide) rfl rfl ?_
      refine bV.iconst (v := nI 1) G d_W_root_13 (by decide) ?_
      exact bV.iretI G E0 rfl rfl (by decide) (by decide) d_W_root_14 ⟨1, A, lf, Pb, gt, gp, gh, Pv, gd, Pq, of, rfl, by decide, Or.inr ⟨by decide, h9t, rfl⟩, hA, hC, rfl⟩
theorem d_W_sweep_0 : decode b_W_sweep 0 = .ok (.aload_n 1, 1) := by decide +kernel
theorem d_W_sweep_1 : decode b_W_sweep 1 = .ok (.iconst 0, 1) := by decide +kernel
theorem d_W_sweep_2 : decode b_W_sweep 2 = .ok (.aload_n 0, 1) := by decide +kernel
theorem d_W_sweep_3 : decode b_W_sweep 3 = .ok (.invokevirtual 32, 3) := by decide +kernel
theorem d_W_sweep_6 : decode b_W_sweep 6 = .ok (.i2l, 1) := by decide +kernel
theorem d_W_sweep_7 : decode b_W_sweep 7 = .ok (.lastore, 1) := by decide +kernel
theorem d_W_sweep_8 : decode b_W_sweep 8 = .ok (.goto 6, 3) := by decide +kernel
theorem d_W_sweep_11 : decode b_W_sweep 11 = .ok (.astore_n 2, 1) := by decide +kernel
theorem d_W_sweep_12 : decode b_W_sweep 12 = .ok (.iconst 1, 1) := by decide +kernel
theorem d_W_sweep_13 : decode b_W_sweep 13 = .ok (.ireturn, 1) := by decide +kernel
theorem d_W_sweep_14 : decode b_W_sweep 14 = .ok (.iconst 0, 1) := by decide +kernel
theorem d_W_sweep_15 : decode b_W_sweep 15 = .ok (.ireturn, 1) := by decide +kernel
set_option maxRecDepth 20000 in
set_option maxHeartbeats 4000000 in
theorem h_sweep {D : va_G} {cI cZ cJ : ClassId} {ad : Nat → Nat} {mp : Nat} {lf : Nat → Int32} {Pb : pc_C} {gt gp gh : Nat → Int32} {Pv : pc_C} {gd : Nat → Int32} {Pq : pc_C} {rest : va_W} {A : aA} {ao : Nat} {of : Nat → Int64} (hA : AI mp A) (hC : CL mp A lf Pb gt gp gh Pv gd Pq)  : bC D bcl (tys3 cI cZ cJ) y_W_sweep ({ frames := 8, cells := 1, slots := 6, locals := 124 }) (wS ad cI cZ mp lf (aN A) Pb gt gp gh Pv gd Pq (aCr A) ((ao, .inl (cJ, 1, .inr (.inl of))) :: rest)) [.ref (ad 0), .ref ao] (bI (fun x ws9 => ∃ (k : Nat) (A' : aA) (lf1 : Nat → Int32) (Pb1 : pc_C) (gt1 gp1 gh1 : Nat → Int32) (Pv1 : pc_C) (gd1 : Nat → Int32) (Pq1 : pc_C) (of1 : Nat → Int64), x = nI k ∧ k ≤ 2 ∧ ((k = 0 ∧ ∃ x, OP_sweep A x A' ∧ of1 0 = x.toInt64) ∨ (k ≠ 0 ∧ OT_sweep A k ∧ A' = A)) ∧ AI mp A' ∧ CL mp A' lf1 Pb1 gt1 gp1 gh1 Pv1 gd1 Pq1 ∧ ws9 = wS ad cI cZ mp lf1 (aN A') Pb1 gt1 gp1 gh1 Pv1 gd1 Pq1 (aCr A') ((ao, .inl (cJ, 1, .inr (.inl of1))) :: rest)) bno) := by
  refine bC.of (by decide) m_W_sweep.1 (Nat.le_of_ble_eq_true rfl) ?_
  intro Γ G E0
  show bV D bcl Γ 3 (wS ad cI cZ mp lf (aN A) Pb gt gp gh Pv gd Pq (aCr A) ((ao, .inl (cJ, 1, .inr (.inl of))) :: rest)) 0 0 0 [(0, .ref (ad 0)), (1, .ref ao)] []
  refine bV.aload_n G d_W_sweep_0 rfl ?_
  refine bV.iconst (v := nI 0) G d_W_sweep_1 (by decide) ?_
  refine bV.aload_n G d_W_sweep_2 rfl ?_
  refine bV.callVit G m_S_sweep bw_343 bw_344 bw_342 (k_sweep hA hC  ) 0 rfl rfl rfl rfl rfl ⟨by decide, by decide⟩ ⟨by decide, by decide⟩ (Nat.le_of_ble_eq_true rfl) d_W_sweep_3 (fun x9 ws9 h9 => ?_) (fun E9 ws9 h9 => ?_)
  · obtain ⟨A', lf1, Pb1, gt1, gp1, gh1, Pv1, gd1, Pq1, hop, hA1, hC1, h9e⟩ := h9
    rw [h9e]
    refine bV.i2l G d_W_sweep_6 ?_
    refine bV.lastore (ws' := wS ad cI cZ mp lf1 (aN A') Pb1 gt1 gp1 gh1 Pv1 gd1 Pq1 (aCr A') ((ao, .inl (cJ, 1, .inr (.inl (vp_updL of (nI 0).toNatClampNeg (x9.toInt64))))) :: rest)) G 20 2 rfl rfl (vp_in_nI (by decide) (by decide)) d_W_sweep_7 rfl ?_
    refine bV.goto (tgt := 14) G d_W_sweep_8 (by decide) ?_
    refine bV.iconst (v := nI 0) G d_W_sweep_14 (by decide) ?_
    exact bV.iretI G E0 rfl rfl (by decide) (by decide) d_W_sweep_15 ⟨0, A', lf1, Pb1, gt1, gp1, gh1, Pv1, gd1, Pq1, (vp_updL of (nI 0).toNatClampNeg (x9.toInt64)), rfl, by decide, Or.inl ⟨rfl, x9, hop, by rw [nI_clamp (by decide)]; exact pk_uLs.trans rfl⟩, hA1, hC1, rfl⟩
  · obtain ⟨⟨rfl, h9t⟩, h9e⟩ := h9
    rw [h9e]
    refine bT.catch G [] (0, 8, 11, 13) [] rfl "java/lang/IllegalStateException" (by decide) (by decide) bw_107 bw_118 (fun y hy => by cases hy) (fun ea => ?_)
    refine bV.astore_n G (lv' := [(0, .ref (ad 0)), (1, .ref ao), (2, .ref ea)]) d_W_sweep_11 (by decide) rfl rfl ?_
    refine bV.iconst (v := nI 1) G d_W_sweep_12 (by decide) ?_
    exact bV.iretI G E0 rfl rfl (by decide) (by decide) d_W_sweep_13 ⟨1, A, lf, Pb, gt, gp, gh, Pv, gd, Pq, of, rfl, by decide, Or.inr ⟨by decide, h9t, rfl⟩, hA, hC, rfl⟩
theorem d_W_pack_0 : decode b_W_pack 0 = .ok (.aload_n 1, 1) := by decide +kernel
theorem d_W_pack_1 : decode b_W_pack 1 = .ok (.iconst 0, 1) := by decide +kernel
theorem d_W_pack_2 : decode b_W_pack 2 = .ok (.aload_n 0, 1) := by decide +kernel
theorem d_W_pack_3 : decode b_W_pack 3 = .ok (.invokevirtual 35, 3) := by decide +kernel
theorem d_W_pack_6 : decode b_W_pack 6 = .ok (.i2l, 1) := by decide +kernel
theorem d_W_pack_7 : decode b_W_pack 7 = .ok (.lastore, 1) := by decide +kernel
theorem d_W_pack_8 : decode b_W_pack 8 = .ok (.goto 6, 3) := by decide +kernel
theorem d_W_pack_11 : decode b_W_pack 11 = .ok (.astore_n 2, 1) := by decide +kernel
theorem d_W_pack_12 : decode b_W_pack 12 = .ok (.iconst 1, 1) := by decide +kernel
theorem d_W_pack_13 : decode b_W_pack 13 = .ok (.ireturn, 1) := by decide +kernel
theorem d_W_pack_14 : decode b_W_pack 14 = .ok (.iconst 0, 1) := by decide +kernel
theorem d_W_pack_15 : decode b_W_pack 15 = .ok (.ireturn, 1) := by decide +kernel
set_option maxRecDepth 20000 in
set_option maxHeartbeats 4000000 in
theorem h_pack {D : va_G} {cI cZ cJ : ClassId} {ad : Nat → Nat} {mp : Nat} {lf : Nat → Int32} {Pb : pc_C} {gt gp gh : Nat → Int32} {Pv : pc_C} {gd : Nat → Int32} {Pq : pc_C} {rest : va_W} {A : aA} {ao : Nat} {of : Nat → Int64} (hA : AI mp A) (hC : CL mp A lf Pb gt gp gh Pv gd Pq)  : bC D bcl (tys3 cI cZ cJ) y_W_pack ({ frames := 8, cells := 1, slots := 6, locals := 126 }) (wS ad cI cZ mp lf (aN A) Pb gt gp gh Pv gd Pq (aCr A) ((ao, .inl (cJ, 1, .inr (.inl of))) :: rest)) [.ref (ad 0), .ref ao] (bI (fun x ws9 => ∃ (k : Nat) (A' : aA) (lf1 : Nat → Int32) (Pb1 : pc_C) (gt1 gp1 gh1 : Nat → Int32) (Pv1 : pc_C) (gd1 : Nat → Int32) (Pq1 : pc_C) (of1 : Nat → Int64), x = nI k ∧ k ≤ 2 ∧ ((k = 0 ∧ ∃ x, OP_pack mp A x A' ∧ of1 0 = x.toInt64) ∨ (k ≠ 0 ∧ OT_pack mp A k ∧ A' = A)) ∧ AI mp A' ∧ CL mp A' lf1 Pb1 gt1 gp1 gh1 Pv1 gd1 Pq1 ∧ ws9 = wS ad cI cZ mp lf1 (aN A') Pb1 gt1 gp1 gh1 Pv1 gd1 Pq1 (aCr A') ((ao, .inl (cJ, 1, .inr (.inl of1))) :: rest)) bno) := by
  refine bC.of (by decide) m_W_pack.1 (Nat.le_of_ble_eq_true rfl) ?_
  intro Γ G E0
  show bV D bcl Γ 3 (wS ad cI cZ mp lf (aN A) Pb gt gp gh Pv gd Pq (aCr A) ((ao, .inl (cJ, 1, .inr (.inl of))) :: rest)) 0 0 0 [(0, .ref (ad 0)), (1, .ref ao)] []
  refine bV.aload_n G d_W_pack_0 rfl ?_
  refine bV.iconst (v := nI 0) G d_W_pack_1 (by decide) ?_
  refine bV.aload_n G d_W_pack_2 rfl ?_
  refine bV.callVit G m_S_pack bw_366 bw_367 bw_365 (k_pack hA hC  ) 0 rfl rfl rfl rfl rfl ⟨by decide, by decide⟩ ⟨by decide, by decide⟩ (Nat.le_of_ble_eq_true rfl) d_W_pack_3 (fun x9 ws9 h9 => ?_) (fun E9 ws9 h9 => ?_)
  · obtain ⟨A', lf1, Pb1, gt1, gp1, gh1, Pv1, gd1, Pq1, hop, hA1, hC1, h9e⟩ := h9
    rw [h9e]
    refine bV.i2l G d_W_pack_6 ?_
    refine bV.lastore (ws' := wS ad cI cZ mp lf1 (aN A') Pb1 gt1 gp1 gh1 Pv1 gd1 Pq1 (aCr A') ((ao, .inl (cJ, 1, .inr (.inl (vp_updL of (nI 0).toNatClampNeg (x9.toInt64))))) :: rest)) G 20 2 rfl rfl (vp_in_nI (by decide) (by decide)) d_W_pack_7 rfl ?_
    refine bV.goto (tgt := 14) G d_W_pack_8 (by decide) ?_
    refine bV.iconst (v := nI 0) G d_W_pack_14 (by decide) ?_
    exact bV.iretI G E0 rfl rfl (by decide) (by decide) d_W_pack_15 ⟨0, A', lf1, Pb1, gt1, gp1, gh1, Pv1, gd1, Pq1, (vp_updL of (nI 0).toNatClampNeg (x9.toInt64)), rfl, by decide, Or.inl ⟨rfl, x9, hop, by rw [nI_clamp (by decide)]; exact pk_uLs.trans rfl⟩, hA1, hC1, rfl⟩
  · obtain ⟨⟨rfl, h9t⟩, h9e⟩ := h9
    rw [h9e]
    refine bT.catch G [] (0, 8, 11, 13) [] rfl "java/lang/IllegalStateException" (by decide) (by decide) bw_107 bw_118 (fun y hy => by cases hy) (fun ea => ?_)
    refine bV.astore_n G (lv' := [(0, .ref (ad 0)), (1, .ref ao), (2, .ref ea)]) d_W_pack_11 (by decide) rfl rfl ?_
    refine bV.iconst (v := nI 1) G d_W_pack_12 (by decide) ?_
    exact bV.iretI G E0 rfl rfl (by decide) (by decide) d_W_pack_13 ⟨1, A, lf, Pb, gt, gp, gh, Pv, gd, Pq, of, rfl, by decide, Or.inr ⟨by decide, h9t, rfl⟩, hA, hC, rfl⟩
theorem d_W_byteAt_0 : decode b_W_byteAt 0 = .ok (.aload_n 3, 1) := by decide +kernel
theorem d_W_byteAt_1 : decode b_W_byteAt 1 = .ok (.iconst 0, 1) := by decide +kernel
theorem d_W_byteAt_2 : decode b_W_byteAt 2 = .ok (.aload_n 0, 1) := by decide +kernel
theorem d_W_byteAt_3 : decode b_W_byteAt 3 = .ok (.iload_n 1, 1) := by decide +kernel
theorem d_W_byteAt_4 : decode b_W_byteAt 4 = .ok (.iload_n 2, 1) := by decide +kernel
theorem d_W_byteAt_5 : decode b_W_byteAt 5 = .ok (.invokevirtual 38, 3) := by decide +kernel
theorem d_W_byteAt_8 : decode b_W_byteAt 8 = .ok (.i2l, 1) := by decide +kernel
theorem d_W_byteAt_9 : decode b_W_byteAt 9 = .ok (.lastore, 1) := by decide +kernel
theorem d_W_byteAt_10 : decode b_W_byteAt 10 = .ok (.goto 11, 3) := by decide +kernel
theorem d_W_byteAt_13 : decode b_W_byteAt 13 = .ok (.astore 4, 2) := by decide +kernel
theorem d_W_byteAt_15 : decode b_W_byteAt 15 = .ok (.iconst 1, 1) := by decide +kernel
theorem d_W_byteAt_16 : decode b_W_byteAt 16 = .ok (.ireturn, 1) := by decide +kernel
theorem d_W_byteAt_17 : decode b_W_byteAt 17 = .ok (.astore 4, 2) := by decide +kernel
theorem d_W_byteAt_19 : decode b_W_byteAt 19 = .ok (.iconst 2, 1) := by decide +kernel
theorem d_W_byteAt_20 : decode b_W_byteAt 20 = .ok (.ireturn, 1) := by decide +kernel
theorem d_W_byteAt_21 : decode b_W_byteAt 21 = .ok (.iconst 0, 1) := by decide +kernel
theorem d_W_byteAt_22 : decode b_W_byteAt 22 = .ok (.ireturn, 1) := by decide +kernel
set_option maxRecDepth 20000 in
set_option maxHeartbeats 4000000 in
theorem h_byteAt {D : va_G} {cI cZ cJ : ClassId} {ad : Nat → Nat} {mp : Nat} {lf : Nat → Int32} {Pb : pc_C} {gt gp gh : Nat → Int32} {Pv : pc_C} {gd : Nat → Int32} {Pq : pc_C} {rest : va_W} {A : aA} {ao : Nat} {of : Nat → Int64} (hA : AI mp A) (hC : CL mp A lf Pb gt gp gh Pv gd Pq) {v u : Int32} : bC D bcl (tys3 cI cZ cJ) y_W_byteAt ({ frames := 8, cells := 3, slots := 18, locals := 128 }) (wS ad cI cZ mp lf (aN A) Pb gt gp gh Pv gd Pq (aCr A) ((ao, .inl (cJ, 1, .inr (.inl of))) :: rest)) [.ref (ad 0), .int (v), .int (u), .ref ao] (bI (fun x ws9 => ∃ (k : Nat) (A' : aA) (lf1 : Nat → Int32) (Pb1 : pc_C) (gt1 gp1 gh1 : Nat → Int32) (Pv1 : pc_C) (gd1 : Nat → Int32) (Pq1 : pc_C) (of1 : Nat → Int64), x = nI k ∧ k ≤ 2 ∧ ((k = 0 ∧ ∃ x, OP_byteAt A v u x A' ∧ of1 0 = x.toInt64) ∨ (k ≠ 0 ∧ OT_byteAt A v u k ∧ A' = A)) ∧ AI mp A' ∧ CL mp A' lf1 Pb1 gt1 gp1 gh1 Pv1 gd1 Pq1 ∧ ws9 = wS ad cI cZ mp lf1 (aN A') Pb1 gt1 gp1 gh1 Pv1 gd1 Pq1 (aCr A') ((ao, .inl (cJ, 1, .inr (.inl of1))) :: rest)) bno) := by
  refine bC.of (by decide) m_W_byteAt.1 (Nat.le_of_ble_eq_true rfl) ?_
  intro Γ G E0
  show bV D bcl Γ 5 (wS ad cI cZ mp lf (aN A) Pb gt gp gh Pv gd Pq (aCr A) ((ao, .inl (cJ, 1, .inr (.inl of))) :: rest)) 0 0 0 [(0, .ref (ad 0)), (1, .int (v)), (2, .int (u)), (3, .ref ao)] []
  refine bV.aload_n G d_W_byteAt_0 rfl ?_
  refine bV.iconst (v := nI 0) G d_W_byteAt_1 (by decide) ?_
  refine bV.aload_n G d_W_byteAt_2 rfl ?_
  refine bV.iload_n G d_W_byteAt_3 rfl ?_
  refine bV.iload_n G d_W_byteAt_4 rfl ?_
  refine bV.callVit G m_S_byteAt bw_393 bw_394 bw_392 (k_byteAt hA hC (v := v) (u := u) ) 0 rfl rfl rfl rfl rfl ⟨by decide, by decide⟩ ⟨by decide, by decide⟩ (Nat.le_of_ble_eq_true rfl) d_W_byteAt_5 (fun x9 ws9 h9 => ?_) (fun E9 ws9 h9 => ?_)
  · obtain ⟨A', lf1, Pb1, gt1, gp1, gh1, Pv1, gd1, Pq1, hop, hA1, hC1, h9e⟩ := h9
    rw [h9e]
    refine bV.i2l G d_W_byteAt_8 ?_
    refine bV.lastore (ws' := wS ad cI cZ mp lf1 (aN A') Pb1 gt1 gp1 gh1 Pv1 gd1 Pq1 (aCr A') ((ao, .inl (cJ, 1, .inr (.inl (vp_updL of (nI 0).toNatClampNeg (x9.toInt64))))) :: rest)) G 20 2 rfl rfl (vp_in_nI (by decide) (by decide)) d_W_byteAt_9 rfl ?_
    refine bV.goto (tgt := 21) G d_W_byteAt_10 (by decide) ?_
    refine bV.iconst (v := nI 0) G d_W_byteAt_21 (by decide) ?_
    exact bV.iretI G E0 rfl rfl (by decide) (by decide) d_W_byteAt_22 ⟨0, A', lf1, Pb1, gt1, gp1, gh1, Pv1, gd1, Pq1, (vp_updL of (nI 0).toNatClampNeg (x9.toInt64)), rfl, by decide, Or.inl ⟨rfl, x9, hop, by rw [nI_clamp (by decide)]; exact pk_uLs.trans rfl⟩, hA1, hC1, rfl⟩
  · obtain ⟨h9d, h9e⟩ := h9
    rw [h9e]
    rcases h9d with ⟨rfl, h9t⟩ | ⟨rfl, h9t⟩
    · refine bT.catch G [(0, 10, 13, 26)] (0, 10, 17, 13) [] rfl "java/lang/IllegalStateException" (by decide) (by decide) bw_107 bw_118 (fun y hy => by obtain rfl := List.mem_singleton.mp hy; exact ⟨by decide, "java/lang/IndexOutOfBoundsException", bw_279, by decide⟩) (fun ea => ?_)
      refine bV.astore G (lv' := [(0, .ref (ad 0)), (1, .int (v)), (2, .int (u)), (3, .ref ao), (4, .ref ea)]) d_W_byteAt_17 (by decide) rfl rfl ?_
      refine bV.iconst (v := nI 2) G d_W_byteAt_19 (by decide) ?_
      exact bV.iretI G E0 rfl rfl (by decide) (by decide) d_W_byteAt_20 ⟨2, A, lf, Pb, gt, gp, gh, Pv, gd, Pq, of, rfl, by decide, Or.inr ⟨by decide, h9t, rfl⟩, hA, hC, rfl⟩
    · refine bT.catch G [] (0, 10, 13, 26) [(0, 10, 17, 13)] rfl "java/lang/IndexOutOfBoundsException" (by decide) (by decide) bw_279 bw_294 (fun y hy => by cases hy) (fun ea => ?_)
      refine bV.astore G (lv' := [(0, .ref (ad 0)), (1, .int (v)), (2, .int (u)), (3, .ref ao), (4, .ref ea)]) d_W_byteAt_13 (by decide) rfl rfl ?_
      refine bV.iconst (v := nI 1) G d_W_byteAt_15 (by decide) ?_
      exact bV.iretI G E0 rfl rfl (by decide) (by decide) d_W_byteAt_16 ⟨1, A, lf, Pb, gt, gp, gh, Pv, gd, Pq, of, rfl, by decide, Or.inr ⟨by decide, h9t, rfl⟩, hA, hC, rfl⟩
theorem d_W_crash_0 : decode b_W_crash 0 = .ok (.aload_n 2, 1) := by decide +kernel
theorem d_W_crash_1 : decode b_W_crash 1 = .ok (.iconst 0, 1) := by decide +kernel
theorem d_W_crash_2 : decode b_W_crash 2 = .ok (.aload_n 0, 1) := by decide +kernel
theorem d_W_crash_3 : decode b_W_crash 3 = .ok (.iload_n 1, 1) := by decide +kernel
theorem d_W_crash_4 : decode b_W_crash 4 = .ok (.invokevirtual 42, 3) := by decide +kernel
theorem d_W_crash_7 : decode b_W_crash 7 = .ok (.ifCond .eq 7, 3) := by decide +kernel
theorem d_W_crash_10 : decode b_W_crash 10 = .ok (.lconst 1, 1) := by decide +kernel
theorem d_W_crash_11 : decode b_W_crash 11 = .ok (.goto 4, 3) := by decide +kernel
theorem d_W_crash_14 : decode b_W_crash 14 = .ok (.lconst 0, 1) := by decide +kernel
theorem d_W_crash_15 : decode b_W_crash 15 = .ok (.lastore, 1) := by decide +kernel
theorem d_W_crash_16 : decode b_W_crash 16 = .ok (.goto 9, 3) := by decide +kernel
theorem d_W_crash_19 : decode b_W_crash 19 = .ok (.astore_n 3, 1) := by decide +kernel
theorem d_W_crash_20 : decode b_W_crash 20 = .ok (.iconst 1, 1) := by decide +kernel
theorem d_W_crash_21 : decode b_W_crash 21 = .ok (.ireturn, 1) := by decide +kernel
theorem d_W_crash_22 : decode b_W_crash 22 = .ok (.astore_n 3, 1) := by decide +kernel
theorem d_W_crash_23 : decode b_W_crash 23 = .ok (.iconst 2, 1) := by decide +kernel
theorem d_W_crash_24 : decode b_W_crash 24 = .ok (.ireturn, 1) := by decide +kernel
theorem d_W_crash_25 : decode b_W_crash 25 = .ok (.iconst 0, 1) := by decide +kernel
theorem d_W_crash_26 : decode b_W_crash 26 = .ok (.ireturn, 1) := by decide +kernel
set_option maxRecDepth 20000 in
set_option maxHeartbeats 4000000 in
theorem h_crash {D : va_G} {cI cZ cJ : ClassId} {ad : Nat → Nat} {mp : Nat} {lf : Nat → Int32} {Pb : pc_C} {gt gp gh : Nat → Int32} {Pv : pc_C} {gd : Nat → Int32} {Pq : pc_C} {rest : va_W} {A : aA} {ao : Nat} {of : Nat → Int64} (hA : AI mp A) (hC : CL mp A lf Pb gt gp gh Pv gd Pq) {v : Int32} : bC D bcl (tys3 cI cZ cJ) y_W_crash ({ frames := 8, cells := 2, slots := 12, locals := 127 }) (wS ad cI cZ mp lf (aN A) Pb gt gp gh Pv gd Pq (aCr A) ((ao, .inl (cJ, 1, .inr (.inl of))) :: rest)) [.ref (ad 0), .int (v), .ref ao] (bI (fun x ws9 => ∃ (k : Nat) (A' : aA) (lf1 : Nat → Int32) (Pb1 : pc_C) (gt1 gp1 gh1 : Nat → Int32) (Pv1 : pc_C) (gd1 : Nat → Int32) (Pq1 : pc_C) (of1 : Nat → Int64), x = nI k ∧ k ≤ 2 ∧ ((k = 0 ∧ ∃ x, OP_crash A v x A' ∧ of1 0 = x.toInt64) ∨ (k ≠ 0 ∧ OT_crash A v k ∧ A' = A)) ∧ AI mp A' ∧ CL mp A' lf1 Pb1 gt1 gp1 gh1 Pv1 gd1 Pq1 ∧ ws9 = wS ad cI cZ mp lf1 (aN A') Pb1 gt1 gp1 gh1 Pv1 gd1 Pq1 (aCr A') ((ao, .inl (cJ, 1, .inr (.inl of1))) :: rest)) bno) := by
  refine bC.of (by decide) m_W_crash.1 (Nat.le_of_ble_eq_true rfl) ?_
  intro Γ G E0
  show bV D bcl Γ 4 (wS ad cI cZ mp lf (aN A) Pb gt gp gh Pv gd Pq (aCr A) ((ao, .inl (cJ, 1, .inr (.inl of))) :: rest)) 0 0 0 [(0, .ref (ad 0)), (1, .int (v)), (2, .ref ao)] []
  refine bV.aload_n G d_W_crash_0 rfl ?_
  refine bV.iconst (v := nI 0) G d_W_crash_1 (by decide) ?_
  refine bV.aload_n G d_W_crash_2 rfl ?_
  refine bV.iload_n G d_W_crash_3 rfl ?_
  refine bV.callVit G m_S_crash bw_406 bw_407 bw_405 (k_crash hA hC (v := v) ) 0 rfl rfl rfl rfl rfl ⟨by decide, by decide⟩ ⟨by decide, by decide⟩ (Nat.le_of_ble_eq_true rfl) d_W_crash_4 (fun x9 ws9 h9 => ?_) (fun E9 ws9 h9 => ?_)
  · obtain ⟨⟨b9, hb9⟩, A', lf1, Pb1, gt1, gp1, gh1, Pv1, gd1, Pq1, hop, hA1, hC1, h9e⟩ := h9
    rw [h9e]
    refine bV.if_eq (tgt := 14) G d_W_crash_7 (by decide) (fun c0 => ?_) (fun c0 => ?_)
    · refine bV.lconst (v := 0) G d_W_crash_14 (by decide) ?_
      refine bV.lastore (ws' := wS ad cI cZ mp lf1 (aN A') Pb1 gt1 gp1 gh1 Pv1 gd1 Pq1 (aCr A') ((ao, .inl (cJ, 1, .inr (.inl (vp_updL of (nI 0).toNatClampNeg (0))))) :: rest)) G 20 2 rfl rfl (vp_in_nI (by decide) (by decide)) d_W_crash_15 rfl ?_
      refine bV.goto (tgt := 25) G d_W_crash_16 (by decide) ?_
      refine bV.iconst (v := nI 0) G d_W_crash_25 (by decide) ?_
      exact bV.iretI G E0 rfl rfl (by decide) (by decide) d_W_crash_26 ⟨0, A', lf1, Pb1, gt1, gp1, gh1, Pv1, gd1, Pq1, (vp_updL of (nI 0).toNatClampNeg (0)), rfl, by decide, Or.inl ⟨rfl, x9, hop, by rw [nI_clamp (by decide)]; exact pk_uLs.trans (by rw [c0]; rfl)⟩, hA1, hC1, rfl⟩
    · refine bV.lconst (v := 1) G d_W_crash_10 (by decide) ?_
      refine bV.goto (tgt := 15) G d_W_crash_11 (by decide) ?_
      refine bV.lastore (ws' := wS ad cI cZ mp lf1 (aN A') Pb1 gt1 gp1 gh1 Pv1 gd1 Pq1 (aCr A') ((ao, .inl (cJ, 1, .inr (.inl (vp_updL of (nI 0).toNatClampNeg (1))))) :: rest)) G 20 2 rfl rfl (vp_in_nI (by decide) (by decide)) d_W_crash_15 rfl ?_
      refine bV.goto (tgt := 25) G d_W_crash_16 (by decide) ?_
      refine bV.iconst (v := nI 0) G d_W_crash_25 (by decide) ?_
      exact bV.iretI G E0 rfl rfl (by decide) (by decide) d_W_crash_26 ⟨0, A', lf1, Pb1, gt1, gp1, gh1, Pv1, gd1, Pq1, (vp_updL of (nI 0).toNatClampNeg (1)), rfl, by decide, Or.inl ⟨rfl, x9, hop, by rw [nI_clamp (by decide)]; exact pk_uLs.trans (by rw [hb9]; cases b9; exact absurd hb9 c0; rfl)⟩, hA1, hC1, rfl⟩
  · obtain ⟨h9d, h9e⟩ := h9
    rw [h9e]
    rcases h9d with ⟨rfl, h9t⟩ | ⟨rfl, h9t⟩
    · refine bT.catch G [(0, 16, 19, 45)] (0, 16, 22, 13) [] rfl "java/lang/IllegalStateException" (by decide) (by decide) bw_107 bw_118 (fun y hy => by obtain rfl := List.mem_singleton.mp hy; exact ⟨by decide, "java/lang/IllegalArgumentException", bw_404, by decide⟩) (fun ea => ?_)
      refine bV.astore_n G (lv' := [(0, .ref (ad 0)), (1, .int (v)), (2, .ref ao), (3, .ref ea)]) d_W_crash_22 (by decide) rfl rfl ?_
      refine bV.iconst (v := nI 2) G d_W_crash_23 (by decide) ?_
      exact bV.iretI G E0 rfl rfl (by decide) (by decide) d_W_crash_24 ⟨2, A, lf, Pb, gt, gp, gh, Pv, gd, Pq, of, rfl, by decide, Or.inr ⟨by decide, h9t, rfl⟩, hA, hC, rfl⟩
    · refine bT.catch G [] (0, 16, 19, 45) [(0, 16, 22, 13)] rfl "java/lang/IllegalArgumentException" (by decide) (by decide) bw_404 bw_419 (fun y hy => by cases hy) (fun ea => ?_)
      refine bV.astore_n G (lv' := [(0, .ref (ad 0)), (1, .int (v)), (2, .ref ao), (3, .ref ea)]) d_W_crash_19 (by decide) rfl rfl ?_
      refine bV.iconst (v := nI 1) G d_W_crash_20 (by decide) ?_
      exact bV.iretI G E0 rfl rfl (by decide) (by decide) d_W_crash_21 ⟨1, A, lf, Pb, gt, gp, gh, Pv, gd, Pq, of, rfl, by decide, Or.inr ⟨by decide, h9t, rfl⟩, hA, hC, rfl⟩
theorem d_W_reopen_0 : decode b_W_reopen 0 = .ok (.aload_n 1, 1) := by decide +kernel
theorem d_W_reopen_1 : decode b_W_reopen 1 = .ok (.iconst 0, 1) := by decide +kernel
theorem d_W_reopen_2 : decode b_W_reopen 2 = .ok (.aload_n 0, 1) := by decide +kernel
theorem d_W_reopen_3 : decode b_W_reopen 3 = .ok (.invokevirtual 47, 3) := by decide +kernel
theorem d_W_reopen_6 : decode b_W_reopen 6 = .ok (.i2l, 1) := by decide +kernel
theorem d_W_reopen_7 : decode b_W_reopen 7 = .ok (.lastore, 1) := by decide +kernel
theorem d_W_reopen_8 : decode b_W_reopen 8 = .ok (.goto 6, 3) := by decide +kernel
theorem d_W_reopen_11 : decode b_W_reopen 11 = .ok (.astore_n 2, 1) := by decide +kernel
theorem d_W_reopen_12 : decode b_W_reopen 12 = .ok (.iconst 1, 1) := by decide +kernel
theorem d_W_reopen_13 : decode b_W_reopen 13 = .ok (.ireturn, 1) := by decide +kernel
theorem d_W_reopen_14 : decode b_W_reopen 14 = .ok (.iconst 0, 1) := by decide +kernel
theorem d_W_reopen_15 : decode b_W_reopen 15 = .ok (.ireturn, 1) := by decide +kernel
set_option maxRecDepth 20000 in
set_option maxHeartbeats 4000000 in
theorem h_reopen {D : va_G} {cI cZ cJ : ClassId} {ad : Nat → Nat} {mp : Nat} {lf : Nat → Int32} {Pb : pc_C} {gt gp gh : Nat → Int32} {Pv : pc_C} {gd : Nat → Int32} {Pq : pc_C} {rest : va_W} {A : aA} {ao : Nat} {of : Nat → Int64} (hA : AI mp A) (hC : CL mp A lf Pb gt gp gh Pv gd Pq)  {r : Nat} (hcut : aCr A = true → cutOk (aLg A) (aN A) r) : bC D bcl (tys3 cI cZ cJ) y_W_reopen ({ frames := 8, cells := 1, slots := 6, locals := 134 }) (wS ad cI cZ mp lf (aN A) Pb gt gp gh Pv gd Pq (aCr A) ((ao, .inl (cJ, 1, .inr (.inl of))) :: rest)) [.ref (ad 0), .ref ao] (bI (fun x ws9 => ∃ (k : Nat) (A' : aA) (lf1 : Nat → Int32) (Pb1 : pc_C) (gt1 gp1 gh1 : Nat → Int32) (Pv1 : pc_C) (gd1 : Nat → Int32) (Pq1 : pc_C) (of1 : Nat → Int64), x = nI k ∧ k ≤ 2 ∧ ((k = 0 ∧ ∃ x, OP_reopen r A x A' ∧ of1 0 = x.toInt64) ∨ (k ≠ 0 ∧ OT_reopen r A k ∧ A' = A)) ∧ AI mp A' ∧ CL mp A' lf1 Pb1 gt1 gp1 gh1 Pv1 gd1 Pq1 ∧ ws9 = wS ad cI cZ mp lf1 (aN A') Pb1 gt1 gp1 gh1 Pv1 gd1 Pq1 (aCr A') ((ao, .inl (cJ, 1, .inr (.inl of1))) :: rest)) bno) := by
  refine bC.of (by decide) m_W_reopen.1 (Nat.le_of_ble_eq_true rfl) ?_
  intro Γ G E0
  show bV D bcl Γ 3 (wS ad cI cZ mp lf (aN A) Pb gt gp gh Pv gd Pq (aCr A) ((ao, .inl (cJ, 1, .inr (.inl of))) :: rest)) 0 0 0 [(0, .ref (ad 0)), (1, .ref ao)] []
  refine bV.aload_n G d_W_reopen_0 rfl ?_
  refine bV.iconst (v := nI 0) G d_W_reopen_1 (by decide) ?_
  refine bV.aload_n G d_W_reopen_2 rfl ?_
  refine bV.callVit G m_S_reopen bw_449 bw_450 bw_448 (k_reopen hA hC  (r := r) hcut) 0 rfl rfl rfl rfl rfl ⟨by decide, by decide⟩ ⟨by decide, by decide⟩ (Nat.le_of_ble_eq_true rfl) d_W_reopen_3 (fun x9 ws9 h9 => ?_) (fun E9 ws9 h9 => ?_)
  · obtain ⟨A', lf1, Pb1, gt1, gp1, gh1, Pv1, gd1, Pq1, hop, hA1, hC1, h9e⟩ := h9
    rw [h9e]
    refine bV.i2l G d_W_reopen_6 ?_
    refine bV.lastore (ws' := wS ad cI cZ mp lf1 (aN A') Pb1 gt1 gp1 gh1 Pv1 gd1 Pq1 (aCr A') ((ao, .inl (cJ, 1, .inr (.inl (vp_updL of (nI 0).toNatClampNeg (x9.toInt64))))) :: rest)) G 20 2 rfl rfl (vp_in_nI (by decide) (by decide)) d_W_reopen_7 rfl ?_
    refine bV.goto (tgt := 14) G d_W_reopen_8 (by decide) ?_
    refine bV.iconst (v := nI 0) G d_W_reopen_14 (by decide) ?_
    exact bV.iretI G E0 rfl rfl (by decide) (by decide) d_W_reopen_15 ⟨0, A', lf1, Pb1, gt1, gp1, gh1, Pv1, gd1, Pq1, (vp_updL of (nI 0).toNatClampNeg (x9.toInt64)), rfl, by decide, Or.inl ⟨rfl, x9, hop, by rw [nI_clamp (by decide)]; exact pk_uLs.trans rfl⟩, hA1, hC1, rfl⟩
  · obtain ⟨⟨rfl, h9t⟩, h9e⟩ := h9
    rw [h9e]
    refine bT.catch G [] (0, 8, 11, 13) [] rfl "java/lang/IllegalStateException" (by decide) (by decide) bw_107 bw_118 (fun y hy => by cases hy) (fun ea => ?_)
    refine bV.astore_n G (lv' := [(0, .ref (ad 0)), (1, .ref ao), (2, .ref ea)]) d_W_reopen_11 (by decide) rfl rfl ?_
    refine bV.iconst (v := nI 1) G d_W_reopen_12 (by decide) ?_
    exact bV.iretI G E0 rfl rfl (by decide) (by decide) d_W_reopen_13 ⟨1, A, lf, Pb, gt, gp, gh, Pv, gd, Pq, of, rfl, by decide, Or.inr ⟨by decide, h9t, rfl⟩, hA, hC, rfl⟩
theorem d_W_poke_0 : decode b_W_poke 0 = .ok (.aload 4, 2) := by decide +kernel
theorem d_W_poke_2 : decode b_W_poke 2 = .ok (.iconst 0, 1) := by decide +kernel
theorem d_W_poke_3 : decode b_W_poke 3 = .ok (.aload_n 0, 1) := by decide +kernel
theorem d_W_poke_4 : decode b_W_poke 4 = .ok (.iload_n 1, 1) := by decide +kernel
theorem d_W_poke_5 : decode b_W_poke 5 = .ok (.iload_n 2, 1) := by decide +kernel
theorem d_W_poke_6 : decode b_W_poke 6 = .ok (.iload_n 3, 1) := by decide +kernel
theorem d_W_poke_7 : decode b_W_poke 7 = .ok (.invokevirtual 50, 3) := by decide +kernel
theorem d_W_poke_10 : decode b_W_poke 10 = .ok (.ifCond .eq 7, 3) := by decide +kernel
theorem d_W_poke_13 : decode b_W_poke 13 = .ok (.lconst 1, 1) := by decide +kernel
theorem d_W_poke_14 : decode b_W_poke 14 = .ok (.goto 4, 3) := by decide +kernel
theorem d_W_poke_17 : decode b_W_poke 17 = .ok (.lconst 0, 1) := by decide +kernel
theorem d_W_poke_18 : decode b_W_poke 18 = .ok (.lastore, 1) := by decide +kernel
theorem d_W_poke_19 : decode b_W_poke 19 = .ok (.goto 11, 3) := by decide +kernel
theorem d_W_poke_22 : decode b_W_poke 22 = .ok (.astore 5, 2) := by decide +kernel
theorem d_W_poke_24 : decode b_W_poke 24 = .ok (.iconst 1, 1) := by decide +kernel
theorem d_W_poke_25 : decode b_W_poke 25 = .ok (.ireturn, 1) := by decide +kernel
theorem d_W_poke_26 : decode b_W_poke 26 = .ok (.astore 5, 2) := by decide +kernel
theorem d_W_poke_28 : decode b_W_poke 28 = .ok (.iconst 2, 1) := by decide +kernel
theorem d_W_poke_29 : decode b_W_poke 29 = .ok (.ireturn, 1) := by decide +kernel
theorem d_W_poke_30 : decode b_W_poke 30 = .ok (.iconst 0, 1) := by decide +kernel
theorem d_W_poke_31 : decode b_W_poke 31 = .ok (.ireturn, 1) := by decide +kernel
set_option maxRecDepth 20000 in
set_option maxHeartbeats 4000000 in
theorem h_poke {D : va_G} {cI cZ cJ : ClassId} {ad : Nat → Nat} {mp : Nat} {lf : Nat → Int32} {Pb : pc_C} {gt gp gh : Nat → Int32} {Pv : pc_C} {gd : Nat → Int32} {Pq : pc_C} {rest : va_W} {A : aA} {ao : Nat} {of : Nat → Int64} (hA : AI mp A) (hC : CL mp A lf Pb gt gp gh Pv gd Pq) {v u mm : Int32} : bC D bcl (tys3 cI cZ cJ) y_W_poke ({ frames := 8, cells := 2, slots := 12, locals := 131 }) (wS ad cI cZ mp lf (aN A) Pb gt gp gh Pv gd Pq (aCr A) ((ao, .inl (cJ, 1, .inr (.inl of))) :: rest)) [.ref (ad 0), .int (v), .int (u), .int (mm), .ref ao] (bI (fun x ws9 => ∃ (k : Nat) (A' : aA) (lf1 : Nat → Int32) (Pb1 : pc_C) (gt1 gp1 gh1 : Nat → Int32) (Pv1 : pc_C) (gd1 : Nat → Int32) (Pq1 : pc_C) (of1 : Nat → Int64), x = nI k ∧ k ≤ 2 ∧ ((k = 0 ∧ ∃ x, OP_poke A v u mm x A' ∧ of1 0 = x.toInt64) ∨ (k ≠ 0 ∧ OT_poke A v u mm k ∧ A' = A)) ∧ AI mp A' ∧ CL mp A' lf1 Pb1 gt1 gp1 gh1 Pv1 gd1 Pq1 ∧ ws9 = wS ad cI cZ mp lf1 (aN A') Pb1 gt1 gp1 gh1 Pv1 gd1 Pq1 (aCr A') ((ao, .inl (cJ, 1, .inr (.inl of1))) :: rest)) bno) := by
  refine bC.of (by decide) m_W_poke.1 (Nat.le_of_ble_eq_true rfl) ?_
  intro Γ G E0
  show bV D bcl Γ 6 (wS ad cI cZ mp lf (aN A) Pb gt gp gh Pv gd Pq (aCr A) ((ao, .inl (cJ, 1, .inr (.inl of))) :: rest)) 0 0 0 [(0, .ref (ad 0)), (1, .int (v)), (2, .int (u)), (3, .int (mm)), (4, .ref ao)] []
  refine bV.aload G d_W_poke_0 rfl ?_
  refine bV.iconst (v := nI 0) G d_W_poke_2 (by decide) ?_
  refine bV.aload_n G d_W_poke_3 rfl ?_
  refine bV.iload_n G d_W_poke_4 rfl ?_
  refine bV.iload_n G d_W_poke_5 rfl ?_
  refine bV.iload_n G d_W_poke_6 rfl ?_
  refine bV.callVit G m_S_poke bw_483 bw_484 bw_482 (k_poke hA hC (v := v) (u := u) (mm := mm) ) 0 rfl rfl rfl rfl rfl ⟨by decide, by decide⟩ ⟨by decide, by decide⟩ (Nat.le_of_ble_eq_true rfl) d_W_poke_7 (fun x9 ws9 h9 => ?_) (fun E9 ws9 h9 => ?_)
  · obtain ⟨⟨b9, hb9⟩, A', lf1, Pb1, gt1, gp1, gh1, Pv1, gd1, Pq1, hop, hA1, hC1, h9e⟩ := h9
    rw [h9e]
    refine bV.if_eq (tgt := 17) G d_W_poke_10 (by decide) (fun c0 => ?_) (fun c0 => ?_)
    · refine bV.lconst (v := 0) G d_W_poke_17 (by decide) ?_
      refine bV.lastore (ws' := wS ad cI cZ mp lf1 (aN A') Pb1 gt1 gp1 gh1 Pv1 gd1 Pq1 (aCr A') ((ao, .inl (cJ, 1, .inr (.inl (vp_updL of (nI 0).toNatClampNeg (0))))) :: rest)) G 20 2 rfl rfl (vp_in_nI (by decide) (by decide)) d_W_poke_18 rfl ?_
      refine bV.goto (tgt := 30) G d_W_poke_19 (by decide) ?_
      refine bV.iconst (v := nI 0) G d_W_poke_30 (by decide) ?_
      exact bV.iretI G E0 rfl rfl (by decide) (by decide) d_W_poke_31 ⟨0, A', lf1, Pb1, gt1, gp1, gh1, Pv1, gd1, Pq1, (vp_updL of (nI 0).toNatClampNeg (0)), rfl, by decide, Or.inl ⟨rfl, x9, hop, by rw [nI_clamp (by decide)]; exact pk_uLs.trans (by rw [c0]; rfl)⟩, hA1, hC1, rfl⟩
    · refine bV.lconst (v := 1) G d_W_poke_13 (by decide) ?_
      refine bV.goto (tgt := 18) G d_W_poke_14 (by decide) ?_
      refine bV.lastore (ws' := wS ad cI cZ mp lf1 (aN A') Pb1 gt1 gp1 gh1 Pv1 gd1 Pq1 (aCr A') ((ao, .inl (cJ, 1, .inr (.inl (vp_updL of (nI 0).toNatClampNeg (1))))) :: rest)) G 20 2 rfl rfl (vp_in_nI (by decide) (by decide)) d_W_poke_18 rfl ?_
      refine bV.goto (tgt := 30) G d_W_poke_19 (by decide) ?_
      refine bV.iconst (v := nI 0) G d_W_poke_30 (by decide) ?_
      exact bV.iretI G E0 rfl rfl (by decide) (by decide) d_W_poke_31 ⟨0, A', lf1, Pb1, gt1, gp1, gh1, Pv1, gd1, Pq1, (vp_updL of (nI 0).toNatClampNeg (1)), rfl, by decide, Or.inl ⟨rfl, x9, hop, by rw [nI_clamp (by decide)]; exact pk_uLs.trans (by rw [hb9]; cases b9; exact absurd hb9 c0; rfl)⟩, hA1, hC1, rfl⟩
  · obtain ⟨h9d, h9e⟩ := h9
    rw [h9e]
    rcases h9d with ⟨rfl, h9t⟩ | ⟨rfl, h9t⟩
    · refine bT.catch G [(0, 19, 22, 26)] (0, 19, 26, 13) [] rfl "java/lang/IllegalStateException" (by decide) (by decide) bw_107 bw_118 (fun y hy => by obtain rfl := List.mem_singleton.mp hy; exact ⟨by decide, "java/lang/IndexOutOfBoundsException", bw_279, by decide⟩) (fun ea => ?_)
      refine bV.astore G (lv' := [(0, .ref (ad 0)), (1, .int (v)), (2, .int (u)), (3, .int (mm)), (4, .ref ao), (5, .ref ea)]) d_W_poke_26 (by decide) rfl rfl ?_
      refine bV.iconst (v := nI 2) G d_W_poke_28 (by decide) ?_
      exact bV.iretI G E0 rfl rfl (by decide) (by decide) d_W_poke_29 ⟨2, A, lf, Pb, gt, gp, gh, Pv, gd, Pq, of, rfl, by decide, Or.inr ⟨by decide, h9t, rfl⟩, hA, hC, rfl⟩
    · refine bT.catch G [] (0, 19, 22, 26) [(0, 19, 26, 13)] rfl "java/lang/IndexOutOfBoundsException" (by decide) (by decide) bw_279 bw_294 (fun y hy => by cases hy) (fun ea => ?_)
      refine bV.astore G (lv' := [(0, .ref (ad 0)), (1, .int (v)), (2, .int (u)), (3, .int (mm)), (4, .ref ao), (5, .ref ea)]) d_W_poke_22 (by decide) rfl rfl ?_
      refine bV.iconst (v := nI 1) G d_W_poke_24 (by decide) ?_
      exact bV.iretI G E0 rfl rfl (by decide) (by decide) d_W_poke_25 ⟨1, A, lf, Pb, gt, gp, gh, Pv, gd, Pq, of, rfl, by decide, Or.inr ⟨by decide, h9t, rfl⟩, hA, hC, rfl⟩
theorem d_W_badAt_0 : decode b_W_badAt 0 = .ok (.aload_n 1, 1) := by decide +kernel
theorem d_W_badAt_1 : decode b_W_badAt 1 = .ok (.iconst 0, 1) := by decide +kernel
theorem d_W_badAt_2 : decode b_W_badAt 2 = .ok (.aload_n 0, 1) := by decide +kernel
theorem d_W_badAt_3 : decode b_W_badAt 3 = .ok (.invokevirtual 54, 3) := by decide +kernel
theorem d_W_badAt_6 : decode b_W_badAt 6 = .ok (.i2l, 1) := by decide +kernel
theorem d_W_badAt_7 : decode b_W_badAt 7 = .ok (.lastore, 1) := by decide +kernel
theorem d_W_badAt_8 : decode b_W_badAt 8 = .ok (.goto 6, 3) := by decide +kernel
theorem d_W_badAt_11 : decode b_W_badAt 11 = .ok (.astore_n 2, 1) := by decide +kernel
theorem d_W_badAt_12 : decode b_W_badAt 12 = .ok (.iconst 1, 1) := by decide +kernel
theorem d_W_badAt_13 : decode b_W_badAt 13 = .ok (.ireturn, 1) := by decide +kernel
theorem d_W_badAt_14 : decode b_W_badAt 14 = .ok (.iconst 0, 1) := by decide +kernel
theorem d_W_badAt_15 : decode b_W_badAt 15 = .ok (.ireturn, 1) := by decide +kernel
set_option maxRecDepth 20000 in
set_option maxHeartbeats 4000000 in
theorem h_badAt {D : va_G} {cI cZ cJ : ClassId} {ad : Nat → Nat} {mp : Nat} {lf : Nat → Int32} {Pb : pc_C} {gt gp gh : Nat → Int32} {Pv : pc_C} {gd : Nat → Int32} {Pq : pc_C} {rest : va_W} {A : aA} {ao : Nat} {of : Nat → Int64} (hA : AI mp A) (hC : CL mp A lf Pb gt gp gh Pv gd Pq)  : bC D bcl (tys3 cI cZ cJ) y_W_badAt ({ frames := 8, cells := 1, slots := 6, locals := 125 }) (wS ad cI cZ mp lf (aN A) Pb gt gp gh Pv gd Pq (aCr A) ((ao, .inl (cJ, 1, .inr (.inl of))) :: rest)) [.ref (ad 0), .ref ao] (bI (fun x ws9 => ∃ (k : Nat) (A' : aA) (lf1 : Nat → Int32) (Pb1 : pc_C) (gt1 gp1 gh1 : Nat → Int32) (Pv1 : pc_C) (gd1 : Nat → Int32) (Pq1 : pc_C) (of1 : Nat → Int64), x = nI k ∧ k ≤ 2 ∧ ((k = 0 ∧ ∃ x, OP_badAt A x A' ∧ of1 0 = x.toInt64) ∨ (k ≠ 0 ∧ OT_badAt A k ∧ A' = A)) ∧ AI mp A' ∧ CL mp A' lf1 Pb1 gt1 gp1 gh1 Pv1 gd1 Pq1 ∧ ws9 = wS ad cI cZ mp lf1 (aN A') Pb1 gt1 gp1 gh1 Pv1 gd1 Pq1 (aCr A') ((ao, .inl (cJ, 1, .inr (.inl of1))) :: rest)) bno) := by
  refine bC.of (by decide) m_W_badAt.1 (Nat.le_of_ble_eq_true rfl) ?_
  intro Γ G E0
  show bV D bcl Γ 3 (wS ad cI cZ mp lf (aN A) Pb gt gp gh Pv gd Pq (aCr A) ((ao, .inl (cJ, 1, .inr (.inl of))) :: rest)) 0 0 0 [(0, .ref (ad 0)), (1, .ref ao)] []
  refine bV.aload_n G d_W_badAt_0 rfl ?_
  refine bV.iconst (v := nI 0) G d_W_badAt_1 (by decide) ?_
  refine bV.aload_n G d_W_badAt_2 rfl ?_
  refine bV.callVit G m_S_badAt bw_499 bw_500 bw_498 (k_badAt hA hC  ) 0 rfl rfl rfl rfl rfl ⟨by decide, by decide⟩ ⟨by decide, by decide⟩ (Nat.le_of_ble_eq_true rfl) d_W_badAt_3 (fun x9 ws9 h9 => ?_) (fun E9 ws9 h9 => ?_)
  · obtain ⟨A', lf1, Pb1, gt1, gp1, gh1, Pv1, gd1, Pq1, hop, hA1, hC1, h9e⟩ := h9
    rw [h9e]
    refine bV.i2l G d_W_badAt_6 ?_
    refine bV.lastore (ws' := wS ad cI cZ mp lf1 (aN A') Pb1 gt1 gp1 gh1 Pv1 gd1 Pq1 (aCr A') ((ao, .inl (cJ, 1, .inr (.inl (vp_updL of (nI 0).toNatClampNeg (x9.toInt64))))) :: rest)) G 20 2 rfl rfl (vp_in_nI (by decide) (by decide)) d_W_badAt_7 rfl ?_
    refine bV.goto (tgt := 14) G d_W_badAt_8 (by decide) ?_
    refine bV.iconst (v := nI 0) G d_W_badAt_14 (by decide) ?_
    exact bV.iretI G E0 rfl rfl (by decide) (by decide) d_W_badAt_15 ⟨0, A', lf1, Pb1, gt1, gp1, gh1, Pv1, gd1, Pq1, (vp_updL of (nI 0).toNatClampNeg (x9.toInt64)), rfl, by decide, Or.inl ⟨rfl, x9, hop, by rw [nI_clamp (by decide)]; exact pk_uLs.trans rfl⟩, hA1, hC1, rfl⟩
  · obtain ⟨⟨rfl, h9t⟩, h9e⟩ := h9
    rw [h9e]
    refine bT.catch G [] (0, 8, 11, 13) [] rfl "java/lang/IllegalStateException" (by decide) (by decide) bw_107 bw_118 (fun y hy => by cases hy) (fun ea => ?_)
    refine bV.astore_n G (lv' := [(0, .ref (ad 0)), (1, .ref ao), (2, .ref ea)]) d_W_badAt_11 (by decide) rfl rfl ?_
    refine bV.iconst (v := nI 1) G d_W_badAt_12 (by decide) ?_
    exact bV.iretI G E0 rfl rfl (by decide) (by decide) d_W_badAt_13 ⟨1, A, lf, Pb, gt, gp, gh, Pv, gd, Pq, of, rfl, by decide, Or.inr ⟨by decide, h9t, rfl⟩, hA, hC, rfl⟩
theorem d_W_packByte_0 : decode b_W_packByte 0 = .ok (.aload_n 3, 1) := by decide +kernel
theorem d_W_packByte_1 : decode b_W_packByte 1 = .ok (.iconst 0, 1) := by decide +kernel
theorem d_W_packByte_2 : decode b_W_packByte 2 = .ok (.aload_n 0, 1) := by decide +kernel
theorem d_W_packByte_3 : decode b_W_packByte 3 = .ok (.iload_n 1, 1) := by decide +kernel
theorem d_W_packByte_4 : decode b_W_packByte 4 = .ok (.iload_n 2, 1) := by decide +kernel
theorem d_W_packByte_5 : decode b_W_packByte 5 = .ok (.invokevirtual 57, 3) := by decide +kernel
theorem d_W_packByte_8 : decode b_W_packByte 8 = .ok (.i2l, 1) := by decide +kernel
theorem d_W_packByte_9 : decode b_W_packByte 9 = .ok (.lastore, 1) := by decide +kernel
theorem d_W_packByte_10 : decode b_W_packByte 10 = .ok (.goto 11, 3) := by decide +kernel
theorem d_W_packByte_13 : decode b_W_packByte 13 = .ok (.astore 4, 2) := by decide +kernel
theorem d_W_packByte_15 : decode b_W_packByte 15 = .ok (.iconst 1, 1) := by decide +kernel
theorem d_W_packByte_16 : decode b_W_packByte 16 = .ok (.ireturn, 1) := by decide +kernel
theorem d_W_packByte_17 : decode b_W_packByte 17 = .ok (.astore 4, 2) := by decide +kernel
theorem d_W_packByte_19 : decode b_W_packByte 19 = .ok (.iconst 2, 1) := by decide +kernel
theorem d_W_packByte_20 : decode b_W_packByte 20 = .ok (.ireturn, 1) := by decide +kernel
theorem d_W_packByte_21 : decode b_W_packByte 21 = .ok (.iconst 0, 1) := by decide +kernel
theorem d_W_packByte_22 : decode b_W_packByte 22 = .ok (.ireturn, 1) := by decide +kernel
set_option maxRecDepth 20000 in
set_option maxHeartbeats 4000000 in
theorem h_packByte {D : va_G} {cI cZ cJ : ClassId} {ad : Nat → Nat} {mp : Nat} {lf : Nat → Int32} {Pb : pc_C} {gt gp gh : Nat → Int32} {Pv : pc_C} {gd : Nat → Int32} {Pq : pc_C} {rest : va_W} {A : aA} {ao : Nat} {of : Nat → Int64} (hA : AI mp A) (hC : CL mp A lf Pb gt gp gh Pv gd Pq) {v u : Int32} : bC D bcl (tys3 cI cZ cJ) y_W_packByte ({ frames := 8, cells := 2, slots := 12, locals := 128 }) (wS ad cI cZ mp lf (aN A) Pb gt gp gh Pv gd Pq (aCr A) ((ao, .inl (cJ, 1, .inr (.inl of))) :: rest)) [.ref (ad 0), .int (v), .int (u), .ref ao] (bI (fun x ws9 => ∃ (k : Nat) (A' : aA) (lf1 : Nat → Int32) (Pb1 : pc_C) (gt1 gp1 gh1 : Nat → Int32) (Pv1 : pc_C) (gd1 : Nat → Int32) (Pq1 : pc_C) (of1 : Nat → Int64), x = nI k ∧ k ≤ 2 ∧ ((k = 0 ∧ ∃ x, OP_packByte A v u x A' ∧ of1 0 = x.toInt64) ∨ (k ≠ 0 ∧ OT_packByte A v u k ∧ A' = A)) ∧ AI mp A' ∧ CL mp A' lf1 Pb1 gt1 gp1 gh1 Pv1 gd1 Pq1 ∧ ws9 = wS ad cI cZ mp lf1 (aN A') Pb1 gt1 gp1 gh1 Pv1 gd1 Pq1 (aCr A') ((ao, .inl (cJ, 1, .inr (.inl of1))) :: rest)) bno) := by
  refine bC.of (by decide) m_W_packByte.1 (Nat.le_of_ble_eq_true rfl) ?_
  intro Γ G E0
  show bV D bcl Γ 5 (wS ad cI cZ mp lf (aN A) Pb gt gp gh Pv gd Pq (aCr A) ((ao, .inl (cJ, 1, .inr (.inl of))) :: rest)) 0 0 0 [(0, .ref (ad 0)), (1, .int (v)), (2, .int (u)), (3, .ref ao)] []
  refine bV.aload_n G d_W_packByte_0 rfl ?_
  refine bV.iconst (v := nI 0) G d_W_packByte_1 (by decide) ?_
  refine bV.aload_n G d_W_packByte_2 rfl ?_
  refine bV.iload_n G d_W_packByte_3 rfl ?_
  refine bV.iload_n G d_W_packByte_4 rfl ?_
  refine bV.callVit G m_S_packByte bw_510 bw_511 bw_509 (k_packByte hA hC (v := v) (u := u) ) 0 rfl rfl rfl rfl rfl ⟨by decide, by decide⟩ ⟨by decide, by decide⟩ (Nat.le_of_ble_eq_true rfl) d_W_packByte_5 (fun x9 ws9 h9 => ?_) (fun E9 ws9 h9 => ?_)
  · obtain ⟨A', lf1, Pb1, gt1, gp1, gh1, Pv1, gd1, Pq1, hop, hA1, hC1, h9e⟩ := h9
    rw [h9e]
    refine bV.i2l G d_W_packByte_8 ?_
    refine bV.lastore (ws' := wS ad cI cZ mp lf1 (aN A') Pb1 gt1 gp1 gh1 Pv1 gd1 Pq1 (aCr A') ((ao, .inl (cJ, 1, .inr (.inl (vp_updL of (nI 0).toNatClampNeg (x9.toInt64))))) :: rest)) G 20 2 rfl rfl (vp_in_nI (by decide) (by decide)) d_W_packByte_9 rfl ?_
    refine bV.goto (tgt := 21) G d_W_packByte_10 (by decide) ?_
    refine bV.iconst (v := nI 0) G d_W_packByte_21 (by decide) ?_
    exact bV.iretI G E0 rfl rfl (by decide) (by decide) d_W_packByte_22 ⟨0, A', lf1, Pb1, gt1, gp1, gh1, Pv1, gd1, Pq1, (vp_updL of (nI 0).toNatClampNeg (x9.toInt64)), rfl, by decide, Or.inl ⟨rfl, x9, hop, by rw [nI_clamp (by decide)]; exact pk_uLs.trans rfl⟩, hA1, hC1, rfl⟩
  · obtain ⟨h9d, h9e⟩ := h9
    rw [h9e]
    rcases h9d with ⟨rfl, h9t⟩ | ⟨rfl, h9t⟩
    · refine bT.catch G [(0, 10, 13, 26)] (0, 10, 17, 13) [] rfl "java/lang/IllegalStateException" (by decide) (by decide) bw_107 bw_118 (fun y hy => by obtain rfl := List.mem_singleton.mp hy; exact ⟨by decide, "java/lang/IndexOutOfBoundsException", bw_279, by decide⟩) (fun ea => ?_)
      refine bV.astore G (lv' := [(0, .ref (ad 0)), (1, .int (v)), (2, .int (u)), (3, .ref ao), (4, .ref ea)]) d_W_packByte_17 (by decide) rfl rfl ?_
      refine bV.iconst (v := nI 2) G d_W_packByte_19 (by decide) ?_
      exact bV.iretI G E0 rfl rfl (by decide) (by decide) d_W_packByte_20 ⟨2, A, lf, Pb, gt, gp, gh, Pv, gd, Pq, of, rfl, by decide, Or.inr ⟨by decide, h9t, rfl⟩, hA, hC, rfl⟩
    · refine bT.catch G [] (0, 10, 13, 26) [(0, 10, 17, 13)] rfl "java/lang/IndexOutOfBoundsException" (by decide) (by decide) bw_279 bw_294 (fun y hy => by cases hy) (fun ea => ?_)
      refine bV.astore G (lv' := [(0, .ref (ad 0)), (1, .int (v)), (2, .int (u)), (3, .ref ao), (4, .ref ea)]) d_W_packByte_13 (by decide) rfl rfl ?_
      refine bV.iconst (v := nI 1) G d_W_packByte_15 (by decide) ?_
      exact bV.iretI G E0 rfl rfl (by decide) (by decide) d_W_packByte_16 ⟨1, A, lf, Pb, gt, gp, gh, Pv, gd, Pq, of, rfl, by decide, Or.inr ⟨by decide, h9t, rfl⟩, hA, hC, rfl⟩
theorem d_W_digest_0 : decode b_W_digest 0 = .ok (.aload_n 3, 1) := by decide +kernel
theorem d_W_digest_1 : decode b_W_digest 1 = .ok (.iconst 0, 1) := by decide +kernel
theorem d_W_digest_2 : decode b_W_digest 2 = .ok (.aload_n 0, 1) := by decide +kernel
theorem d_W_digest_3 : decode b_W_digest 3 = .ok (.iload_n 1, 1) := by decide +kernel
theorem d_W_digest_4 : decode b_W_digest 4 = .ok (.iload_n 2, 1) := by decide +kernel
theorem d_W_digest_5 : decode b_W_digest 5 = .ok (.invokevirtual 60, 3) := by decide +kernel
theorem d_W_digest_8 : decode b_W_digest 8 = .ok (.i2l, 1) := by decide +kernel
theorem d_W_digest_9 : decode b_W_digest 9 = .ok (.lastore, 1) := by decide +kernel
theorem d_W_digest_10 : decode b_W_digest 10 = .ok (.goto 11, 3) := by decide +kernel
theorem d_W_digest_13 : decode b_W_digest 13 = .ok (.astore 4, 2) := by decide +kernel
theorem d_W_digest_15 : decode b_W_digest 15 = .ok (.iconst 1, 1) := by decide +kernel
theorem d_W_digest_16 : decode b_W_digest 16 = .ok (.ireturn, 1) := by decide +kernel
theorem d_W_digest_17 : decode b_W_digest 17 = .ok (.astore 4, 2) := by decide +kernel
theorem d_W_digest_19 : decode b_W_digest 19 = .ok (.iconst 2, 1) := by decide +kernel
theorem d_W_digest_20 : decode b_W_digest 20 = .ok (.ireturn, 1) := by decide +kernel
theorem d_W_digest_21 : decode b_W_digest 21 = .ok (.iconst 0, 1) := by decide +kernel
theorem d_W_digest_22 : decode b_W_digest 22 = .ok (.ireturn, 1) := by decide +kernel
set_option maxRecDepth 20000 in
set_option maxHeartbeats 4000000 in
theorem h_digest {D : va_G} {cI cZ cJ : ClassId} {ad : Nat → Nat} {mp : Nat} {lf : Nat → Int32} {Pb : pc_C} {gt gp gh : Nat → Int32} {Pv : pc_C} {gd : Nat → Int32} {Pq : pc_C} {rest : va_W} {A : aA} {ao : Nat} {of : Nat → Int64} (hA : AI mp A) (hC : CL mp A lf Pb gt gp gh Pv gd Pq) {v u : Int32} : bC D bcl (tys3 cI cZ cJ) y_W_digest ({ frames := 8, cells := 3, slots := 18, locals := 128 }) (wS ad cI cZ mp lf (aN A) Pb gt gp gh Pv gd Pq (aCr A) ((ao, .inl (cJ, 1, .inr (.inl of))) :: rest)) [.ref (ad 0), .int (v), .int (u), .ref ao] (bI (fun x ws9 => ∃ (k : Nat) (A' : aA) (lf1 : Nat → Int32) (Pb1 : pc_C) (gt1 gp1 gh1 : Nat → Int32) (Pv1 : pc_C) (gd1 : Nat → Int32) (Pq1 : pc_C) (of1 : Nat → Int64), x = nI k ∧ k ≤ 2 ∧ ((k = 0 ∧ ∃ x, OP_digest A v u x A' ∧ of1 0 = x.toInt64) ∨ (k ≠ 0 ∧ OT_digest A v u k ∧ A' = A)) ∧ AI mp A' ∧ CL mp A' lf1 Pb1 gt1 gp1 gh1 Pv1 gd1 Pq1 ∧ ws9 = wS ad cI cZ mp lf1 (aN A') Pb1 gt1 gp1 gh1 Pv1 gd1 Pq1 (aCr A') ((ao, .inl (cJ, 1, .inr (.inl of1))) :: rest)) bno) := by
  refine bC.of (by decide) m_W_digest.1 (Nat.le_of_ble_eq_true rfl) ?_
  intro Γ G E0
  show bV D bcl Γ 5 (wS ad cI cZ mp lf (aN A) Pb gt gp gh Pv gd Pq (aCr A) ((ao, .inl (cJ, 1, .inr (.inl of))) :: rest)) 0 0 0 [(0, .ref (ad 0)), (1, .int (v)), (2, .int (u)), (3, .ref ao)] []
  refine bV.aload_n G d_W_digest_0 rfl ?_
  refine bV.iconst (v := nI 0) G d_W_digest_1 (by decide) ?_
  refine bV.aload_n G d_W_digest_2 rfl ?_
  refine bV.iload_n G d_W_digest_3 rfl ?_
  refine bV.iload_n G d_W_digest_4 rfl ?_
  refine bV.callVit G m_S_digest bw_517 bw_518 bw_516 (k_digest hA hC (v := v) (u := u) ) 0 rfl rfl rfl rfl rfl ⟨by decide, by decide⟩ ⟨by decide, by decide⟩ (Nat.le_of_ble_eq_true rfl) d_W_digest_5 (fun x9 ws9 h9 => ?_) (fun E9 ws9 h9 => ?_)
  · obtain ⟨A', lf1, Pb1, gt1, gp1, gh1, Pv1, gd1, Pq1, hop, hA1, hC1, h9e⟩ := h9
    rw [h9e]
    refine bV.i2l G d_W_digest_8 ?_
    refine bV.lastore (ws' := wS ad cI cZ mp lf1 (aN A') Pb1 gt1 gp1 gh1 Pv1 gd1 Pq1 (aCr A') ((ao, .inl (cJ, 1, .inr (.inl (vp_updL of (nI 0).toNatClampNeg (x9.toInt64))))) :: rest)) G 20 2 rfl rfl (vp_in_nI (by decide) (by decide)) d_W_digest_9 rfl ?_
    refine bV.goto (tgt := 21) G d_W_digest_10 (by decide) ?_
    refine bV.iconst (v := nI 0) G d_W_digest_21 (by decide) ?_
    exact bV.iretI G E0 rfl rfl (by decide) (by decide) d_W_digest_22 ⟨0, A', lf1, Pb1, gt1, gp1, gh1, Pv1, gd1, Pq1, (vp_updL of (nI 0).toNatClampNeg (x9.toInt64)), rfl, by decide, Or.inl ⟨rfl, x9, hop, by rw [nI_clamp (by decide)]; exact pk_uLs.trans rfl⟩, hA1, hC1, rfl⟩
  · obtain ⟨h9d, h9e⟩ := h9
    rw [h9e]
    rcases h9d with ⟨rfl, h9t⟩ | ⟨rfl, h9t⟩
    · refine bT.catch G [(0, 10, 13, 26)] (0, 10, 17, 13) [] rfl "java/lang/IllegalStateException" (by decide) (by decide) bw_107 bw_118 (fun y hy => by obtain rfl := List.mem_singleton.mp hy; exact ⟨by decide, "java/lang/IndexOutOfBoundsException", bw_279, by decide⟩) (fun ea => ?_)
      refine bV.astore G (lv' := [(0, .ref (ad 0)), (1, .int (v)), (2, .int (u)), (3, .ref ao), (4, .ref ea)]) d_W_digest_17 (by decide) rfl rfl ?_
      refine bV.iconst (v := nI 2) G d_W_digest_19 (by decide) ?_
      exact bV.iretI G E0 rfl rfl (by decide) (by decide) d_W_digest_20 ⟨2, A, lf, Pb, gt, gp, gh, Pv, gd, Pq, of, rfl, by decide, Or.inr ⟨by decide, h9t, rfl⟩, hA, hC, rfl⟩
    · refine bT.catch G [] (0, 10, 13, 26) [(0, 10, 17, 13)] rfl "java/lang/IndexOutOfBoundsException" (by decide) (by decide) bw_279 bw_294 (fun y hy => by cases hy) (fun ea => ?_)
      refine bV.astore G (lv' := [(0, .ref (ad 0)), (1, .int (v)), (2, .int (u)), (3, .ref ao), (4, .ref ea)]) d_W_digest_13 (by decide) rfl rfl ?_
      refine bV.iconst (v := nI 1) G d_W_digest_15 (by decide) ?_
      exact bV.iretI G E0 rfl rfl (by decide) (by decide) d_W_digest_16 ⟨1, A, lf, Pb, gt, gp, gh, Pv, gd, Pq, of, rfl, by decide, Or.inr ⟨by decide, h9t, rfl⟩, hA, hC, rfl⟩
theorem d_W_out_0 : decode b_W_out 0 = .ok (.aload_n 3, 1) := by decide +kernel
theorem d_W_out_1 : decode b_W_out 1 = .ok (.iconst 0, 1) := by decide +kernel
theorem d_W_out_2 : decode b_W_out 2 = .ok (.aload_n 0, 1) := by decide +kernel
theorem d_W_out_3 : decode b_W_out 3 = .ok (.iload_n 1, 1) := by decide +kernel
theorem d_W_out_4 : decode b_W_out 4 = .ok (.iload_n 2, 1) := by decide +kernel
theorem d_W_out_5 : decode b_W_out 5 = .ok (.invokevirtual 63, 3) := by decide +kernel
theorem d_W_out_8 : decode b_W_out 8 = .ok (.i2l, 1) := by decide +kernel
theorem d_W_out_9 : decode b_W_out 9 = .ok (.lastore, 1) := by decide +kernel
theorem d_W_out_10 : decode b_W_out 10 = .ok (.goto 11, 3) := by decide +kernel
theorem d_W_out_13 : decode b_W_out 13 = .ok (.astore 4, 2) := by decide +kernel
theorem d_W_out_15 : decode b_W_out 15 = .ok (.iconst 1, 1) := by decide +kernel
theorem d_W_out_16 : decode b_W_out 16 = .ok (.ireturn, 1) := by decide +kernel
theorem d_W_out_17 : decode b_W_out 17 = .ok (.astore 4, 2) := by decide +kernel
theorem d_W_out_19 : decode b_W_out 19 = .ok (.iconst 2, 1) := by decide +kernel
theorem d_W_out_20 : decode b_W_out 20 = .ok (.ireturn, 1) := by decide +kernel
theorem d_W_out_21 : decode b_W_out 21 = .ok (.iconst 0, 1) := by decide +kernel
theorem d_W_out_22 : decode b_W_out 22 = .ok (.ireturn, 1) := by decide +kernel
set_option maxRecDepth 20000 in
set_option maxHeartbeats 4000000 in
theorem h_out {D : va_G} {cI cZ cJ : ClassId} {ad : Nat → Nat} {mp : Nat} {lf : Nat → Int32} {Pb : pc_C} {gt gp gh : Nat → Int32} {Pv : pc_C} {gd : Nat → Int32} {Pq : pc_C} {rest : va_W} {A : aA} {ao : Nat} {of : Nat → Int64} (hA : AI mp A) (hC : CL mp A lf Pb gt gp gh Pv gd Pq) {v u : Int32} : bC D bcl (tys3 cI cZ cJ) y_W_out ({ frames := 8, cells := 3, slots := 18, locals := 132 }) (wS ad cI cZ mp lf (aN A) Pb gt gp gh Pv gd Pq (aCr A) ((ao, .inl (cJ, 1, .inr (.inl of))) :: rest)) [.ref (ad 0), .int (v), .int (u), .ref ao] (bI (fun x ws9 => ∃ (k : Nat) (A' : aA) (lf1 : Nat → Int32) (Pb1 : pc_C) (gt1 gp1 gh1 : Nat → Int32) (Pv1 : pc_C) (gd1 : Nat → Int32) (Pq1 : pc_C) (of1 : Nat → Int64), x = nI k ∧ k ≤ 2 ∧ ((k = 0 ∧ ∃ x, OP_out A v u x A' ∧ of1 0 = x.toInt64) ∨ (k ≠ 0 ∧ OT_out A v u k ∧ A' = A)) ∧ AI mp A' ∧ CL mp A' lf1 Pb1 gt1 gp1 gh1 Pv1 gd1 Pq1 ∧ ws9 = wS ad cI cZ mp lf1 (aN A') Pb1 gt1 gp1 gh1 Pv1 gd1 Pq1 (aCr A') ((ao, .inl (cJ, 1, .inr (.inl of1))) :: rest)) bno) := by
  refine bC.of (by decide) m_W_out.1 (Nat.le_of_ble_eq_true rfl) ?_
  intro Γ G E0
  show bV D bcl Γ 5 (wS ad cI cZ mp lf (aN A) Pb gt gp gh Pv gd Pq (aCr A) ((ao, .inl (cJ, 1, .inr (.inl of))) :: rest)) 0 0 0 [(0, .ref (ad 0)), (1, .int (v)), (2, .int (u)), (3, .ref ao)] []
  refine bV.aload_n G d_W_out_0 rfl ?_
  refine bV.iconst (v := nI 0) G d_W_out_1 (by decide) ?_
  refine bV.aload_n G d_W_out_2 rfl ?_
  refine bV.iload_n G d_W_out_3 rfl ?_
  refine bV.iload_n G d_W_out_4 rfl ?_
  refine bV.callVit G m_S_out bw_529 bw_530 bw_528 (k_out hA hC (v := v) (u := u) ) 0 rfl rfl rfl rfl rfl ⟨by decide, by decide⟩ ⟨by decide, by decide⟩ (Nat.le_of_ble_eq_true rfl) d_W_out_5 (fun x9 ws9 h9 => ?_) (fun E9 ws9 h9 => ?_)
  · obtain ⟨A', lf1, Pb1, gt1, gp1, gh1, Pv1, gd1, Pq1, hop, hA1, hC1, h9e⟩ := h9
    rw [h9e]
    refine bV.i2l G d_W_out_8 ?_
    refine bV.lastore (ws' := wS ad cI cZ mp lf1 (aN A') Pb1 gt1 gp1 gh1 Pv1 gd1 Pq1 (aCr A') ((ao, .inl (cJ, 1, .inr (.inl (vp_updL of (nI 0).toNatClampNeg (x9.toInt64))))) :: rest)) G 20 2 rfl rfl (vp_in_nI (by decide) (by decide)) d_W_out_9 rfl ?_
    refine bV.goto (tgt := 21) G d_W_out_10 (by decide) ?_
    refine bV.iconst (v := nI 0) G d_W_out_21 (by decide) ?_
    exact bV.iretI G E0 rfl rfl (by decide) (by decide) d_W_out_22 ⟨0, A', lf1, Pb1, gt1, gp1, gh1, Pv1, gd1, Pq1, (vp_updL of (nI 0).toNatClampNeg (x9.toInt64)), rfl, by decide, Or.inl ⟨rfl, x9, hop, by rw [nI_clamp (by decide)]; exact pk_uLs.trans rfl⟩, hA1, hC1, rfl⟩
  · obtain ⟨h9d, h9e⟩ := h9
    rw [h9e]
    rcases h9d with ⟨rfl, h9t⟩ | ⟨rfl, h9t⟩
    · refine bT.catch G [(0, 10, 13, 26)] (0, 10, 17, 13) [] rfl "java/lang/IllegalStateException" (by decide) (by decide) bw_107 bw_118 (fun y hy => by obtain rfl := List.mem_singleton.mp hy; exact ⟨by decide, "java/lang/IndexOutOfBoundsException", bw_279, by decide⟩) (fun ea => ?_)
      refine bV.astore G (lv' := [(0, .ref (ad 0)), (1, .int (v)), (2, .int (u)), (3, .ref ao), (4, .ref ea)]) d_W_out_17 (by decide) rfl rfl ?_
      refine bV.iconst (v := nI 2) G d_W_out_19 (by decide) ?_
      exact bV.iretI G E0 rfl rfl (by decide) (by decide) d_W_out_20 ⟨2, A, lf, Pb, gt, gp, gh, Pv, gd, Pq, of, rfl, by decide, Or.inr ⟨by decide, h9t, rfl⟩, hA, hC, rfl⟩
    · refine bT.catch G [] (0, 10, 13, 26) [(0, 10, 17, 13)] rfl "java/lang/IndexOutOfBoundsException" (by decide) (by decide) bw_279 bw_294 (fun y hy => by cases hy) (fun ea => ?_)
      refine bV.astore G (lv' := [(0, .ref (ad 0)), (1, .int (v)), (2, .int (u)), (3, .ref ao), (4, .ref ea)]) d_W_out_13 (by decide) rfl rfl ?_
      refine bV.iconst (v := nI 1) G d_W_out_15 (by decide) ?_
      exact bV.iretI G E0 rfl rfl (by decide) (by decide) d_W_out_16 ⟨1, A, lf, Pb, gt, gp, gh, Pv, gd, Pq, of, rfl, by decide, Or.inr ⟨by decide, h9t, rfl⟩, hA, hC, rfl⟩
theorem d_W_drop_0 : decode b_W_drop 0 = .ok (.aload_n 2, 1) := by decide +kernel
theorem d_W_drop_1 : decode b_W_drop 1 = .ok (.iconst 0, 1) := by decide +kernel
theorem d_W_drop_2 : decode b_W_drop 2 = .ok (.aload_n 0, 1) := by decide +kernel
theorem d_W_drop_3 : decode b_W_drop 3 = .ok (.iload_n 1, 1) := by decide +kernel
theorem d_W_drop_4 : decode b_W_drop 4 = .ok (.invokevirtual 66, 3) := by decide +kernel
theorem d_W_drop_7 : decode b_W_drop 7 = .ok (.ifCond .eq 7, 3) := by decide +kernel
theorem d_W_drop_10 : decode b_W_drop 10 = .ok (.lconst 1, 1) := by decide +kernel
theorem d_W_drop_11 : decode b_W_drop 11 = .ok (.goto 4, 3) := by decide +kernel
theorem d_W_drop_14 : decode b_W_drop 14 = .ok (.lconst 0, 1) := by decide +kernel
theorem d_W_drop_15 : decode b_W_drop 15 = .ok (.lastore, 1) := by decide +kernel
theorem d_W_drop_16 : decode b_W_drop 16 = .ok (.goto 9, 3) := by decide +kernel
theorem d_W_drop_19 : decode b_W_drop 19 = .ok (.astore_n 3, 1) := by decide +kernel
theorem d_W_drop_20 : decode b_W_drop 20 = .ok (.iconst 1, 1) := by decide +kernel
theorem d_W_drop_21 : decode b_W_drop 21 = .ok (.ireturn, 1) := by decide +kernel
theorem d_W_drop_22 : decode b_W_drop 22 = .ok (.astore_n 3, 1) := by decide +kernel
theorem d_W_drop_23 : decode b_W_drop 23 = .ok (.iconst 2, 1) := by decide +kernel
theorem d_W_drop_24 : decode b_W_drop 24 = .ok (.ireturn, 1) := by decide +kernel
theorem d_W_drop_25 : decode b_W_drop 25 = .ok (.iconst 0, 1) := by decide +kernel
theorem d_W_drop_26 : decode b_W_drop 26 = .ok (.ireturn, 1) := by decide +kernel
set_option maxRecDepth 20000 in
set_option maxHeartbeats 4000000 in
theorem h_drop {D : va_G} {cI cZ cJ : ClassId} {ad : Nat → Nat} {mp : Nat} {lf : Nat → Int32} {Pb : pc_C} {gt gp gh : Nat → Int32} {Pv : pc_C} {gd : Nat → Int32} {Pq : pc_C} {rest : va_W} {A : aA} {ao : Nat} {of : Nat → Int64} (hA : AI mp A) (hC : CL mp A lf Pb gt gp gh Pv gd Pq) {v : Int32} : bC D bcl (tys3 cI cZ cJ) y_W_drop ({ frames := 8, cells := 2, slots := 12, locals := 126 }) (wS ad cI cZ mp lf (aN A) Pb gt gp gh Pv gd Pq (aCr A) ((ao, .inl (cJ, 1, .inr (.inl of))) :: rest)) [.ref (ad 0), .int (v), .ref ao] (bI (fun x ws9 => ∃ (k : Nat) (A' : aA) (lf1 : Nat → Int32) (Pb1 : pc_C) (gt1 gp1 gh1 : Nat → Int32) (Pv1 : pc_C) (gd1 : Nat → Int32) (Pq1 : pc_C) (of1 : Nat → Int64), x = nI k ∧ k ≤ 2 ∧ ((k = 0 ∧ ∃ x, OP_drop A v x A' ∧ of1 0 = x.toInt64) ∨ (k ≠ 0 ∧ OT_drop A v k ∧ A' = A)) ∧ AI mp A' ∧ CL mp A' lf1 Pb1 gt1 gp1 gh1 Pv1 gd1 Pq1 ∧ ws9 = wS ad cI cZ mp lf1 (aN A') Pb1 gt1 gp1 gh1 Pv1 gd1 Pq1 (aCr A') ((ao, .inl (cJ, 1, .inr (.inl of1))) :: rest)) bno) := by
  refine bC.of (by decide) m_W_drop.1 (Nat.le_of_ble_eq_true rfl) ?_
  intro Γ G E0
  show bV D bcl Γ 4 (wS ad cI cZ mp lf (aN A) Pb gt gp gh Pv gd Pq (aCr A) ((ao, .inl (cJ, 1, .inr (.inl of))) :: rest)) 0 0 0 [(0, .ref (ad 0)), (1, .int (v)), (2, .ref ao)] []
  refine bV.aload_n G d_W_drop_0 rfl ?_
  refine bV.iconst (v := nI 0) G d_W_drop_1 (by decide) ?_
  refine bV.aload_n G d_W_drop_2 rfl ?_
  refine bV.iload_n G d_W_drop_3 rfl ?_
  refine bV.callVit G m_S_drop bw_536 bw_537 bw_535 (k_drop hA hC (v := v) ) 0 rfl rfl rfl rfl rfl ⟨by decide, by decide⟩ ⟨by decide, by decide⟩ (Nat.le_of_ble_eq_true rfl) d_W_drop_4 (fun x9 ws9 h9 => ?_) (fun E9 ws9 h9 => ?_)
  · obtain ⟨⟨b9, hb9⟩, A', lf1, Pb1, gt1, gp1, gh1, Pv1, gd1, Pq1, hop, hA1, hC1, h9e⟩ := h9
    rw [h9e]
    refine bV.if_eq (tgt := 14) G d_W_drop_7 (by decide) (fun c0 => ?_) (fun c0 => ?_)
    · refine bV.lconst (v := 0) G d_W_drop_14 (by decide) ?_
      refine bV.lastore (ws' := wS ad cI cZ mp lf1 (aN A') Pb1 gt1 gp1 gh1 Pv1 gd1 Pq1 (aCr A') ((ao, .inl (cJ, 1, .inr (.inl (vp_updL of (nI 0).toNatClampNeg (0))))) :: rest)) G 20 2 rfl rfl (vp_in_nI (by decide) (by decide)) d_W_drop_15 rfl ?_
      refine bV.goto (tgt := 25) G d_W_drop_16 (by decide) ?_
      refine bV.iconst (v := nI 0) G d_W_drop_25 (by decide) ?_
      exact bV.iretI G E0 rfl rfl (by decide) (by decide) d_W_drop_26 ⟨0, A', lf1, Pb1, gt1, gp1, gh1, Pv1, gd1, Pq1, (vp_updL of (nI 0).toNatClampNeg (0)), rfl, by decide, Or.inl ⟨rfl, x9, hop, by rw [nI_clamp (by decide)]; exact pk_uLs.trans (by rw [c0]; rfl)⟩, hA1, hC1, rfl⟩
    · refine bV.lconst (v := 1) G d_W_drop_10 (by decide) ?_
      refine bV.goto (tgt := 15) G d_W_drop_11 (by decide) ?_
      refine bV.lastore (ws' := wS ad cI cZ mp lf1 (aN A') Pb1 gt1 gp1 gh1 Pv1 gd1 Pq1 (aCr A') ((ao, .inl (cJ, 1, .inr (.inl (vp_updL of (nI 0).toNatClampNeg (1))))) :: rest)) G 20 2 rfl rfl (vp_in_nI (by decide) (by decide)) d_W_drop_15 rfl ?_
      refine bV.goto (tgt := 25) G d_W_drop_16 (by decide) ?_
      refine bV.iconst (v := nI 0) G d_W_drop_25 (by decide) ?_
      exact bV.iretI G E0 rfl rfl (by decide) (by decide) d_W_drop_26 ⟨0, A', lf1, Pb1, gt1, gp1, gh1, Pv1, gd1, Pq1, (vp_updL of (nI 0).toNatClampNeg (1)), rfl, by decide, Or.inl ⟨rfl, x9, hop, by rw [nI_clamp (by decide)]; exact pk_uLs.trans (by rw [hb9]; cases b9; exact absurd hb9 c0; rfl)⟩, hA1, hC1, rfl⟩
  · obtain ⟨h9d, h9e⟩ := h9
    rw [h9e]
    rcases h9d with ⟨rfl, h9t⟩ | ⟨rfl, h9t⟩
    · refine bT.catch G [(0, 16, 19, 26)] (0, 16, 22, 13) [] rfl "java/lang/IllegalStateException" (by decide) (by decide) bw_107 bw_118 (fun y hy => by obtain rfl := List.mem_singleton.mp hy; exact ⟨by decide, "java/lang/IndexOutOfBoundsException", bw_279, by decide⟩) (fun ea => ?_)
      refine bV.astore_n G (lv' := [(0, .ref (ad 0)), (1, .int (v)), (2, .ref ao), (3, .ref ea)]) d_W_drop_22 (by decide) rfl rfl ?_
      refine bV.iconst (v := nI 2) G d_W_drop_23 (by decide) ?_
      exact bV.iretI G E0 rfl rfl (by decide) (by decide) d_W_drop_24 ⟨2, A, lf, Pb, gt, gp, gh, Pv, gd, Pq, of, rfl, by decide, Or.inr ⟨by decide, h9t, rfl⟩, hA, hC, rfl⟩
    · refine bT.catch G [] (0, 16, 19, 26) [(0, 16, 22, 13)] rfl "java/lang/IndexOutOfBoundsException" (by decide) (by decide) bw_279 bw_294 (fun y hy => by cases hy) (fun ea => ?_)
      refine bV.astore_n G (lv' := [(0, .ref (ad 0)), (1, .int (v)), (2, .ref ao), (3, .ref ea)]) d_W_drop_19 (by decide) rfl rfl ?_
      refine bV.iconst (v := nI 1) G d_W_drop_20 (by decide) ?_
      exact bV.iretI G E0 rfl rfl (by decide) (by decide) d_W_drop_21 ⟨1, A, lf, Pb, gt, gp, gh, Pv, gd, Pq, of, rfl, by decide, Or.inr ⟨by decide, h9t, rfl⟩, hA, hC, rfl⟩
