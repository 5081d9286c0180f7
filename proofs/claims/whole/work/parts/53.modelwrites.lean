/-! ===== the reference: writes ===== -/
theorem d_M_write_0 : decode b_M_write 0 = .ok (.aload_n 0, 1) := by decide +kernel
theorem d_M_write_1 : decode b_M_write 1 = .ok (.getfield 13, 3) := by decide +kernel
theorem d_M_write_4 : decode b_M_write 4 = .ok (.aload_n 0, 1) := by decide +kernel
theorem d_M_write_5 : decode b_M_write 5 = .ok (.getfield 64, 3) := by decide +kernel
theorem d_M_write_8 : decode b_M_write 8 = .ok (.iload_n 1, 1) := by decide +kernel
theorem d_M_write_9 : decode b_M_write 9 = .ok (.iastore, 1) := by decide +kernel
theorem d_M_write_10 : decode b_M_write 10 = .ok (.aload_n 0, 1) := by decide +kernel
theorem d_M_write_11 : decode b_M_write 11 = .ok (.dup, 1) := by decide +kernel
theorem d_M_write_12 : decode b_M_write 12 = .ok (.getfield 64, 3) := by decide +kernel
theorem d_M_write_15 : decode b_M_write 15 = .ok (.iconst 1, 1) := by decide +kernel
theorem d_M_write_16 : decode b_M_write 16 = .ok (.iadd, 1) := by decide +kernel
theorem d_M_write_17 : decode b_M_write 17 = .ok (.putfield 64, 3) := by decide +kernel
theorem d_M_write_20 : decode b_M_write 20 = .ok (.return_, 1) := by decide +kernel
set_option maxRecDepth 20000 in
set_option maxHeartbeats 4000000 in
theorem c_M_write {D : va_G} {cI cZ cJ : ClassId} {am : Nat → Nat} {mp : Nat} {th : Nat} {cr : Bool} {fd : Nat} {fo : Nat → Int32} {n : Nat} {lo : Nat → Int32} {np : Nat} {ps : Nat → Int32} {pb : Nat → Int32} {ip : Nat → Int32} {nb : Nat} {fr : Nat → Int32} {ln : Nat → Int32} {tr : Nat → Int32} {nv : Nat} {ct : Nat → Int32} {rw : Nat → Int32} {dr : Nat → Int32} {en : Nat} {sw : Nat} {rest : va_W} {lg : Nat → Nat} {x : Nat} (hRl : lg_R lo n lg) (hn : n < 400) (hx : x < 256) : bC D bcl (tys3 cI cZ cJ) y_M_write ({ frames := 0, cells := 0, slots := 0, locals := 0 }) (wM am cI cZ mp th cr fd fo n lo np ps pb ip nb fr ln tr nv ct rw dr en sw rest) [.ref (am 0), .int (nI (x))] (bO (fun ws9 => ∃ lo1 : Nat → Int32, lg_R lo1 (n + 1) (fup lg n x) ∧ ws9 = wM am cI cZ mp th cr fd fo (n + 1) lo1 np ps pb ip nb fr ln tr nv ct rw dr en sw rest) bno) := by
  refine bC.of (by decide) m_M_write.1 (Nat.le_of_ble_eq_true rfl) ?_
  intro Γ G E0
  show bV D bcl Γ 2 (wM am cI cZ mp th cr fd fo n lo np ps pb ip nb fr ln tr nv ct rw dr en sw rest) 0 0 0 [(0, .ref (am 0)), (1, .int (nI (x)))] []
  refine bV.aload_n G d_M_write_0 rfl ?_
  refine bV.getf G cl_M 0 6 rfl (by decide) bw_551 rfl d_M_write_1 ?_
  refine bV.aload_n G d_M_write_4 rfl ?_
  refine bV.getf G cl_M 0 5 rfl (by decide) bw_550 rfl d_M_write_5 ?_
  refine bV.iload_n G d_M_write_8 rfl ?_
  refine bV.iastoreN G (ws' := (wM am cI cZ mp th cr fd fo n (upd lo n ((nI (x)))) np ps pb ip nb fr ln tr nv ct rw dr en sw rest)) 2 0 rfl rfl (by omega) (by omega) d_M_write_9 rfl ?_
  refine bV.aload_n G d_M_write_10 rfl ?_
  refine bV.dup G d_M_write_11 rfl ?_
  refine bV.getf G cl_M 0 5 rfl (by decide) bw_550 rfl d_M_write_12 ?_
  refine bV.iconst (v := nI 1) G d_M_write_15 (by decide) ?_
  refine bV.iaddN G d_M_write_16 ?_
  refine bV.putf G (ws' := (wM am cI cZ mp th cr fd fo (n + 1) (upd lo n ((nI (x)))) np ps pb ip nb fr ln tr nv ct rw dr en sw rest)) cl_M 0 5 rfl (by decide) bw_550 rfl rfl rfl (Nat.le_of_ble_eq_true rfl) d_M_write_17 rfl ?_
  exact bV.vretO G E0 rfl (by decide) (by decide) d_M_write_20 ⟨_, lg_R_add hRl hn hx, rfl⟩
theorem d_M_version_0 : decode b_M_version 0 = .ok (.aload_n 0, 1) := by decide +kernel
theorem d_M_version_1 : decode b_M_version 1 = .ok (.iconst 1, 1) := by decide +kernel
theorem d_M_version_2 : decode b_M_version 2 = .ok (.invokevirtual 91, 3) := by decide +kernel
theorem d_M_version_5 : decode b_M_version 5 = .ok (.ifCond .ne 5, 3) := by decide +kernel
theorem d_M_version_8 : decode b_M_version 8 = .ok (.iconst 0, 1) := by decide +kernel
theorem d_M_version_9 : decode b_M_version 9 = .ok (.ireturn, 1) := by decide +kernel
theorem d_M_version_10 : decode b_M_version 10 = .ok (.aload_n 0, 1) := by decide +kernel
theorem d_M_version_11 : decode b_M_version 11 = .ok (.getfield 51, 3) := by decide +kernel
theorem d_M_version_14 : decode b_M_version 14 = .ok (.bipush 12, 2) := by decide +kernel
theorem d_M_version_16 : decode b_M_version 16 = .ok (.if_icmp .eq 13, 3) := by decide +kernel
theorem d_M_version_19 : decode b_M_version 19 = .ok (.aload_n 0, 1) := by decide +kernel
theorem d_M_version_20 : decode b_M_version 20 = .ok (.getfield 64, 3) := by decide +kernel
theorem d_M_version_23 : decode b_M_version 23 = .ok (.sipush 400, 3) := by decide +kernel
theorem d_M_version_26 : decode b_M_version 26 = .ok (.if_icmp .ne 5, 3) := by decide +kernel
theorem d_M_version_29 : decode b_M_version 29 = .ok (.iconst (-1), 1) := by decide +kernel
theorem d_M_version_30 : decode b_M_version 30 = .ok (.ireturn, 1) := by decide +kernel
theorem d_M_version_31 : decode b_M_version 31 = .ok (.aload_n 0, 1) := by decide +kernel
theorem d_M_version_32 : decode b_M_version 32 = .ok (.iconst 3, 1) := by decide +kernel
theorem d_M_version_33 : decode b_M_version 33 = .ok (.invokevirtual 103, 3) := by decide +kernel
theorem d_M_version_36 : decode b_M_version 36 = .ok (.aload_n 0, 1) := by decide +kernel
theorem d_M_version_37 : decode b_M_version 37 = .ok (.getfield 51, 3) := by decide +kernel
theorem d_M_version_40 : decode b_M_version 40 = .ok (.ireturn, 1) := by decide +kernel
set_option maxRecDepth 20000 in
set_option maxHeartbeats 4000000 in
theorem c_M_version {D : va_G} {cI cZ cJ : ClassId} {am : Nat → Nat} {mp : Nat} {th : Nat} {cr : Bool} {fd : Nat} {fo : Nat → Int32} {n : Nat} {lo : Nat → Int32} {np : Nat} {ps : Nat → Int32} {pb : Nat → Int32} {ip : Nat → Int32} {nb : Nat} {fr : Nat → Int32} {ln : Nat → Int32} {tr : Nat → Int32} {nv : Nat} {ct : Nat → Int32} {rw : Nat → Int32} {dr : Nat → Int32} {en : Nat} {sw : Nat} {rest : va_W} {lg : Nat → Nat} {S : aS} (hRl : lg_R lo n lg) (hok : cr = false → logOk lg n S) : bC D bcl (tys3 cI cZ cJ) y_M_version ({ frames := 5, cells := 0, slots := 0, locals := 108 }) (wM am cI cZ mp th cr fd fo n lo np ps pb ip nb fr ln tr nv ct rw dr en sw rest) [.ref (am 0)] (bI (fun x ws9 => (cr = true ∧ ∃ (nb1 nv1 en1 sw1 : Nat) (fr1 ln1 tr1 ct1 rw1 dr1 : Nat → Int32), ws9 = wM am cI cZ mp 1 cr fd fo n lo np ps pb ip nb1 fr1 ln1 tr1 nv1 ct1 rw1 dr1 en1 sw1 rest) ∨ (cr = false ∧ (((sNv S = 12 ∨ n = 400) ∧ x = -1 ∧ ∃ (nb1 nv1 en1 sw1 : Nat) (fr1 ln1 tr1 ct1 rw1 dr1 : Nat → Int32), ws9 = wM am cI cZ mp 0 cr fd fo n lo np ps pb ip nb1 fr1 ln1 tr1 nv1 ct1 rw1 dr1 en1 sw1 rest) ∨ ((sNv S < 12 ∧ n < 400) ∧ x = nI (sNv S) ∧ ∃ lo1 : Nat → Int32, lg_R lo1 (n + 1) (fup lg n 3) ∧ ∃ (nb1 nv1 en1 sw1 : Nat) (fr1 ln1 tr1 ct1 rw1 dr1 : Nat → Int32), ws9 = wM am cI cZ mp 0 cr fd fo (n + 1) lo1 np ps pb ip nb1 fr1 ln1 tr1 nv1 ct1 rw1 dr1 en1 sw1 rest)))) bno) := by
  refine bC.of (by decide) m_M_version.1 (Nat.le_of_ble_eq_true rfl) ?_
  intro Γ G E0
  show bV D bcl Γ 1 (wM am cI cZ mp th cr fd fo n lo np ps pb ip nb fr ln tr nv ct rw dr en sw rest) 0 0 0 [(0, .ref (am 0))] []
  refine bV.aload_n G d_M_version_0 rfl ?_
  refine bV.iconst (v := nI 1) G d_M_version_1 (by decide) ?_
  refine bV.callVi G m_M_isReady bw_619 bw_s26 bw_617 (c_M_isReady (f := 1) hRl hok) 0 rfl rfl rfl rfl rfl ⟨by decide, by decide⟩ ⟨by decide, by decide⟩ (Nat.le_of_ble_eq_true rfl) d_M_version_2 (fun x9 ws9 h9 => ?_)
  rcases h9 with ⟨hcr, rfl, h9e⟩ | ⟨hcr, rfl, fr1, ln1, tr1, ct1, rw1, dr1, sw1, hdv, h9e⟩
  · rw [h9e]
    try dsimp only
    refine bV.if_neB (tgt := 10) G d_M_version_5 (by decide) (fun c5 => ?_) (fun c5 => ?_)
    · cases c5
    · refine bV.iconst (v := nI 0) G d_M_version_8 (by decide) ?_
      exact bV.iretI G E0 rfl rfl (by decide) (by decide) d_M_version_9 (Or.inl ⟨hcr, nb, nv, en, sw, fr, ln, tr, ct, rw, dr, rfl⟩)
  · rw [h9e]
    try dsimp only
    have hs := (hok hcr).s
    have hnb := hs.1
    have hnv := hs.2.1
    have h400 := hRl.1
    refine bV.if_neB (tgt := 10) G d_M_version_5 (by decide) (fun c5 => ?_) (fun c5 => ?_)
    · refine bV.aload_n G d_M_version_10 rfl ?_
      refine bV.getf G cl_M 0 15 rfl (by decide) bw_560 rfl d_M_version_11 ?_
      refine bV.bipush (v := nI 12) G d_M_version_14 (by decide) ?_
      refine bV.icmp_eqN (tgt := 29) G d_M_version_16 (by decide) (by omega) (by omega) (fun c16 => ?_) (fun c16 => ?_)
      · refine bV.iconst (v := (-1)) G d_M_version_29 (by decide) ?_
        exact bV.iretI G E0 rfl rfl (by decide) (by decide) d_M_version_30 (Or.inr ⟨hcr, Or.inl ⟨by omega, rfl, (sNb S), (sNv S), n, sw1, fr1, ln1, tr1, ct1, rw1, dr1, rfl⟩⟩)
      · refine bV.aload_n G d_M_version_19 rfl ?_
        refine bV.getf G cl_M 0 5 rfl (by decide) bw_550 rfl d_M_version_20 ?_
        refine bV.sipush (v := nI 400) G d_M_version_23 (by decide) ?_
        refine bV.icmp_neN (tgt := 31) G d_M_version_26 (by decide) (by omega) (by omega) (fun c26 => ?_) (fun c26 => ?_)
        · refine bV.aload_n G d_M_version_31 rfl ?_
          refine bV.iconst (v := nI 3) G d_M_version_32 (by decide) ?_
          refine bV.callVo G m_M_write bw_658 bw_s34 bw_656 (c_M_write (x := 3) hRl (by omega) (by omega)) 0 rfl rfl rfl rfl rfl ⟨by decide, by decide⟩ ⟨by decide, by decide⟩ (Nat.le_of_ble_eq_true rfl) d_M_version_33 (fun ws9 h9 => ?_)
          obtain ⟨lo1, hL1, h9e⟩ := h9
          rw [h9e]
          refine bV.aload_n G d_M_version_36 rfl ?_
          refine bV.getf G cl_M 0 15 rfl (by decide) bw_560 rfl d_M_version_37 ?_
          exact bV.iretI G E0 rfl rfl (by decide) (by decide) d_M_version_40 (Or.inr ⟨hcr, Or.inr ⟨⟨by omega, by omega⟩, rfl, lo1, hL1, (sNb S), (sNv S), n, sw1, fr1, ln1, tr1, ct1, rw1, dr1, rfl⟩⟩)
        · refine bV.iconst (v := (-1)) G d_M_version_29 (by decide) ?_
          exact bV.iretI G E0 rfl rfl (by decide) (by decide) d_M_version_30 (Or.inr ⟨hcr, Or.inl ⟨by omega, rfl, (sNb S), (sNv S), n, sw1, fr1, ln1, tr1, ct1, rw1, dr1, rfl⟩⟩)
    · cases c5
theorem d_M_sweep_0 : decode b_M_sweep 0 = .ok (.aload_n 0, 1) := by decide +kernel
theorem d_M_sweep_1 : decode b_M_sweep 1 = .ok (.iconst 1, 1) := by decide +kernel
theorem d_M_sweep_2 : decode b_M_sweep 2 = .ok (.invokevirtual 91, 3) := by decide +kernel
theorem d_M_sweep_5 : decode b_M_sweep 5 = .ok (.ifCond .eq 13, 3) := by decide +kernel
theorem d_M_sweep_8 : decode b_M_sweep 8 = .ok (.aload_n 0, 1) := by decide +kernel
theorem d_M_sweep_9 : decode b_M_sweep 9 = .ok (.getfield 64, 3) := by decide +kernel
theorem d_M_sweep_12 : decode b_M_sweep 12 = .ok (.sipush 400, 3) := by decide +kernel
theorem d_M_sweep_15 : decode b_M_sweep 15 = .ok (.if_icmp .ne 5, 3) := by decide +kernel
theorem d_M_sweep_18 : decode b_M_sweep 18 = .ok (.iconst 0, 1) := by decide +kernel
theorem d_M_sweep_19 : decode b_M_sweep 19 = .ok (.ireturn, 1) := by decide +kernel
theorem d_M_sweep_20 : decode b_M_sweep 20 = .ok (.aload_n 0, 1) := by decide +kernel
theorem d_M_sweep_21 : decode b_M_sweep 21 = .ok (.invokevirtual 71, 3) := by decide +kernel
theorem d_M_sweep_24 : decode b_M_sweep 24 = .ok (.aload_n 0, 1) := by decide +kernel
theorem d_M_sweep_25 : decode b_M_sweep 25 = .ok (.getfield 54, 3) := by decide +kernel
theorem d_M_sweep_28 : decode b_M_sweep 28 = .ok (.istore_n 1, 1) := by decide +kernel
theorem d_M_sweep_29 : decode b_M_sweep 29 = .ok (.aload_n 0, 1) := by decide +kernel
theorem d_M_sweep_30 : decode b_M_sweep 30 = .ok (.iconst 5, 1) := by decide +kernel
theorem d_M_sweep_31 : decode b_M_sweep 31 = .ok (.invokevirtual 103, 3) := by decide +kernel
theorem d_M_sweep_34 : decode b_M_sweep 34 = .ok (.iload_n 1, 1) := by decide +kernel
theorem d_M_sweep_35 : decode b_M_sweep 35 = .ok (.ireturn, 1) := by decide +kernel
set_option maxRecDepth 20000 in
set_option maxHeartbeats 4000000 in
theorem c_M_sweep {D : va_G} {cI cZ cJ : ClassId} {am : Nat → Nat} {mp : Nat} {th : Nat} {cr : Bool} {fd : Nat} {fo : Nat → Int32} {n : Nat} {lo : Nat → Int32} {np : Nat} {ps : Nat → Int32} {pb : Nat → Int32} {ip : Nat → Int32} {nb : Nat} {fr : Nat → Int32} {ln : Nat → Int32} {tr : Nat → Int32} {nv : Nat} {ct : Nat → Int32} {rw : Nat → Int32} {dr : Nat → Int32} {en : Nat} {sw : Nat} {rest : va_W} {lg : Nat → Nat} {S : aS} (hRl : lg_R lo n lg) (hok : cr = false → logOk lg n S) : bC D bcl (tys3 cI cZ cJ) y_M_sweep ({ frames := 5, cells := 0, slots := 0, locals := 108 }) (wM am cI cZ mp th cr fd fo n lo np ps pb ip nb fr ln tr nv ct rw dr en sw rest) [.ref (am 0)] (bI (fun x ws9 => (cr = true ∧ ∃ (nb1 nv1 en1 sw1 : Nat) (fr1 ln1 tr1 ct1 rw1 dr1 : Nat → Int32), ws9 = wM am cI cZ mp 1 cr fd fo n lo np ps pb ip nb1 fr1 ln1 tr1 nv1 ct1 rw1 dr1 en1 sw1 rest) ∨ (cr = false ∧ ((n = 400 ∧ x = nI 0 ∧ ∃ (nb1 nv1 en1 sw1 : Nat) (fr1 ln1 tr1 ct1 rw1 dr1 : Nat → Int32), ws9 = wM am cI cZ mp 0 cr fd fo n lo np ps pb ip nb1 fr1 ln1 tr1 nv1 ct1 rw1 dr1 en1 sw1 rest) ∨ (n < 400 ∧ x = nI (cntU (fun b => sTh S b && !hlB (sDr S) (sCt S) (sRw S) (sNv S) b) (sNb S)) ∧ ∃ lo1 : Nat → Int32, lg_R lo1 (n + 1) (fup lg n 5) ∧ ∃ (nb1 nv1 en1 sw1 : Nat) (fr1 ln1 tr1 ct1 rw1 dr1 : Nat → Int32), ws9 = wM am cI cZ mp 0 cr fd fo (n + 1) lo1 np ps pb ip nb1 fr1 ln1 tr1 nv1 ct1 rw1 dr1 en1 sw1 rest)))) bno) := by
  refine bC.of (by decide) m_M_sweep.1 (Nat.le_of_ble_eq_true rfl) ?_
  intro Γ G E0
  show bV D bcl Γ 2 (wM am cI cZ mp th cr fd fo n lo np ps pb ip nb fr ln tr nv ct rw dr en sw rest) 0 0 0 [(0, .ref (am 0))] []
  refine bV.aload_n G d_M_sweep_0 rfl ?_
  refine bV.iconst (v := nI 1) G d_M_sweep_1 (by decide) ?_
  refine bV.callVi G m_M_isReady bw_619 bw_s26 bw_617 (c_M_isReady (f := 1) hRl hok) 0 rfl rfl rfl rfl rfl ⟨by decide, by decide⟩ ⟨by decide, by decide⟩ (Nat.le_of_ble_eq_true rfl) d_M_sweep_2 (fun x9 ws9 h9 => ?_)
  rcases h9 with ⟨hcr, rfl, h9e⟩ | ⟨hcr, rfl, fr1, ln1, tr1, ct1, rw1, dr1, sw1, hdv, h9e⟩
  · rw [h9e]
    try dsimp only
    refine bV.if_eqB (tgt := 18) G d_M_sweep_5 (by decide) (fun c5 => ?_) (fun c5 => ?_)
    · refine bV.iconst (v := nI 0) G d_M_sweep_18 (by decide) ?_
      exact bV.iretI G E0 rfl rfl (by decide) (by decide) d_M_sweep_19 (Or.inl ⟨hcr, nb, nv, en, sw, fr, ln, tr, ct, rw, dr, rfl⟩)
    · cases c5
  · rw [h9e]
    try dsimp only
    have hs := (hok hcr).s
    have hnb := hs.1
    have hnv := hs.2.1
    have h400 := hRl.1
    refine bV.if_eqB (tgt := 18) G d_M_sweep_5 (by decide) (fun c5 => ?_) (fun c5 => ?_)
    · cases c5
    · refine bV.aload_n G d_M_sweep_8 rfl ?_
      refine bV.getf G cl_M 0 5 rfl (by decide) bw_550 rfl d_M_sweep_9 ?_
      refine bV.sipush (v := nI 400) G d_M_sweep_12 (by decide) ?_
      refine bV.icmp_neN (tgt := 20) G d_M_sweep_15 (by decide) (by omega) (by omega) (fun c15 => ?_) (fun c15 => ?_)
      · refine bV.aload_n G d_M_sweep_20 rfl ?_
        refine bV.callVo G m_M_sweepAll bw_639 bw_s31 bw_637 (c_M_sweepAll hs hdv.2.2.1 hdv.2.2.2.1 hdv.2.2.2.2.1) 0 rfl rfl rfl rfl rfl ⟨by decide, by decide⟩ ⟨by decide, by decide⟩ (Nat.le_of_ble_eq_true rfl) d_M_sweep_21 (fun ws9 h9 => ?_)
        obtain ⟨tr2, htr2, h9e⟩ := h9
        rw [h9e]
        have hcu := cntU_le (f := (fun b => sTh S b && !hlB (sDr S) (sCt S) (sRw S) (sNv S) b)) (sNb S)
        refine bV.aload_n G d_M_sweep_24 rfl ?_
        refine bV.getf G cl_M 0 20 rfl (by decide) bw_565 rfl d_M_sweep_25 ?_
        refine bV.istore_n G (lv' := [(0, .ref (am 0)), (1, .int (nI (cntU (fun b => sTh S b && !hlB (sDr S) (sCt S) (sRw S) (sNv S) b) (sNb S))))]) d_M_sweep_28 (by decide) rfl rfl ?_
        refine bV.aload_n G d_M_sweep_29 rfl ?_
        refine bV.iconst (v := nI 5) G d_M_sweep_30 (by decide) ?_
        refine bV.callVo G m_M_write bw_658 bw_s34 bw_656 (c_M_write (x := 5) hRl (by omega) (by omega)) 0 rfl rfl rfl rfl rfl ⟨by decide, by decide⟩ ⟨by decide, by decide⟩ (Nat.le_of_ble_eq_true rfl) d_M_sweep_31 (fun ws9 h9 => ?_)
        obtain ⟨lo1, hL1, h9e⟩ := h9
        rw [h9e]
        refine bV.iload_n G d_M_sweep_34 rfl ?_
        exact bV.iretI G E0 rfl rfl (by decide) (by decide) d_M_sweep_35 (Or.inr ⟨hcr, Or.inr ⟨by omega, rfl, lo1, hL1, (sNb S), (sNv S), n, (cntU (fun b => sTh S b && !hlB (sDr S) (sCt S) (sRw S) (sNv S) b) (sNb S)), fr1, ln1, tr2, ct1, rw1, dr1, rfl⟩⟩)
      · refine bV.iconst (v := nI 0) G d_M_sweep_18 (by decide) ?_
        exact bV.iretI G E0 rfl rfl (by decide) (by decide) d_M_sweep_19 (Or.inr ⟨hcr, Or.inl ⟨by omega, rfl, (sNb S), (sNv S), n, sw1, fr1, ln1, tr1, ct1, rw1, dr1, rfl⟩⟩)
theorem d_M_drop_0 : decode b_M_drop 0 = .ok (.aload_n 0, 1) := by decide +kernel
theorem d_M_drop_1 : decode b_M_drop 1 = .ok (.iconst 2, 1) := by decide +kernel
theorem d_M_drop_2 : decode b_M_drop 2 = .ok (.invokevirtual 91, 3) := by decide +kernel
theorem d_M_drop_5 : decode b_M_drop 5 = .ok (.ifCond .ne 5, 3) := by decide +kernel
theorem d_M_drop_8 : decode b_M_drop 8 = .ok (.iconst 0, 1) := by decide +kernel
theorem d_M_drop_9 : decode b_M_drop 9 = .ok (.ireturn, 1) := by decide +kernel
theorem d_M_drop_10 : decode b_M_drop 10 = .ok (.aload_n 0, 1) := by decide +kernel
theorem d_M_drop_11 : decode b_M_drop 11 = .ok (.aload_n 0, 1) := by decide +kernel
theorem d_M_drop_12 : decode b_M_drop 12 = .ok (.iload_n 1, 1) := by decide +kernel
theorem d_M_drop_13 : decode b_M_drop 13 = .ok (.invokevirtual 106, 3) := by decide +kernel
theorem d_M_drop_16 : decode b_M_drop 16 = .ok (.ifCond .eq 7, 3) := by decide +kernel
theorem d_M_drop_19 : decode b_M_drop 19 = .ok (.iconst 0, 1) := by decide +kernel
theorem d_M_drop_20 : decode b_M_drop 20 = .ok (.goto 4, 3) := by decide +kernel
theorem d_M_drop_23 : decode b_M_drop 23 = .ok (.iconst 1, 1) := by decide +kernel
theorem d_M_drop_24 : decode b_M_drop 24 = .ok (.putfield 48, 3) := by decide +kernel
theorem d_M_drop_27 : decode b_M_drop 27 = .ok (.aload_n 0, 1) := by decide +kernel
theorem d_M_drop_28 : decode b_M_drop 28 = .ok (.getfield 48, 3) := by decide +kernel
theorem d_M_drop_31 : decode b_M_drop 31 = .ok (.ifCond .ne 24, 3) := by decide +kernel
theorem d_M_drop_34 : decode b_M_drop 34 = .ok (.aload_n 0, 1) := by decide +kernel
theorem d_M_drop_35 : decode b_M_drop 35 = .ok (.getfield 41, 3) := by decide +kernel
theorem d_M_drop_38 : decode b_M_drop 38 = .ok (.iload_n 1, 1) := by decide +kernel
theorem d_M_drop_39 : decode b_M_drop 39 = .ok (.baload, 1) := by decide +kernel
theorem d_M_drop_40 : decode b_M_drop 40 = .ok (.ifCond .ne 15, 3) := by decide +kernel
theorem d_M_drop_43 : decode b_M_drop 43 = .ok (.aload_n 0, 1) := by decide +kernel
theorem d_M_drop_44 : decode b_M_drop 44 = .ok (.getfield 64, 3) := by decide +kernel
theorem d_M_drop_47 : decode b_M_drop 47 = .ok (.iconst 2, 1) := by decide +kernel
theorem d_M_drop_48 : decode b_M_drop 48 = .ok (.iadd, 1) := by decide +kernel
theorem d_M_drop_49 : decode b_M_drop 49 = .ok (.sipush 400, 3) := by decide +kernel
theorem d_M_drop_52 : decode b_M_drop 52 = .ok (.if_icmp .le 5, 3) := by decide +kernel
theorem d_M_drop_55 : decode b_M_drop 55 = .ok (.iconst 0, 1) := by decide +kernel
theorem d_M_drop_56 : decode b_M_drop 56 = .ok (.ireturn, 1) := by decide +kernel
theorem d_M_drop_57 : decode b_M_drop 57 = .ok (.aload_n 0, 1) := by decide +kernel
theorem d_M_drop_58 : decode b_M_drop 58 = .ok (.iconst 4, 1) := by decide +kernel
theorem d_M_drop_59 : decode b_M_drop 59 = .ok (.invokevirtual 103, 3) := by decide +kernel
theorem d_M_drop_62 : decode b_M_drop 62 = .ok (.aload_n 0, 1) := by decide +kernel
theorem d_M_drop_63 : decode b_M_drop 63 = .ok (.iload_n 1, 1) := by decide +kernel
theorem d_M_drop_64 : decode b_M_drop 64 = .ok (.invokevirtual 103, 3) := by decide +kernel
theorem d_M_drop_67 : decode b_M_drop 67 = .ok (.iconst 1, 1) := by decide +kernel
theorem d_M_drop_68 : decode b_M_drop 68 = .ok (.ireturn, 1) := by decide +kernel
set_option maxRecDepth 20000 in
set_option maxHeartbeats 4000000 in
theorem c_M_drop {D : va_G} {cI cZ cJ : ClassId} {am : Nat → Nat} {mp : Nat} {th : Nat} {cr : Bool} {fd : Nat} {fo : Nat → Int32} {n : Nat} {lo : Nat → Int32} {np : Nat} {ps : Nat → Int32} {pb : Nat → Int32} {ip : Nat → Int32} {nb : Nat} {fr : Nat → Int32} {ln : Nat → Int32} {tr : Nat → Int32} {nv : Nat} {ct : Nat → Int32} {rw : Nat → Int32} {dr : Nat → Int32} {en : Nat} {sw : Nat} {rest : va_W} {lg : Nat → Nat} {S : aS} (hRl : lg_R lo n lg) (hok : cr = false → logOk lg n S) {v : Int32} : bC D bcl (tys3 cI cZ cJ) y_M_drop ({ frames := 5, cells := 0, slots := 0, locals := 108 }) (wM am cI cZ mp th cr fd fo n lo np ps pb ip nb fr ln tr nv ct rw dr en sw rest) [.ref (am 0), .int (v)] (bI (fun x ws9 => (cr = true ∧ ∃ (nb1 nv1 en1 sw1 : Nat) (fr1 ln1 tr1 ct1 rw1 dr1 : Nat → Int32), ws9 = wM am cI cZ mp 2 cr fd fo n lo np ps pb ip nb1 fr1 ln1 tr1 nv1 ct1 rw1 dr1 en1 sw1 rest) ∨ (cr = false ∧ ¬ (0 ≤ v ∧ v < nI (sNv S)) ∧ ∃ (nb1 nv1 en1 sw1 : Nat) (fr1 ln1 tr1 ct1 rw1 dr1 : Nat → Int32), ws9 = wM am cI cZ mp 1 cr fd fo n lo np ps pb ip nb1 fr1 ln1 tr1 nv1 ct1 rw1 dr1 en1 sw1 rest) ∨ (cr = false ∧ (0 ≤ v ∧ v < nI (sNv S)) ∧ (((sDr S v.toNatClampNeg = true ∨ 400 < n + 2) ∧ x = bB false ∧ ∃ (nb1 nv1 en1 sw1 : Nat) (fr1 ln1 tr1 ct1 rw1 dr1 : Nat → Int32), ws9 = wM am cI cZ mp 0 cr fd fo n lo np ps pb ip nb1 fr1 ln1 tr1 nv1 ct1 rw1 dr1 en1 sw1 rest) ∨ ((sDr S v.toNatClampNeg = false ∧ n + 2 ≤ 400) ∧ x = bB true ∧ ∃ lo1 : Nat → Int32, lg_R lo1 (n + 2) (rec2 lg n 4 v.toNatClampNeg) ∧ ∃ (nb1 nv1 en1 sw1 : Nat) (fr1 ln1 tr1 ct1 rw1 dr1 : Nat → Int32), ws9 = wM am cI cZ mp 0 cr fd fo (n + 2) lo1 np ps pb ip nb1 fr1 ln1 tr1 nv1 ct1 rw1 dr1 en1 sw1 rest)))) bno) := by
  refine bC.of (by decide) m_M_drop.1 (Nat.le_of_ble_eq_true rfl) ?_
  intro Γ G E0
  show bV D bcl Γ 2 (wM am cI cZ mp th cr fd fo n lo np ps pb ip nb fr ln tr nv ct rw dr en sw rest) 0 0 0 [(0, .ref (am 0)), (1, .int (v))] []
  refine bV.aload_n G d_M_drop_0 rfl ?_
  refine bV.iconst (v := nI 2) G d_M_drop_1 (by decide) ?_
  refine bV.callVi G m_M_isReady bw_619 bw_s26 bw_617 (c_M_isReady (f := 2) hRl hok) 0 rfl rfl rfl rfl rfl ⟨by decide, by decide⟩ ⟨by decide, by decide⟩ (Nat.le_of_ble_eq_true rfl) d_M_drop_2 (fun x9 ws9 h9 => ?_)
  rcases h9 with ⟨hcr, rfl, h9e⟩ | ⟨hcr, rfl, fr1, ln1, tr1, ct1, rw1, dr1, sw1, hdv, h9e⟩
  · rw [h9e]
    try dsimp only
    refine bV.if_neB (tgt := 10) G d_M_drop_5 (by decide) (fun c5 => ?_) (fun c5 => ?_)
    · cases c5
    · refine bV.iconst (v := nI 0) G d_M_drop_8 (by decide) ?_
      refine bV.topi (x := nI 0) (y := bB false) (by decide) ?_
      exact bV.iretI G E0 rfl (bB_n _) (by decide) (by decide) d_M_drop_9 (Or.inl ⟨hcr, nb, nv, en, sw, fr, ln, tr, ct, rw, dr, rfl⟩)
  · rw [h9e]
    try dsimp only
    have hs := (hok hcr).s
    have hnb := hs.1
    have hnv := hs.2.1
    have h400 := hRl.1
    refine bV.if_neB (tgt := 10) G d_M_drop_5 (by decide) (fun c5 => ?_) (fun c5 => ?_)
    · refine bV.aload_n G d_M_drop_10 rfl ?_
      refine bV.aload_n G d_M_drop_11 rfl ?_
      refine bV.iload_n G d_M_drop_12 rfl ?_
      refine bV.callVi G m_M_isVersion bw_674 bw_s35 bw_672 (c_M_isVersion (v := v)) 0 rfl rfl rfl rfl rfl ⟨by decide, by decide⟩ ⟨by decide, by decide⟩ (Nat.le_of_ble_eq_true rfl) d_M_drop_13 (fun x9 ws9 h9 => ?_)
      obtain ⟨rfl, h9e⟩ := h9
      rw [h9e]
      try dsimp only
      refine bV.if_eqB (tgt := 23) G d_M_drop_16 (by decide) (fun c16 => ?_) (fun c16 => ?_)
      · have hg16 := of_decide_eq_false c16
        refine bV.iconst (v := nI 1) G d_M_drop_23 (by decide) ?_
        refine bV.putf G (ws' := (wM am cI cZ mp 1 cr fd fo n lo np ps pb ip (sNb S) fr1 ln1 tr1 (sNv S) ct1 rw1 dr1 n sw1 rest)) cl_M 0 0 rfl (by decide) bw_545 rfl rfl rfl (Nat.le_of_ble_eq_true rfl) d_M_drop_24 rfl ?_
        refine bV.aload_n G d_M_drop_27 rfl ?_
        refine bV.getf G cl_M 0 0 rfl (by decide) bw_545 rfl d_M_drop_28 ?_
        refine bV.if_neN (tgt := 55) G d_M_drop_31 (by decide) (by omega) (fun c31 => ?_) (fun c31 => ?_)
        · refine bV.iconst (v := nI 0) G d_M_drop_55 (by decide) ?_
          refine bV.topi (x := nI 0) (y := bB false) (by decide) ?_
          exact bV.iretI G E0 rfl (bB_n _) (by decide) (by decide) d_M_drop_56 (Or.inr (Or.inl ⟨hcr, hg16, (sNb S), (sNv S), n, sw1, fr1, ln1, tr1, ct1, rw1, dr1, rfl⟩))
        · exact absurd c31 (by decide)
      · have hg16 := of_decide_eq_true c16
        obtain ⟨j, hj, rfl⟩ := nI_btw hg16 (by omega)
        refine bV.iconst (v := nI 0) G d_M_drop_19 (by decide) ?_
        refine bV.goto (tgt := 24) G d_M_drop_20 (by decide) ?_
        refine bV.putf G (ws' := (wM am cI cZ mp 0 cr fd fo n lo np ps pb ip (sNb S) fr1 ln1 tr1 (sNv S) ct1 rw1 dr1 n sw1 rest)) cl_M 0 0 rfl (by decide) bw_545 rfl rfl rfl (Nat.le_of_ble_eq_true rfl) d_M_drop_24 rfl ?_
        refine bV.aload_n G d_M_drop_27 rfl ?_
        refine bV.getf G cl_M 0 0 rfl (by decide) bw_545 rfl d_M_drop_28 ?_
        refine bV.if_neN (tgt := 55) G d_M_drop_31 (by decide) (by omega) (fun c31 => ?_) (fun c31 => ?_)
        · exact absurd c31 (by decide)
        · refine bV.aload_n G d_M_drop_34 rfl ?_
          refine bV.getf G cl_M 0 18 rfl (by decide) bw_563 rfl d_M_drop_35 ?_
          refine bV.iload_n G d_M_drop_38 rfl ?_
          refine bV.zaloadN G 11 1 rfl rfl (by omega) (by omega) d_M_drop_39 ?_
          refine bV.topi (y := (bB (sDr S j))) (hdv.2.2.2.2.2 _ (by omega)) ?_
          refine bV.if_neB (tgt := 55) G d_M_drop_40 (by decide) (fun c40 => ?_) (fun c40 => ?_)
          · refine bV.iconst (v := nI 0) G d_M_drop_55 (by decide) ?_
            refine bV.topi (x := nI 0) (y := bB false) (by decide) ?_
            exact bV.iretI G E0 rfl (bB_n _) (by decide) (by decide) d_M_drop_56 (Or.inr (Or.inr ⟨hcr, hg16, by rw [nI_clamp (by omega)]; exact Or.inl ⟨by first | exact Or.inl c40 | exact Or.inr (by omega), rfl, (sNb S), (sNv S), n, sw1, fr1, ln1, tr1, ct1, rw1, dr1, rfl⟩⟩))
          · refine bV.aload_n G d_M_drop_43 rfl ?_
            refine bV.getf G cl_M 0 5 rfl (by decide) bw_550 rfl d_M_drop_44 ?_
            refine bV.iconst (v := nI 2) G d_M_drop_47 (by decide) ?_
            refine bV.iaddN G d_M_drop_48 ?_
            refine bV.sipush (v := nI 400) G d_M_drop_49 (by decide) ?_
            refine bV.icmp_leN (tgt := 57) G d_M_drop_52 (by decide) (by omega) (by omega) (fun c52 => ?_) (fun c52 => ?_)
            · refine bV.aload_n G d_M_drop_57 rfl ?_
              refine bV.iconst (v := nI 4) G d_M_drop_58 (by decide) ?_
              refine bV.callVo G m_M_write bw_658 bw_s34 bw_656 (c_M_write (x := 4) hRl (by omega) (by omega)) 0 rfl rfl rfl rfl rfl ⟨by decide, by decide⟩ ⟨by decide, by decide⟩ (Nat.le_of_ble_eq_true rfl) d_M_drop_59 (fun ws9 h9 => ?_)
              obtain ⟨lo1, hL1, h9e⟩ := h9
              rw [h9e]
              refine bV.aload_n G d_M_drop_62 rfl ?_
              refine bV.iload_n G d_M_drop_63 rfl ?_
              refine bV.callVo G m_M_write bw_658 bw_s34 bw_656 (c_M_write (x := j) hL1 (by omega) (by omega)) 0 rfl rfl rfl rfl rfl ⟨by decide, by decide⟩ ⟨by decide, by decide⟩ (Nat.le_of_ble_eq_true rfl) d_M_drop_64 (fun ws9 h9 => ?_)
              obtain ⟨lo2, hL2, h9e⟩ := h9
              rw [h9e]
              refine bV.iconst (v := nI 1) G d_M_drop_67 (by decide) ?_
              refine bV.topi (x := nI 1) (y := bB true) (by decide) ?_
              exact bV.iretI G E0 rfl (bB_n _) (by decide) (by decide) d_M_drop_68 (Or.inr (Or.inr ⟨hcr, hg16, by rw [nI_clamp (by omega)]; exact Or.inr ⟨⟨c40, by omega⟩, rfl, lo2, hL2, (sNb S), (sNv S), n, sw1, fr1, ln1, tr1, ct1, rw1, dr1, rfl⟩⟩))
            · refine bV.iconst (v := nI 0) G d_M_drop_55 (by decide) ?_
              refine bV.topi (x := nI 0) (y := bB false) (by decide) ?_
              exact bV.iretI G E0 rfl (bB_n _) (by decide) (by decide) d_M_drop_56 (Or.inr (Or.inr ⟨hcr, hg16, by rw [nI_clamp (by omega)]; exact Or.inl ⟨by first | exact Or.inl c40 | exact Or.inr (by omega), rfl, (sNb S), (sNv S), n, sw1, fr1, ln1, tr1, ct1, rw1, dr1, rfl⟩⟩))
    · cases c5
theorem d_M_feed_0 : decode b_M_feed 0 = .ok (.aload_n 0, 1) := by decide +kernel
theorem d_M_feed_1 : decode b_M_feed 1 = .ok (.iconst 1, 1) := by decide +kernel
theorem d_M_feed_2 : decode b_M_feed 2 = .ok (.invokevirtual 91, 3) := by decide +kernel
theorem d_M_feed_5 : decode b_M_feed 5 = .ok (.ifCond .eq 19, 3) := by decide +kernel
theorem d_M_feed_8 : decode b_M_feed 8 = .ok (.iload_n 1, 1) := by decide +kernel
theorem d_M_feed_9 : decode b_M_feed 9 = .ok (.invokestatic 94, 3) := by decide +kernel
theorem d_M_feed_12 : decode b_M_feed 12 = .ok (.ifCond .eq 12, 3) := by decide +kernel
theorem d_M_feed_15 : decode b_M_feed 15 = .ok (.aload_n 0, 1) := by decide +kernel
theorem d_M_feed_16 : decode b_M_feed 16 = .ok (.getfield 97, 3) := by decide +kernel
theorem d_M_feed_19 : decode b_M_feed 19 = .ok (.bipush 24, 2) := by decide +kernel
theorem d_M_feed_21 : decode b_M_feed 21 = .ok (.if_icmp .ne 5, 3) := by decide +kernel
theorem d_M_feed_24 : decode b_M_feed 24 = .ok (.iconst 0, 1) := by decide +kernel
theorem d_M_feed_25 : decode b_M_feed 25 = .ok (.ireturn, 1) := by decide +kernel
theorem d_M_feed_26 : decode b_M_feed 26 = .ok (.aload_n 0, 1) := by decide +kernel
theorem d_M_feed_27 : decode b_M_feed 27 = .ok (.getfield 7, 3) := by decide +kernel
theorem d_M_feed_30 : decode b_M_feed 30 = .ok (.aload_n 0, 1) := by decide +kernel
theorem d_M_feed_31 : decode b_M_feed 31 = .ok (.getfield 97, 3) := by decide +kernel
theorem d_M_feed_34 : decode b_M_feed 34 = .ok (.iload_n 1, 1) := by decide +kernel
theorem d_M_feed_35 : decode b_M_feed 35 = .ok (.iastore, 1) := by decide +kernel
theorem d_M_feed_36 : decode b_M_feed 36 = .ok (.aload_n 0, 1) := by decide +kernel
theorem d_M_feed_37 : decode b_M_feed 37 = .ok (.dup, 1) := by decide +kernel
theorem d_M_feed_38 : decode b_M_feed 38 = .ok (.getfield 97, 3) := by decide +kernel
theorem d_M_feed_41 : decode b_M_feed 41 = .ok (.iconst 1, 1) := by decide +kernel
theorem d_M_feed_42 : decode b_M_feed 42 = .ok (.iadd, 1) := by decide +kernel
theorem d_M_feed_43 : decode b_M_feed 43 = .ok (.putfield 97, 3) := by decide +kernel
theorem d_M_feed_46 : decode b_M_feed 46 = .ok (.iconst 1, 1) := by decide +kernel
theorem d_M_feed_47 : decode b_M_feed 47 = .ok (.ireturn, 1) := by decide +kernel
set_option maxRecDepth 20000 in
set_option maxHeartbeats 4000000 in
theorem c_M_feed {D : va_G} {cI cZ cJ : ClassId} {am : Nat → Nat} {mp : Nat} {th : Nat} {cr : Bool} {fd : Nat} {fo : Nat → Int32} {n : Nat} {lo : Nat → Int32} {np : Nat} {ps : Nat → Int32} {pb : Nat → Int32} {ip : Nat → Int32} {nb : Nat} {fr : Nat → Int32} {ln : Nat → Int32} {tr : Nat → Int32} {nv : Nat} {ct : Nat → Int32} {rw : Nat → Int32} {dr : Nat → Int32} {en : Nat} {sw : Nat} {rest : va_W} {lg : Nat → Nat} {S : aS} (hRl : lg_R lo n lg) (hok : cr = false → logOk lg n S) {fn : Nat → Nat} (hfo : foR fo fd fn) {v : Int32} : bC D bcl (tys3 cI cZ cJ) y_M_feed ({ frames := 5, cells := 0, slots := 0, locals := 108 }) (wM am cI cZ mp th cr fd fo n lo np ps pb ip nb fr ln tr nv ct rw dr en sw rest) [.ref (am 0), .int (v)] (bI (fun x ws9 => (cr = true ∧ ∃ (nb1 nv1 en1 sw1 : Nat) (fr1 ln1 tr1 ct1 rw1 dr1 : Nat → Int32), ws9 = wM am cI cZ mp 1 cr fd fo n lo np ps pb ip nb1 fr1 ln1 tr1 nv1 ct1 rw1 dr1 en1 sw1 rest) ∨ (cr = false ∧ ((¬ ((0 ≤ v ∧ v < nI 256) ∧ fd < 24) ∧ x = bB false ∧ ∃ (nb1 nv1 en1 sw1 : Nat) (fr1 ln1 tr1 ct1 rw1 dr1 : Nat → Int32), ws9 = wM am cI cZ mp 0 cr fd fo n lo np ps pb ip nb1 fr1 ln1 tr1 nv1 ct1 rw1 dr1 en1 sw1 rest) ∨ (((0 ≤ v ∧ v < nI 256) ∧ fd < 24) ∧ x = bB true ∧ ∃ fo1 : Nat → Int32, foR fo1 (fd + 1) (fup fn fd v.toNatClampNeg) ∧ ∃ (nb1 nv1 en1 sw1 : Nat) (fr1 ln1 tr1 ct1 rw1 dr1 : Nat → Int32), ws9 = wM am cI cZ mp 0 cr (fd + 1) fo1 n lo np ps pb ip nb1 fr1 ln1 tr1 nv1 ct1 rw1 dr1 en1 sw1 rest)))) bno) := by
  have hf24 := hfo.1
  refine bC.of (by decide) m_M_feed.1 (Nat.le_of_ble_eq_true rfl) ?_
  intro Γ G E0
  show bV D bcl Γ 2 (wM am cI cZ mp th cr fd fo n lo np ps pb ip nb fr ln tr nv ct rw dr en sw rest) 0 0 0 [(0, .ref (am 0)), (1, .int (v))] []
  refine bV.aload_n G d_M_feed_0 rfl ?_
  refine bV.iconst (v := nI 1) G d_M_feed_1 (by decide) ?_
  refine bV.callVi G m_M_isReady bw_619 bw_s26 bw_617 (c_M_isReady (f := 1) hRl hok) 0 rfl rfl rfl rfl rfl ⟨by decide, by decide⟩ ⟨by decide, by decide⟩ (Nat.le_of_ble_eq_true rfl) d_M_feed_2 (fun x9 ws9 h9 => ?_)
  rcases h9 with ⟨hcr, rfl, h9e⟩ | ⟨hcr, rfl, fr1, ln1, tr1, ct1, rw1, dr1, sw1, hdv, h9e⟩
  · rw [h9e]
    try dsimp only
    refine bV.if_eqB (tgt := 24) G d_M_feed_5 (by decide) (fun c5 => ?_) (fun c5 => ?_)
    · refine bV.iconst (v := nI 0) G d_M_feed_24 (by decide) ?_
      refine bV.topi (x := nI 0) (y := bB false) (by decide) ?_
      exact bV.iretI G E0 rfl (bB_n _) (by decide) (by decide) d_M_feed_25 (Or.inl ⟨hcr, nb, nv, en, sw, fr, ln, tr, ct, rw, dr, rfl⟩)
    · cases c5
  · rw [h9e]
    try dsimp only
    have hs := (hok hcr).s
    have hnb := hs.1
    have hnv := hs.2.1
    have h400 := hRl.1
    refine bV.if_eqB (tgt := 24) G d_M_feed_5 (by decide) (fun c5 => ?_) (fun c5 => ?_)
    · cases c5
    · refine bV.iload_n G d_M_feed_8 rfl ?_
      refine bV.callSi G m_M_isByte bw_646 bw_645 (c_M_isByte (v := v)) rfl rfl ⟨by decide, by decide⟩ ⟨by decide, by decide⟩ (Nat.le_of_ble_eq_true rfl) d_M_feed_9 (fun x9 ws9 h9 => ?_)
      obtain ⟨rfl, h9e⟩ := h9
      rw [h9e]
      try dsimp only
      refine bV.if_eqB (tgt := 24) G d_M_feed_12 (by decide) (fun c12 => ?_) (fun c12 => ?_)
      · have hg12 := of_decide_eq_false c12
        refine bV.iconst (v := nI 0) G d_M_feed_24 (by decide) ?_
        refine bV.topi (x := nI 0) (y := bB false) (by decide) ?_
        exact bV.iretI G E0 rfl (bB_n _) (by decide) (by decide) d_M_feed_25 (Or.inr ⟨hcr, Or.inl ⟨fun z => by first | exact hg12 z.1 | (have z2 := z.2; omega), rfl, (sNb S), (sNv S), n, sw1, fr1, ln1, tr1, ct1, rw1, dr1, rfl⟩⟩)
      · have hg12 := of_decide_eq_true c12
        obtain ⟨x, hx, rfl⟩ := nI_btw hg12 (by decide)
        refine bV.aload_n G d_M_feed_15 rfl ?_
        refine bV.getf G cl_M 0 3 rfl (by decide) bw_548 rfl d_M_feed_16 ?_
        refine bV.bipush (v := nI 24) G d_M_feed_19 (by decide) ?_
        refine bV.icmp_neN (tgt := 26) G d_M_feed_21 (by decide) (by omega) (by omega) (fun c21 => ?_) (fun c21 => ?_)
        · refine bV.aload_n G d_M_feed_26 rfl ?_
          refine bV.getf G cl_M 0 4 rfl (by decide) bw_549 rfl d_M_feed_27 ?_
          refine bV.aload_n G d_M_feed_30 rfl ?_
          refine bV.getf G cl_M 0 3 rfl (by decide) bw_548 rfl d_M_feed_31 ?_
          refine bV.iload_n G d_M_feed_34 rfl ?_
          refine bV.iastoreN G (ws' := (wM am cI cZ mp 0 cr fd (upd fo fd ((nI (x)))) n lo np ps pb ip (sNb S) fr1 ln1 tr1 (sNv S) ct1 rw1 dr1 n sw1 rest)) 1 0 rfl rfl (by omega) (by omega) d_M_feed_35 rfl ?_
          refine bV.aload_n G d_M_feed_36 rfl ?_
          refine bV.dup G d_M_feed_37 rfl ?_
          refine bV.getf G cl_M 0 3 rfl (by decide) bw_548 rfl d_M_feed_38 ?_
          refine bV.iconst (v := nI 1) G d_M_feed_41 (by decide) ?_
          refine bV.iaddN G d_M_feed_42 ?_
          refine bV.putf G (ws' := (wM am cI cZ mp 0 cr (fd + 1) (upd fo fd ((nI (x)))) n lo np ps pb ip (sNb S) fr1 ln1 tr1 (sNv S) ct1 rw1 dr1 n sw1 rest)) cl_M 0 3 rfl (by decide) bw_548 rfl rfl rfl (Nat.le_of_ble_eq_true rfl) d_M_feed_43 rfl ?_
          refine bV.iconst (v := nI 1) G d_M_feed_46 (by decide) ?_
          refine bV.topi (x := nI 1) (y := bB true) (by decide) ?_
          exact bV.iretI G E0 rfl (bB_n _) (by decide) (by decide) d_M_feed_47 (Or.inr ⟨hcr, Or.inr ⟨⟨hg12, by omega⟩, rfl, upd fo fd ((nI (x))), ⟨by omega, fun i hi => by rw [nI_clamp (by omega)]; by_cases z : i = fd; rw [z, pk_us, fup_s]; exact ⟨rfl, hx⟩; rw [pk_un z, fup_n z]; exact hfo.2 i (by omega)⟩, (sNb S), (sNv S), n, sw1, fr1, ln1, tr1, ct1, rw1, dr1, rfl⟩⟩)
        · refine bV.iconst (v := nI 0) G d_M_feed_24 (by decide) ?_
          refine bV.topi (x := nI 0) (y := bB false) (by decide) ?_
          exact bV.iretI G E0 rfl (bB_n _) (by decide) (by decide) d_M_feed_25 (Or.inr ⟨hcr, Or.inl ⟨fun z => by first | exact hg12 z.1 | (have z2 := z.2; omega), rfl, (sNb S), (sNv S), n, sw1, fr1, ln1, tr1, ct1, rw1, dr1, rfl⟩⟩)
def eqM (lg : Nat → Nat) (S : aS) (fd : Nat) (fn : Nat → Nat) (j : Nat) : Prop := sTh S j = true ∧ sLn S j = fd ∧ ∀ i, i < fd → lg (sFr S j + i) = fn i
theorem d_M_isFood_0 : decode b_M_isFood 0 = .ok (.aload_n 0, 1) := by decide +kernel
theorem d_M_isFood_1 : decode b_M_isFood 1 = .ok (.getfield 32, 3) := by decide +kernel
theorem d_M_isFood_4 : decode b_M_isFood 4 = .ok (.iload_n 1, 1) := by decide +kernel
theorem d_M_isFood_5 : decode b_M_isFood 5 = .ok (.baload, 1) := by decide +kernel
theorem d_M_isFood_6 : decode b_M_isFood 6 = .ok (.ifCond .eq 20, 3) := by decide +kernel
theorem d_M_isFood_9 : decode b_M_isFood 9 = .ok (.aload_n 0, 1) := by decide +kernel
theorem d_M_isFood_10 : decode b_M_isFood 10 = .ok (.getfield 29, 3) := by decide +kernel
theorem d_M_isFood_13 : decode b_M_isFood 13 = .ok (.iload_n 1, 1) := by decide +kernel
theorem d_M_isFood_14 : decode b_M_isFood 14 = .ok (.iaload, 1) := by decide +kernel
theorem d_M_isFood_15 : decode b_M_isFood 15 = .ok (.aload_n 0, 1) := by decide +kernel
theorem d_M_isFood_16 : decode b_M_isFood 16 = .ok (.getfield 97, 3) := by decide +kernel
theorem d_M_isFood_19 : decode b_M_isFood 19 = .ok (.if_icmp .ne 7, 3) := by decide +kernel
theorem d_M_isFood_22 : decode b_M_isFood 22 = .ok (.iconst 1, 1) := by decide +kernel
theorem d_M_isFood_23 : decode b_M_isFood 23 = .ok (.goto 4, 3) := by decide +kernel
theorem d_M_isFood_26 : decode b_M_isFood 26 = .ok (.iconst 0, 1) := by decide +kernel
theorem d_M_isFood_27 : decode b_M_isFood 27 = .ok (.istore_n 2, 1) := by decide +kernel
theorem d_M_isFood_28 : decode b_M_isFood 28 = .ok (.iconst 0, 1) := by decide +kernel
theorem d_M_isFood_29 : decode b_M_isFood 29 = .ok (.istore_n 3, 1) := by decide +kernel
theorem d_M_isFood_30 : decode b_M_isFood 30 = .ok (.iload_n 3, 1) := by decide +kernel
theorem d_M_isFood_31 : decode b_M_isFood 31 = .ok (.aload_n 0, 1) := by decide +kernel
theorem d_M_isFood_32 : decode b_M_isFood 32 = .ok (.getfield 97, 3) := by decide +kernel
theorem d_M_isFood_35 : decode b_M_isFood 35 = .ok (.if_icmp .ge 41, 3) := by decide +kernel
theorem d_M_isFood_38 : decode b_M_isFood 38 = .ok (.iload_n 2, 1) := by decide +kernel
theorem d_M_isFood_39 : decode b_M_isFood 39 = .ok (.ifCond .eq 37, 3) := by decide +kernel
theorem d_M_isFood_42 : decode b_M_isFood 42 = .ok (.aload_n 0, 1) := by decide +kernel
theorem d_M_isFood_43 : decode b_M_isFood 43 = .ok (.getfield 13, 3) := by decide +kernel
theorem d_M_isFood_46 : decode b_M_isFood 46 = .ok (.aload_n 0, 1) := by decide +kernel
theorem d_M_isFood_47 : decode b_M_isFood 47 = .ok (.getfield 26, 3) := by decide +kernel
theorem d_M_isFood_50 : decode b_M_isFood 50 = .ok (.iload_n 1, 1) := by decide +kernel
theorem d_M_isFood_51 : decode b_M_isFood 51 = .ok (.iaload, 1) := by decide +kernel
theorem d_M_isFood_52 : decode b_M_isFood 52 = .ok (.iload_n 3, 1) := by decide +kernel
theorem d_M_isFood_53 : decode b_M_isFood 53 = .ok (.iadd, 1) := by decide +kernel
theorem d_M_isFood_54 : decode b_M_isFood 54 = .ok (.iaload, 1) := by decide +kernel
theorem d_M_isFood_55 : decode b_M_isFood 55 = .ok (.aload_n 0, 1) := by decide +kernel
theorem d_M_isFood_56 : decode b_M_isFood 56 = .ok (.getfield 7, 3) := by decide +kernel
theorem d_M_isFood_59 : decode b_M_isFood 59 = .ok (.iload_n 3, 1) := by decide +kernel
theorem d_M_isFood_60 : decode b_M_isFood 60 = .ok (.iaload, 1) := by decide +kernel
theorem d_M_isFood_61 : decode b_M_isFood 61 = .ok (.if_icmp .ne 7, 3) := by decide +kernel
theorem d_M_isFood_64 : decode b_M_isFood 64 = .ok (.iconst 1, 1) := by decide +kernel
theorem d_M_isFood_65 : decode b_M_isFood 65 = .ok (.goto 4, 3) := by decide +kernel
theorem d_M_isFood_68 : decode b_M_isFood 68 = .ok (.iconst 0, 1) := by decide +kernel
theorem d_M_isFood_69 : decode b_M_isFood 69 = .ok (.istore_n 2, 1) := by decide +kernel
theorem d_M_isFood_70 : decode b_M_isFood 70 = .ok (.iinc 3 1, 3) := by decide +kernel
theorem d_M_isFood_73 : decode b_M_isFood 73 = .ok (.goto (-43), 3) := by decide +kernel
theorem d_M_isFood_76 : decode b_M_isFood 76 = .ok (.iload_n 2, 1) := by decide +kernel
theorem d_M_isFood_77 : decode b_M_isFood 77 = .ok (.ireturn, 1) := by decide +kernel
set_option maxRecDepth 20000 in
set_option maxHeartbeats 4000000 in
theorem c_M_isFood {D : va_G} {cI cZ cJ : ClassId} {am : Nat → Nat} {mp : Nat} {th : Nat} {cr : Bool} {fd : Nat} {fo : Nat → Int32} {n : Nat} {lo : Nat → Int32} {np : Nat} {ps : Nat → Int32} {pb : Nat → Int32} {ip : Nat → Int32} {fr : Nat → Int32} {ln : Nat → Int32} {tr : Nat → Int32} {ct : Nat → Int32} {rw : Nat → Int32} {dr : Nat → Int32} {en : Nat} {sw : Nat} {rest : va_W} {lg : Nat → Nat} {S : aS} {fn : Nat → Nat} {j : Nat} (hRl : lg_R lo n lg) (hs : okS n S) (hfo : foR fo fd fn) (hdv : dvR S fr ln tr ct rw dr) (hj : j < sNb S) : bC D bcl (tys3 cI cZ cJ) y_M_isFood ({ frames := 0, cells := 0, slots := 0, locals := 0 }) (wM am cI cZ mp th cr fd fo n lo np ps pb ip (sNb S) fr ln tr (sNv S) ct rw dr en sw rest) [.ref (am 0), .int (nI (j))] (bI (fun x ws9 => x = bB (dcd (eqM lg S fd fn j)) ∧ ws9 = wM am cI cZ mp th cr fd fo n lo np ps pb ip (sNb S) fr ln tr (sNv S) ct rw dr en sw rest) bno) := by
  have hf24 := hfo.1
  have hnb := hs.1
  have h400 := hRl.1
  have hfl := hs.2.2.2.2.1 j hj
  refine bC.of (by decide) m_M_isFood.1 (Nat.le_of_ble_eq_true rfl) ?_
  intro Γ G E0
  show bV D bcl Γ 4 (wM am cI cZ mp th cr fd fo n lo np ps pb ip (sNb S) fr ln tr (sNv S) ct rw dr en sw rest) 0 0 0 [(0, .ref (am 0)), (1, .int (nI (j)))] []
  have loop : ∀ (d : Nat) (i : Nat) (sm : Bool), d + i = fd → (sm = true ↔ sTh S j = true ∧ sLn S j = fd ∧ ∀ i0, i0 < i → lg (sFr S j + i0) = fn i0) → bV D bcl Γ 4 (wM am cI cZ mp th cr fd fo n lo np ps pb ip (sNb S) fr ln tr (sNv S) ct rw dr en sw rest) 0 0 30 [(0, .ref (am 0)), (1, .int (nI (j))), (2, .int (bB (sm))), (3, .int (nI (i)))] [] := by
    intro d
    induction d with
    | zero =>
      intro i sm hd hsm
      refine bV.iload_n G d_M_isFood_30 rfl ?_
      refine bV.aload_n G d_M_isFood_31 rfl ?_
      refine bV.getf G cl_M 0 3 rfl (by decide) bw_548 rfl d_M_isFood_32 ?_
      refine bV.icmp_geN (tgt := 76) G d_M_isFood_35 (by decide) (by omega) (by omega) (fun c35 => ?_) (fun c35 => ?_)
      · refine bV.iload_n G d_M_isFood_76 rfl ?_
        exact bV.iretI G E0 rfl (bB_n _) (by decide) (by decide) d_M_isFood_77 ⟨congrArg bB (show sm = dcd _ by cases e : sm; exact (dcd_f (fun z => by have z3 := hsm.mpr ⟨z.1, z.2.1, fun i0 h => z.2.2 i0 (by omega)⟩; rw [e] at z3; cases z3)).symm; first | exact (dcd_t (by have z := hsm.mp e; exact ⟨z.1, z.2.1, fun i0 h => z.2.2 i0 (by omega)⟩)).symm | (rw [e] at c39; cases c39)), rfl⟩
      · exfalso; omega
    | succ d ih =>
      intro i sm hd hsm
      refine bV.iload_n G d_M_isFood_30 rfl ?_
      refine bV.aload_n G d_M_isFood_31 rfl ?_
      refine bV.getf G cl_M 0 3 rfl (by decide) bw_548 rfl d_M_isFood_32 ?_
      refine bV.icmp_geN (tgt := 76) G d_M_isFood_35 (by decide) (by omega) (by omega) (fun c35 => ?_) (fun c35 => ?_)
      · exfalso; omega
      · refine bV.iload_n G d_M_isFood_38 rfl ?_
        refine bV.if_eqB (tgt := 76) G d_M_isFood_39 (by decide) (fun c39 => ?_) (fun c39 => ?_)
        · refine bV.iload_n G d_M_isFood_76 rfl ?_
          exact bV.iretI G E0 rfl (bB_n _) (by decide) (by decide) d_M_isFood_77 ⟨congrArg bB (show sm = dcd _ by cases e : sm; exact (dcd_f (fun z => by have z3 := hsm.mpr ⟨z.1, z.2.1, fun i0 h => z.2.2 i0 (by omega)⟩; rw [e] at z3; cases z3)).symm; first | exact (dcd_t (by have z := hsm.mp e; exact ⟨z.1, z.2.1, fun i0 h => z.2.2 i0 (by omega)⟩)).symm | (rw [e] at c39; cases c39)), rfl⟩
        · have hm := hsm.mp c39
          have hm2 := hm.2.1
          have hb1 := hRl.2.2 (sFr S j + i) (by omega)
          have hb2 := (hfo.2 i (by omega)).2
          refine bV.aload_n G d_M_isFood_42 rfl ?_
          refine bV.getf G cl_M 0 6 rfl (by decide) bw_551 rfl d_M_isFood_43 ?_
          refine bV.aload_n G d_M_isFood_46 rfl ?_
          refine bV.getf G cl_M 0 12 rfl (by decide) bw_557 rfl d_M_isFood_47 ?_
          refine bV.iload_n G d_M_isFood_50 rfl ?_
          refine bV.ialoadN G 6 0 rfl rfl (by omega) (by omega) d_M_isFood_51 ?_
          refine bV.topi (y := (nI (sFr S j))) (hdv.1 _ (by omega)) ?_
          refine bV.iload_n G d_M_isFood_52 rfl ?_
          refine bV.iaddN G d_M_isFood_53 ?_
          refine bV.ialoadN G 2 0 rfl rfl (by omega) (by omega) d_M_isFood_54 ?_
          refine bV.topi (y := (nI (lg ((sFr S j) + i)))) (hRl.2.1 _ (by omega)) ?_
          refine bV.aload_n G d_M_isFood_55 rfl ?_
          refine bV.getf G cl_M 0 4 rfl (by decide) bw_549 rfl d_M_isFood_56 ?_
          refine bV.iload_n G d_M_isFood_59 rfl ?_
          refine bV.ialoadN G 1 0 rfl rfl (by omega) (by omega) d_M_isFood_60 ?_
          refine bV.topi (y := (nI (fn i))) (hfo.2 _ (by omega)).1 ?_
          refine bV.icmp_neN (tgt := 68) G d_M_isFood_61 (by decide) (by omega) (by omega) (fun c61 => ?_) (fun c61 => ?_)
          · refine bV.iconst (v := bB false) G d_M_isFood_68 (by decide) ?_
            refine bV.istore_n G (lv' := [(0, .ref (am 0)), (1, .int (nI (j))), (2, .int (bB (false))), (3, .int (nI (i)))]) d_M_isFood_69 (by decide) rfl rfl ?_
            refine bV.iincN G (lv' := [(0, .ref (am 0)), (1, .int (nI (j))), (2, .int (bB (false))), (3, .int (nI (i + 1)))]) d_M_isFood_70 rfl (by decide) rfl rfl ?_
            refine bV.goto (tgt := 30) G d_M_isFood_73 (by decide) ?_
            exact ih (i + 1) false (by omega) ⟨fun z => (by cases z), fun z => absurd (z.2.2 i (by omega)) c61⟩
          · refine bV.iconst (v := bB true) G d_M_isFood_64 (by decide) ?_
            refine bV.goto (tgt := 69) G d_M_isFood_65 (by decide) ?_
            refine bV.istore_n G (lv' := [(0, .ref (am 0)), (1, .int (nI (j))), (2, .int (bB (true))), (3, .int (nI (i)))]) d_M_isFood_69 (by decide) rfl rfl ?_
            refine bV.iincN G (lv' := [(0, .ref (am 0)), (1, .int (nI (j))), (2, .int (bB (true))), (3, .int (nI (i + 1)))]) d_M_isFood_70 rfl (by decide) rfl rfl ?_
            refine bV.goto (tgt := 30) G d_M_isFood_73 (by decide) ?_
            exact ih (i + 1) true (by omega) ⟨fun _ => ⟨hm.1, hm.2.1, fun i0 h => by rcases Nat.lt_or_ge i0 i with z | z; exact hm.2.2 i0 z; rw [show i0 = i by omega]; exact c61⟩, fun _ => rfl⟩
  refine bV.aload_n G d_M_isFood_0 rfl ?_
  refine bV.getf G cl_M 0 14 rfl (by decide) bw_559 rfl d_M_isFood_1 ?_
  refine bV.iload_n G d_M_isFood_4 rfl ?_
  refine bV.zaloadN G 8 1 rfl rfl (by omega) (by omega) d_M_isFood_5 ?_
  refine bV.topi (y := (bB (sTh S j))) (hdv.2.2.1 _ (by omega)) ?_
  refine bV.if_eqB (tgt := 26) G d_M_isFood_6 (by decide) (fun c6 => ?_) (fun c6 => ?_)
  · refine bV.iconst (v := bB false) G d_M_isFood_26 (by decide) ?_
    refine bV.istore_n G (lv' := [(0, .ref (am 0)), (1, .int (nI (j))), (2, .int (bB (false)))]) d_M_isFood_27 (by decide) rfl rfl ?_
    refine bV.iconst (v := nI 0) G d_M_isFood_28 (by decide) ?_
    refine bV.istore_n G (lv' := [(0, .ref (am 0)), (1, .int (nI (j))), (2, .int (bB (false))), (3, .int (nI (0)))]) d_M_isFood_29 (by decide) rfl rfl ?_
    exact loop fd 0 false (by omega) ⟨fun z => (by cases z), fun z => by first | exact absurd z.2.1 c19 | (have z1 := z.1; rw [c6] at z1; cases z1)⟩
  · refine bV.aload_n G d_M_isFood_9 rfl ?_
    refine bV.getf G cl_M 0 13 rfl (by decide) bw_558 rfl d_M_isFood_10 ?_
    refine bV.iload_n G d_M_isFood_13 rfl ?_
    refine bV.ialoadN G 7 0 rfl rfl (by omega) (by omega) d_M_isFood_14 ?_
    refine bV.topi (y := (nI (sLn S j))) (hdv.2.1 _ (by omega)) ?_
    refine bV.aload_n G d_M_isFood_15 rfl ?_
    refine bV.getf G cl_M 0 3 rfl (by decide) bw_548 rfl d_M_isFood_16 ?_
    refine bV.icmp_neN (tgt := 26) G d_M_isFood_19 (by decide) (by omega) (by omega) (fun c19 => ?_) (fun c19 => ?_)
    · refine bV.iconst (v := bB false) G d_M_isFood_26 (by decide) ?_
      refine bV.istore_n G (lv' := [(0, .ref (am 0)), (1, .int (nI (j))), (2, .int (bB (false)))]) d_M_isFood_27 (by decide) rfl rfl ?_
      refine bV.iconst (v := nI 0) G d_M_isFood_28 (by decide) ?_
      refine bV.istore_n G (lv' := [(0, .ref (am 0)), (1, .int (nI (j))), (2, .int (bB (false))), (3, .int (nI (0)))]) d_M_isFood_29 (by decide) rfl rfl ?_
      exact loop fd 0 false (by omega) ⟨fun z => (by cases z), fun z => by first | exact absurd z.2.1 c19 | (have z1 := z.1; rw [c6] at z1; cases z1)⟩
    · refine bV.iconst (v := bB true) G d_M_isFood_22 (by decide) ?_
      refine bV.goto (tgt := 27) G d_M_isFood_23 (by decide) ?_
      refine bV.istore_n G (lv' := [(0, .ref (am 0)), (1, .int (nI (j))), (2, .int (bB (true)))]) d_M_isFood_27 (by decide) rfl rfl ?_
      refine bV.iconst (v := nI 0) G d_M_isFood_28 (by decide) ?_
      refine bV.istore_n G (lv' := [(0, .ref (am 0)), (1, .int (nI (j))), (2, .int (bB (true))), (3, .int (nI (0)))]) d_M_isFood_29 (by decide) rfl rfl ?_
      exact loop fd 0 true (by omega) ⟨fun _ => ⟨c6, c19, fun i0 h => absurd h (Nat.not_lt_zero _)⟩, fun _ => rfl⟩
theorem d_M_block_0 : decode b_M_block 0 = .ok (.aload_n 0, 1) := by decide +kernel
theorem d_M_block_1 : decode b_M_block 1 = .ok (.iconst 1, 1) := by decide +kernel
theorem d_M_block_2 : decode b_M_block 2 = .ok (.invokevirtual 91, 3) := by decide +kernel
theorem d_M_block_5 : decode b_M_block 5 = .ok (.ifCond .ne 5, 3) := by decide +kernel
theorem d_M_block_8 : decode b_M_block 8 = .ok (.iconst 0, 1) := by decide +kernel
theorem d_M_block_9 : decode b_M_block 9 = .ok (.ireturn, 1) := by decide +kernel
theorem d_M_block_10 : decode b_M_block 10 = .ok (.iconst 0, 1) := by decide +kernel
theorem d_M_block_11 : decode b_M_block 11 = .ok (.istore_n 1, 1) := by decide +kernel
theorem d_M_block_12 : decode b_M_block 12 = .ok (.iload_n 1, 1) := by decide +kernel
theorem d_M_block_13 : decode b_M_block 13 = .ok (.aload_n 0, 1) := by decide +kernel
theorem d_M_block_14 : decode b_M_block 14 = .ok (.getfield 57, 3) := by decide +kernel
theorem d_M_block_17 : decode b_M_block 17 = .ok (.if_icmp .ge 17, 3) := by decide +kernel
theorem d_M_block_20 : decode b_M_block 20 = .ok (.aload_n 0, 1) := by decide +kernel
theorem d_M_block_21 : decode b_M_block 21 = .ok (.iload_n 1, 1) := by decide +kernel
theorem d_M_block_22 : decode b_M_block 22 = .ok (.invokevirtual 100, 3) := by decide +kernel
theorem d_M_block_25 : decode b_M_block 25 = .ok (.ifCond .ne 9, 3) := by decide +kernel
theorem d_M_block_28 : decode b_M_block 28 = .ok (.iinc 1 1, 3) := by decide +kernel
theorem d_M_block_31 : decode b_M_block 31 = .ok (.goto (-19), 3) := by decide +kernel
theorem d_M_block_34 : decode b_M_block 34 = .ok (.iload_n 1, 1) := by decide +kernel
theorem d_M_block_35 : decode b_M_block 35 = .ok (.aload_n 0, 1) := by decide +kernel
theorem d_M_block_36 : decode b_M_block 36 = .ok (.getfield 57, 3) := by decide +kernel
theorem d_M_block_39 : decode b_M_block 39 = .ok (.if_icmp .ge 7, 3) := by decide +kernel
theorem d_M_block_42 : decode b_M_block 42 = .ok (.iconst 1, 1) := by decide +kernel
theorem d_M_block_43 : decode b_M_block 43 = .ok (.goto 4, 3) := by decide +kernel
theorem d_M_block_46 : decode b_M_block 46 = .ok (.iconst 0, 1) := by decide +kernel
theorem d_M_block_47 : decode b_M_block 47 = .ok (.istore_n 2, 1) := by decide +kernel
theorem d_M_block_48 : decode b_M_block 48 = .ok (.iload_n 2, 1) := by decide +kernel
theorem d_M_block_49 : decode b_M_block 49 = .ok (.ifCond .eq 7, 3) := by decide +kernel
theorem d_M_block_52 : decode b_M_block 52 = .ok (.iconst 2, 1) := by decide +kernel
theorem d_M_block_53 : decode b_M_block 53 = .ok (.goto 9, 3) := by decide +kernel
theorem d_M_block_56 : decode b_M_block 56 = .ok (.iconst 2, 1) := by decide +kernel
theorem d_M_block_57 : decode b_M_block 57 = .ok (.aload_n 0, 1) := by decide +kernel
theorem d_M_block_58 : decode b_M_block 58 = .ok (.getfield 97, 3) := by decide +kernel
theorem d_M_block_61 : decode b_M_block 61 = .ok (.iadd, 1) := by decide +kernel
theorem d_M_block_62 : decode b_M_block 62 = .ok (.istore_n 3, 1) := by decide +kernel
theorem d_M_block_63 : decode b_M_block 63 = .ok (.aload_n 0, 1) := by decide +kernel
theorem d_M_block_64 : decode b_M_block 64 = .ok (.getfield 35, 3) := by decide +kernel
theorem d_M_block_67 : decode b_M_block 67 = .ok (.aload_n 0, 1) := by decide +kernel
theorem d_M_block_68 : decode b_M_block 68 = .ok (.getfield 51, 3) := by decide +kernel
theorem d_M_block_71 : decode b_M_block 71 = .ok (.iaload, 1) := by decide +kernel
theorem d_M_block_72 : decode b_M_block 72 = .ok (.bipush 8, 2) := by decide +kernel
theorem d_M_block_74 : decode b_M_block 74 = .ok (.if_icmp .eq 28, 3) := by decide +kernel
theorem d_M_block_77 : decode b_M_block 77 = .ok (.iload_n 2, 1) := by decide +kernel
theorem d_M_block_78 : decode b_M_block 78 = .ok (.ifCond .ne 12, 3) := by decide +kernel
theorem d_M_block_81 : decode b_M_block 81 = .ok (.aload_n 0, 1) := by decide +kernel
theorem d_M_block_82 : decode b_M_block 82 = .ok (.getfield 57, 3) := by decide +kernel
theorem d_M_block_85 : decode b_M_block 85 = .ok (.bipush 24, 2) := by decide +kernel
theorem d_M_block_87 : decode b_M_block 87 = .ok (.if_icmp .eq 15, 3) := by decide +kernel
theorem d_M_block_90 : decode b_M_block 90 = .ok (.aload_n 0, 1) := by decide +kernel
theorem d_M_block_91 : decode b_M_block 91 = .ok (.getfield 64, 3) := by decide +kernel
theorem d_M_block_94 : decode b_M_block 94 = .ok (.iload_n 3, 1) := by decide +kernel
theorem d_M_block_95 : decode b_M_block 95 = .ok (.iadd, 1) := by decide +kernel
theorem d_M_block_96 : decode b_M_block 96 = .ok (.sipush 400, 3) := by decide +kernel
theorem d_M_block_99 : decode b_M_block 99 = .ok (.if_icmp .le 5, 3) := by decide +kernel
theorem d_M_block_102 : decode b_M_block 102 = .ok (.iconst (-1), 1) := by decide +kernel
theorem d_M_block_103 : decode b_M_block 103 = .ok (.ireturn, 1) := by decide +kernel
theorem d_M_block_104 : decode b_M_block 104 = .ok (.aload_n 0, 1) := by decide +kernel
theorem d_M_block_105 : decode b_M_block 105 = .ok (.iload_n 2, 1) := by decide +kernel
theorem d_M_block_106 : decode b_M_block 106 = .ok (.ifCond .eq 7, 3) := by decide +kernel
theorem d_M_block_109 : decode b_M_block 109 = .ok (.iconst 2, 1) := by decide +kernel
theorem d_M_block_110 : decode b_M_block 110 = .ok (.goto 4, 3) := by decide +kernel
theorem d_M_block_113 : decode b_M_block 113 = .ok (.iconst 1, 1) := by decide +kernel
theorem d_M_block_114 : decode b_M_block 114 = .ok (.invokevirtual 103, 3) := by decide +kernel
theorem d_M_block_117 : decode b_M_block 117 = .ok (.aload_n 0, 1) := by decide +kernel
theorem d_M_block_118 : decode b_M_block 118 = .ok (.iload_n 2, 1) := by decide +kernel
theorem d_M_block_119 : decode b_M_block 119 = .ok (.ifCond .eq 7, 3) := by decide +kernel
theorem d_M_block_122 : decode b_M_block 122 = .ok (.iload_n 1, 1) := by decide +kernel
theorem d_M_block_123 : decode b_M_block 123 = .ok (.goto 7, 3) := by decide +kernel
theorem d_M_block_126 : decode b_M_block 126 = .ok (.aload_n 0, 1) := by decide +kernel
theorem d_M_block_127 : decode b_M_block 127 = .ok (.getfield 97, 3) := by decide +kernel
theorem d_M_block_130 : decode b_M_block 130 = .ok (.invokevirtual 103, 3) := by decide +kernel
theorem d_M_block_133 : decode b_M_block 133 = .ok (.iconst 0, 1) := by decide +kernel
theorem d_M_block_134 : decode b_M_block 134 = .ok (.istore 4, 2) := by decide +kernel
theorem d_M_block_136 : decode b_M_block 136 = .ok (.iload 4, 2) := by decide +kernel
theorem d_M_block_138 : decode b_M_block 138 = .ok (.aload_n 0, 1) := by decide +kernel
theorem d_M_block_139 : decode b_M_block 139 = .ok (.getfield 97, 3) := by decide +kernel
theorem d_M_block_142 : decode b_M_block 142 = .ok (.if_icmp .ge 24, 3) := by decide +kernel
theorem d_M_block_145 : decode b_M_block 145 = .ok (.iload_n 2, 1) := by decide +kernel
theorem d_M_block_146 : decode b_M_block 146 = .ok (.ifCond .ne 20, 3) := by decide +kernel
theorem d_M_block_149 : decode b_M_block 149 = .ok (.aload_n 0, 1) := by decide +kernel
theorem d_M_block_150 : decode b_M_block 150 = .ok (.aload_n 0, 1) := by decide +kernel
theorem d_M_block_151 : decode b_M_block 151 = .ok (.getfield 7, 3) := by decide +kernel
theorem d_M_block_154 : decode b_M_block 154 = .ok (.iload 4, 2) := by decide +kernel
theorem d_M_block_156 : decode b_M_block 156 = .ok (.iaload, 1) := by decide +kernel
theorem d_M_block_157 : decode b_M_block 157 = .ok (.invokevirtual 103, 3) := by decide +kernel
theorem d_M_block_160 : decode b_M_block 160 = .ok (.iinc 4 1, 3) := by decide +kernel
theorem d_M_block_163 : decode b_M_block 163 = .ok (.goto (-27), 3) := by decide +kernel
theorem d_M_block_166 : decode b_M_block 166 = .ok (.aload_n 0, 1) := by decide +kernel
theorem d_M_block_167 : decode b_M_block 167 = .ok (.iconst 0, 1) := by decide +kernel
theorem d_M_block_168 : decode b_M_block 168 = .ok (.putfield 97, 3) := by decide +kernel
theorem d_M_block_171 : decode b_M_block 171 = .ok (.iload_n 1, 1) := by decide +kernel
theorem d_M_block_172 : decode b_M_block 172 = .ok (.ireturn, 1) := by decide +kernel
set_option maxRecDepth 20000 in
set_option maxHeartbeats 4000000 in
theorem c_M_block {D : va_G} {cI cZ cJ : ClassId} {am : Nat → Nat} {mp : Nat} {th : Nat} {cr : Bool} {fd : Nat} {fo : Nat → Int32} {n : Nat} {lo : Nat → Int32} {np : Nat} {ps : Nat → Int32} {pb : Nat → Int32} {ip : Nat → Int32} {nb : Nat} {fr : Nat → Int32} {ln : Nat → Int32} {tr : Nat → Int32} {nv : Nat} {ct : Nat → Int32} {rw : Nat → Int32} {dr : Nat → Int32} {en : Nat} {sw : Nat} {rest : va_W} {lg : Nat → Nat} {S : aS} (hRl : lg_R lo n lg) (hok : cr = false → logOk lg n S) {fn : Nat → Nat} (hfo : foR fo fd fn) : bC D bcl (tys3 cI cZ cJ) y_M_block ({ frames := 5, cells := 0, slots := 0, locals := 108 }) (wM am cI cZ mp th cr fd fo n lo np ps pb ip nb fr ln tr nv ct rw dr en sw rest) [.ref (am 0)] (bI (fun x ws9 => (cr = true ∧ ∃ (nb1 nv1 en1 sw1 : Nat) (fr1 ln1 tr1 ct1 rw1 dr1 : Nat → Int32), ws9 = wM am cI cZ mp 1 cr fd fo n lo np ps pb ip nb1 fr1 ln1 tr1 nv1 ct1 rw1 dr1 en1 sw1 rest) ∨ (cr = false ∧ ((8 ≤ sCt S (sNv S) ∧ x = -1 ∧ ∃ (nb1 nv1 en1 sw1 : Nat) (fr1 ln1 tr1 ct1 rw1 dr1 : Nat → Int32), ws9 = wM am cI cZ mp 0 cr fd fo n lo np ps pb ip nb1 fr1 ln1 tr1 nv1 ct1 rw1 dr1 en1 sw1 rest) ∨ (sCt S (sNv S) < 8 ∧ ((∃ j, j < sNb S ∧ eqM lg S fd fn j ∧ (∀ j0, j0 < j → ¬ eqM lg S fd fn j0) ∧ ((400 < n + 2 ∧ x = -1 ∧ ∃ (nb1 nv1 en1 sw1 : Nat) (fr1 ln1 tr1 ct1 rw1 dr1 : Nat → Int32), ws9 = wM am cI cZ mp 0 cr fd fo n lo np ps pb ip nb1 fr1 ln1 tr1 nv1 ct1 rw1 dr1 en1 sw1 rest) ∨ (n + 2 ≤ 400 ∧ x = nI j ∧ ∃ lo1 : Nat → Int32, lg_R lo1 (n + 2) (rec2 lg n 2 j) ∧ ∃ (nb1 nv1 en1 sw1 : Nat) (fr1 ln1 tr1 ct1 rw1 dr1 : Nat → Int32), ws9 = wM am cI cZ mp 0 cr 0 fo (n + 2) lo1 np ps pb ip nb1 fr1 ln1 tr1 nv1 ct1 rw1 dr1 en1 sw1 rest))) ∨ ((∀ j, j < sNb S → ¬ eqM lg S fd fn j) ∧ (((sNb S = 24 ∨ 400 < n + 2 + fd) ∧ x = -1 ∧ ∃ (nb1 nv1 en1 sw1 : Nat) (fr1 ln1 tr1 ct1 rw1 dr1 : Nat → Int32), ws9 = wM am cI cZ mp 0 cr fd fo n lo np ps pb ip nb1 fr1 ln1 tr1 nv1 ct1 rw1 dr1 en1 sw1 rest) ∨ ((sNb S < 24 ∧ n + 2 + fd ≤ 400) ∧ x = nI (sNb S) ∧ ∃ lo1 : Nat → Int32, lg_R lo1 (n + 2 + fd) (rec1 lg n fd fn) ∧ ∃ (nb1 nv1 en1 sw1 : Nat) (fr1 ln1 tr1 ct1 rw1 dr1 : Nat → Int32), ws9 = wM am cI cZ mp 0 cr 0 fo (n + 2 + fd) lo1 np ps pb ip nb1 fr1 ln1 tr1 nv1 ct1 rw1 dr1 en1 sw1 rest)))))))) bno) := by
  have hf24 := hfo.1
  refine bC.of (by decide) m_M_block.1 (Nat.le_of_ble_eq_true rfl) ?_
  intro Γ G E0
  show bV D bcl Γ 5 (wM am cI cZ mp th cr fd fo n lo np ps pb ip nb fr ln tr nv ct rw dr en sw rest) 0 0 0 [(0, .ref (am 0))] []
  have lw : ∀ (d : Nat) (fr1 ln1 tr1 ct1 rw1 dr1 : Nat → Int32) (sw1 : Nat) (j i : Nat) (lz : Nat → Int32), cr = false → dvR S fr1 ln1 tr1 ct1 rw1 dr1 → j = sNb S → (∀ j0, j0 < j → ¬ eqM lg S fd fn j0) → sCt S (sNv S) < 8 → sNb S < 24 → n + 2 + fd ≤ 400 → d + i = fd → lg_R lz (n + 2 + i) (apB (fup (fup lg n 1) (n + 1) fd) (n + 2) fn i) → bV D bcl Γ 5 (wM am cI cZ mp 0 cr fd fo (n + 2 + i) lz np ps pb ip (sNb S) fr1 ln1 tr1 (sNv S) ct1 rw1 dr1 n sw1 rest) 0 0 136 [(0, .ref (am 0)), (1, .int (nI (j))), (2, .int (bB (false))), (3, .int (nI (2 + fd))), (4, .int (nI (i)))] [] := by
    intro d
    induction d with
    | zero =>
      intro fr1 ln1 tr1 ct1 rw1 dr1 sw1 j i lz hcr hdv hj9 hn h74 h87 h99 hd hLz
      have hs := (hok hcr).s
      have hnb := hs.1
      have hnv := hs.2.1
      have h400 := hRl.1
      refine bV.iload G d_M_block_136 rfl ?_
      refine bV.aload_n G d_M_block_138 rfl ?_
      refine bV.getf G cl_M 0 3 rfl (by decide) bw_548 rfl d_M_block_139 ?_
      refine bV.icmp_geN (tgt := 166) G d_M_block_142 (by decide) (by omega) (by omega) (fun c142 => ?_) (fun c142 => ?_)
      · refine bV.aload_n G d_M_block_166 rfl ?_
        refine bV.iconst (v := nI 0) G d_M_block_167 (by decide) ?_
        refine bV.putf G (ws' := (wM am cI cZ mp 0 cr 0 fo (n + 2 + i) lz np ps pb ip (sNb S) fr1 ln1 tr1 (sNv S) ct1 rw1 dr1 n sw1 rest)) cl_M 0 3 rfl (by decide) bw_548 rfl rfl rfl (Nat.le_of_ble_eq_true rfl) d_M_block_168 rfl ?_
        refine bV.iload_n G d_M_block_171 rfl ?_
        exact bV.iretI G E0 rfl rfl (by decide) (by decide) d_M_block_172 (Or.inr ⟨hcr, by obtain rfl : i = fd := (by omega); exact Or.inr ⟨by omega, Or.inr ⟨fun j1 h => hn j1 (by omega), Or.inr ⟨⟨by omega, by omega⟩, congrArg nI (by omega), lz, hLz, (sNb S), (sNv S), n, sw1, fr1, ln1, tr1, ct1, rw1, dr1, rfl⟩⟩⟩⟩)
      · exfalso; omega
    | succ d ih =>
      intro fr1 ln1 tr1 ct1 rw1 dr1 sw1 j i lz hcr hdv hj9 hn h74 h87 h99 hd hLz
      have hs := (hok hcr).s
      have hnb := hs.1
      have hnv := hs.2.1
      have h400 := hRl.1
      refine bV.iload G d_M_block_136 rfl ?_
      refine bV.aload_n G d_M_block_138 rfl ?_
      refine bV.getf G cl_M 0 3 rfl (by decide) bw_548 rfl d_M_block_139 ?_
      refine bV.icmp_geN (tgt := 166) G d_M_block_142 (by decide) (by omega) (by omega) (fun c142 => ?_) (fun c142 => ?_)
      · exfalso; omega
      · refine bV.iload_n G d_M_block_145 rfl ?_
        refine bV.if_neB (tgt := 166) G d_M_block_146 (by decide) (fun c146 => ?_) (fun c146 => ?_)
        · cases c146
        · refine bV.aload_n G d_M_block_149 rfl ?_
          refine bV.aload_n G d_M_block_150 rfl ?_
          refine bV.getf G cl_M 0 4 rfl (by decide) bw_549 rfl d_M_block_151 ?_
          refine bV.iload G d_M_block_154 rfl ?_
          have hb2 := (hfo.2 i (by omega)).2
          refine bV.ialoadN G 1 0 rfl rfl (by omega) (by omega) d_M_block_156 ?_
          refine bV.topi (y := (nI (fn i))) (hfo.2 _ (by omega)).1 ?_
          refine bV.callVo G m_M_write bw_658 bw_s34 bw_656 (c_M_write (x := fn i) hLz (by omega) (by omega)) 0 rfl rfl rfl rfl rfl ⟨by decide, by decide⟩ ⟨by decide, by decide⟩ (Nat.le_of_ble_eq_true rfl) d_M_block_157 (fun ws9 h9 => ?_)
          obtain ⟨lo101, hL101, h9e⟩ := h9
          rw [h9e]
          refine bV.iincN G (lv' := [(0, .ref (am 0)), (1, .int (nI (j))), (2, .int (bB (false))), (3, .int (nI (2 + fd))), (4, .int (nI (i + 1)))]) d_M_block_160 rfl (by decide) rfl rfl ?_
          refine bV.goto (tgt := 136) G d_M_block_163 (by decide) ?_
          exact ih fr1 ln1 tr1 ct1 rw1 dr1 sw1 j (i + 1) lo101 hcr hdv hj9 hn h74 h87 h99 (by omega) (by rw [← apB_s]; exact hL101)
  have loop : ∀ (d : Nat) (fr1 ln1 tr1 ct1 rw1 dr1 : Nat → Int32) (sw1 : Nat) (j : Nat), cr = false → dvR S fr1 ln1 tr1 ct1 rw1 dr1 → d + j = sNb S → (∀ j0, j0 < j → ¬ eqM lg S fd fn j0) → bV D bcl Γ 5 (wM am cI cZ mp 0 cr fd fo n lo np ps pb ip (sNb S) fr1 ln1 tr1 (sNv S) ct1 rw1 dr1 n sw1 rest) 0 0 12 [(0, .ref (am 0)), (1, .int (nI (j)))] [] := by
    intro d
    induction d with
    | zero =>
      intro fr1 ln1 tr1 ct1 rw1 dr1 sw1 j hcr hdv hd hn
      have hs := (hok hcr).s
      have hnb := hs.1
      have hnv := hs.2.1
      have h400 := hRl.1
      refine bV.iload_n G d_M_block_12 rfl ?_
      refine bV.aload_n G d_M_block_13 rfl ?_
      refine bV.getf G cl_M 0 11 rfl (by decide) bw_556 rfl d_M_block_14 ?_
      refine bV.icmp_geN (tgt := 34) G d_M_block_17 (by decide) (by omega) (by omega) (fun c17 => ?_) (fun c17 => ?_)
      · refine bV.iload_n G d_M_block_34 rfl ?_
        refine bV.aload_n G d_M_block_35 rfl ?_
        refine bV.getf G cl_M 0 11 rfl (by decide) bw_556 rfl d_M_block_36 ?_
        refine bV.icmp_geN (tgt := 46) G d_M_block_39 (by decide) (by omega) (by omega) (fun c39 => ?_) (fun c39 => ?_)
        · refine bV.iconst (v := bB false) G d_M_block_46 (by decide) ?_
          refine bV.istore_n G (lv' := [(0, .ref (am 0)), (1, .int (nI (j))), (2, .int (bB (false)))]) d_M_block_47 (by decide) rfl rfl ?_
          refine bV.iload_n G d_M_block_48 rfl ?_
          refine bV.if_eqB (tgt := 56) G d_M_block_49 (by decide) (fun c49 => ?_) (fun c49 => ?_)
          · refine bV.iconst (v := nI 2) G d_M_block_56 (by decide) ?_
            refine bV.aload_n G d_M_block_57 rfl ?_
            refine bV.getf G cl_M 0 3 rfl (by decide) bw_548 rfl d_M_block_58 ?_
            refine bV.iaddN G d_M_block_61 ?_
            refine bV.istore_n G (lv' := [(0, .ref (am 0)), (1, .int (nI (j))), (2, .int (bB (false))), (3, .int (nI (2 + fd)))]) d_M_block_62 (by decide) rfl rfl ?_
            have hct9 : lvS S (sNv S) = sCt S (sNv S) := lenV_f (dr_nv hs (Nat.le_refl _))
            have hc8 := hs.2.2.1 (sNv S) (Nat.le_refl _)
            refine bV.aload_n G d_M_block_63 rfl ?_
            refine bV.getf G cl_M 0 16 rfl (by decide) bw_561 rfl d_M_block_64 ?_
            refine bV.aload_n G d_M_block_67 rfl ?_
            refine bV.getf G cl_M 0 15 rfl (by decide) bw_560 rfl d_M_block_68 ?_
            refine bV.ialoadN G 9 0 rfl rfl (by omega) (by omega) d_M_block_71 ?_
            refine bV.topi (y := (nI (lvS S (sNv S)))) (hdv.2.2.2.1 _ (by omega)) ?_
            refine bV.bipush (v := nI 8) G d_M_block_72 (by decide) ?_
            refine bV.icmp_eqN (tgt := 102) G d_M_block_74 (by decide) (by omega) (by omega) (fun c74 => ?_) (fun c74 => ?_)
            · have h74 : sCt S (sNv S) = 8 := by omega
              refine bV.iconst (v := (-1)) G d_M_block_102 (by decide) ?_
              exact bV.iretI G E0 rfl rfl (by decide) (by decide) d_M_block_103 (Or.inr ⟨hcr, by first | exact Or.inl ⟨by omega, rfl, (sNb S), (sNv S), n, sw1, fr1, ln1, tr1, ct1, rw1, dr1, rfl⟩ | exact Or.inr ⟨by omega, Or.inr ⟨fun j1 h => hn j1 (by omega), Or.inl ⟨by omega, rfl, (sNb S), (sNv S), n, sw1, fr1, ln1, tr1, ct1, rw1, dr1, rfl⟩⟩⟩⟩)
            · have h74 : sCt S (sNv S) < 8 := by omega
              refine bV.iload_n G d_M_block_77 rfl ?_
              refine bV.if_neB (tgt := 90) G d_M_block_78 (by decide) (fun c78 => ?_) (fun c78 => ?_)
              · cases c78
              · refine bV.aload_n G d_M_block_81 rfl ?_
                refine bV.getf G cl_M 0 11 rfl (by decide) bw_556 rfl d_M_block_82 ?_
                refine bV.bipush (v := nI 24) G d_M_block_85 (by decide) ?_
                refine bV.icmp_eqN (tgt := 102) G d_M_block_87 (by decide) (by omega) (by omega) (fun c87 => ?_) (fun c87 => ?_)
                · refine bV.iconst (v := (-1)) G d_M_block_102 (by decide) ?_
                  exact bV.iretI G E0 rfl rfl (by decide) (by decide) d_M_block_103 (Or.inr ⟨hcr, by first | exact Or.inl ⟨by omega, rfl, (sNb S), (sNv S), n, sw1, fr1, ln1, tr1, ct1, rw1, dr1, rfl⟩ | exact Or.inr ⟨by omega, Or.inr ⟨fun j1 h => hn j1 (by omega), Or.inl ⟨by omega, rfl, (sNb S), (sNv S), n, sw1, fr1, ln1, tr1, ct1, rw1, dr1, rfl⟩⟩⟩⟩)
                · have h87 : sNb S < 24 := by omega
                  refine bV.aload_n G d_M_block_90 rfl ?_
                  refine bV.getf G cl_M 0 5 rfl (by decide) bw_550 rfl d_M_block_91 ?_
                  refine bV.iload_n G d_M_block_94 rfl ?_
                  refine bV.iaddN G d_M_block_95 ?_
                  refine bV.sipush (v := nI 400) G d_M_block_96 (by decide) ?_
                  refine bV.icmp_leN (tgt := 104) G d_M_block_99 (by decide) (by omega) (by omega) (fun c99 => ?_) (fun c99 => ?_)
                  · have h99 : n + 2 + fd ≤ 400 := by omega
                    refine bV.aload_n G d_M_block_104 rfl ?_
                    refine bV.iload_n G d_M_block_105 rfl ?_
                    refine bV.if_eqB (tgt := 113) G d_M_block_106 (by decide) (fun c106 => ?_) (fun c106 => ?_)
                    · refine bV.iconst (v := nI 1) G d_M_block_113 (by decide) ?_
                      refine bV.callVo G m_M_write bw_658 bw_s34 bw_656 (c_M_write (x := 1) hRl (by omega) (by omega)) 0 rfl rfl rfl rfl rfl ⟨by decide, by decide⟩ ⟨by decide, by decide⟩ (Nat.le_of_ble_eq_true rfl) d_M_block_114 (fun ws9 h9 => ?_)
                      obtain ⟨lo201, hL201, h9e⟩ := h9
                      rw [h9e]
                      refine bV.aload_n G d_M_block_117 rfl ?_
                      refine bV.iload_n G d_M_block_118 rfl ?_
                      refine bV.if_eqB (tgt := 126) G d_M_block_119 (by decide) (fun c119 => ?_) (fun c119 => ?_)
                      · refine bV.aload_n G d_M_block_126 rfl ?_
                        refine bV.getf G cl_M 0 3 rfl (by decide) bw_548 rfl d_M_block_127 ?_
                        refine bV.callVo G m_M_write bw_658 bw_s34 bw_656 (c_M_write (x := fd) hL201 (by omega) (by omega)) 0 rfl rfl rfl rfl rfl ⟨by decide, by decide⟩ ⟨by decide, by decide⟩ (Nat.le_of_ble_eq_true rfl) d_M_block_130 (fun ws9 h9 => ?_)
                        obtain ⟨lo202, hL202, h9e⟩ := h9
                        rw [h9e]
                        refine bV.iconst (v := nI 0) G d_M_block_133 (by decide) ?_
                        refine bV.istore G (lv' := [(0, .ref (am 0)), (1, .int (nI (j))), (2, .int (bB (false))), (3, .int (nI (2 + fd))), (4, .int (nI (0)))]) d_M_block_134 (by decide) rfl rfl ?_
                        exact lw fd fr1 ln1 tr1 ct1 rw1 dr1 sw1 j 0 lo202 hcr hdv (by omega) hn h74 h87 h99 (by omega) (by rw [apB_0]; exact hL202)
                      · cases c119
                    · cases c106
                  · refine bV.iconst (v := (-1)) G d_M_block_102 (by decide) ?_
                    exact bV.iretI G E0 rfl rfl (by decide) (by decide) d_M_block_103 (Or.inr ⟨hcr, by first | exact Or.inl ⟨by omega, rfl, (sNb S), (sNv S), n, sw1, fr1, ln1, tr1, ct1, rw1, dr1, rfl⟩ | exact Or.inr ⟨by omega, Or.inr ⟨fun j1 h => hn j1 (by omega), Or.inl ⟨by omega, rfl, (sNb S), (sNv S), n, sw1, fr1, ln1, tr1, ct1, rw1, dr1, rfl⟩⟩⟩⟩)
          · cases c49
        · exfalso; omega
      · exfalso; omega
    | succ d ih =>
      intro fr1 ln1 tr1 ct1 rw1 dr1 sw1 j hcr hdv hd hn
      have hs := (hok hcr).s
      have hnb := hs.1
      have hnv := hs.2.1
      have h400 := hRl.1
      refine bV.iload_n G d_M_block_12 rfl ?_
      refine bV.aload_n G d_M_block_13 rfl ?_
      refine bV.getf G cl_M 0 11 rfl (by decide) bw_556 rfl d_M_block_14 ?_
      refine bV.icmp_geN (tgt := 34) G d_M_block_17 (by decide) (by omega) (by omega) (fun c17 => ?_) (fun c17 => ?_)
      · exfalso; omega
      · refine bV.aload_n G d_M_block_20 rfl ?_
        refine bV.iload_n G d_M_block_21 rfl ?_
        refine bV.callVi G m_M_isFood bw_654 bw_s33 bw_652 (c_M_isFood (j := j) hRl hs hfo hdv (by omega)) 0 rfl rfl rfl rfl rfl ⟨by decide, by decide⟩ ⟨by decide, by decide⟩ (Nat.le_of_ble_eq_true rfl) d_M_block_22 (fun x9 ws9 h9 => ?_)
        obtain ⟨rfl, h9e⟩ := h9
        rw [h9e]
        try dsimp only
        refine bV.if_neB (tgt := 34) G d_M_block_25 (by decide) (fun c25 => ?_) (fun c25 => ?_)
        · have hjq : eqM lg S fd fn j := Classical.byContradiction fun z => by rw [dcd_f z] at c25; cases c25
          refine bV.iload_n G d_M_block_34 rfl ?_
          refine bV.aload_n G d_M_block_35 rfl ?_
          refine bV.getf G cl_M 0 11 rfl (by decide) bw_556 rfl d_M_block_36 ?_
          refine bV.icmp_geN (tgt := 46) G d_M_block_39 (by decide) (by omega) (by omega) (fun c39 => ?_) (fun c39 => ?_)
          · exfalso; omega
          · refine bV.iconst (v := bB true) G d_M_block_42 (by decide) ?_
            refine bV.goto (tgt := 47) G d_M_block_43 (by decide) ?_
            refine bV.istore_n G (lv' := [(0, .ref (am 0)), (1, .int (nI (j))), (2, .int (bB (true)))]) d_M_block_47 (by decide) rfl rfl ?_
            refine bV.iload_n G d_M_block_48 rfl ?_
            refine bV.if_eqB (tgt := 56) G d_M_block_49 (by decide) (fun c49 => ?_) (fun c49 => ?_)
            · cases c49
            · refine bV.iconst (v := nI 2) G d_M_block_52 (by decide) ?_
              refine bV.goto (tgt := 62) G d_M_block_53 (by decide) ?_
              refine bV.istore_n G (lv' := [(0, .ref (am 0)), (1, .int (nI (j))), (2, .int (bB (true))), (3, .int (nI (2)))]) d_M_block_62 (by decide) rfl rfl ?_
              have hct9 : lvS S (sNv S) = sCt S (sNv S) := lenV_f (dr_nv hs (Nat.le_refl _))
              have hc8 := hs.2.2.1 (sNv S) (Nat.le_refl _)
              refine bV.aload_n G d_M_block_63 rfl ?_
              refine bV.getf G cl_M 0 16 rfl (by decide) bw_561 rfl d_M_block_64 ?_
              refine bV.aload_n G d_M_block_67 rfl ?_
              refine bV.getf G cl_M 0 15 rfl (by decide) bw_560 rfl d_M_block_68 ?_
              refine bV.ialoadN G 9 0 rfl rfl (by omega) (by omega) d_M_block_71 ?_
              refine bV.topi (y := (nI (lvS S (sNv S)))) (hdv.2.2.2.1 _ (by omega)) ?_
              refine bV.bipush (v := nI 8) G d_M_block_72 (by decide) ?_
              refine bV.icmp_eqN (tgt := 102) G d_M_block_74 (by decide) (by omega) (by omega) (fun c74 => ?_) (fun c74 => ?_)
              · have h74 : sCt S (sNv S) = 8 := by omega
                refine bV.iconst (v := (-1)) G d_M_block_102 (by decide) ?_
                exact bV.iretI G E0 rfl rfl (by decide) (by decide) d_M_block_103 (Or.inr ⟨hcr, by first | exact Or.inl ⟨by omega, rfl, (sNb S), (sNv S), n, sw1, fr1, ln1, tr1, ct1, rw1, dr1, rfl⟩ | exact Or.inr ⟨by omega, Or.inl ⟨j, by omega, hjq, hn, Or.inl ⟨by omega, rfl, (sNb S), (sNv S), n, sw1, fr1, ln1, tr1, ct1, rw1, dr1, rfl⟩⟩⟩⟩)
              · have h74 : sCt S (sNv S) < 8 := by omega
                refine bV.iload_n G d_M_block_77 rfl ?_
                refine bV.if_neB (tgt := 90) G d_M_block_78 (by decide) (fun c78 => ?_) (fun c78 => ?_)
                · refine bV.aload_n G d_M_block_90 rfl ?_
                  refine bV.getf G cl_M 0 5 rfl (by decide) bw_550 rfl d_M_block_91 ?_
                  refine bV.iload_n G d_M_block_94 rfl ?_
                  refine bV.iaddN G d_M_block_95 ?_
                  refine bV.sipush (v := nI 400) G d_M_block_96 (by decide) ?_
                  refine bV.icmp_leN (tgt := 104) G d_M_block_99 (by decide) (by omega) (by omega) (fun c99 => ?_) (fun c99 => ?_)
                  · have h99 := c99
                    refine bV.aload_n G d_M_block_104 rfl ?_
                    refine bV.iload_n G d_M_block_105 rfl ?_
                    refine bV.if_eqB (tgt := 113) G d_M_block_106 (by decide) (fun c106 => ?_) (fun c106 => ?_)
                    · cases c106
                    · refine bV.iconst (v := nI 2) G d_M_block_109 (by decide) ?_
                      refine bV.goto (tgt := 114) G d_M_block_110 (by decide) ?_
                      refine bV.callVo G m_M_write bw_658 bw_s34 bw_656 (c_M_write (x := 2) hRl (by omega) (by omega)) 0 rfl rfl rfl rfl rfl ⟨by decide, by decide⟩ ⟨by decide, by decide⟩ (Nat.le_of_ble_eq_true rfl) d_M_block_114 (fun ws9 h9 => ?_)
                      obtain ⟨lo201, hL201, h9e⟩ := h9
                      rw [h9e]
                      refine bV.aload_n G d_M_block_117 rfl ?_
                      refine bV.iload_n G d_M_block_118 rfl ?_
                      refine bV.if_eqB (tgt := 126) G d_M_block_119 (by decide) (fun c119 => ?_) (fun c119 => ?_)
                      · cases c119
                      · refine bV.iload_n G d_M_block_122 rfl ?_
                        refine bV.goto (tgt := 130) G d_M_block_123 (by decide) ?_
                        refine bV.callVo G m_M_write bw_658 bw_s34 bw_656 (c_M_write (x := j) hL201 (by omega) (by omega)) 0 rfl rfl rfl rfl rfl ⟨by decide, by decide⟩ ⟨by decide, by decide⟩ (Nat.le_of_ble_eq_true rfl) d_M_block_130 (fun ws9 h9 => ?_)
                        obtain ⟨lo202, hL202, h9e⟩ := h9
                        rw [h9e]
                        refine bV.iconst (v := nI 0) G d_M_block_133 (by decide) ?_
                        refine bV.istore G (lv' := [(0, .ref (am 0)), (1, .int (nI (j))), (2, .int (bB (true))), (3, .int (nI (2))), (4, .int (nI (0)))]) d_M_block_134 (by decide) rfl rfl ?_
                        refine bV.iload G d_M_block_136 rfl ?_
                        refine bV.aload_n G d_M_block_138 rfl ?_
                        refine bV.getf G cl_M 0 3 rfl (by decide) bw_548 rfl d_M_block_139 ?_
                        refine bV.icmp_geN (tgt := 166) G d_M_block_142 (by decide) (by omega) (by omega) (fun c142 => ?_) (fun c142 => ?_)
                        · refine bV.aload_n G d_M_block_166 rfl ?_
                          refine bV.iconst (v := nI 0) G d_M_block_167 (by decide) ?_
                          refine bV.putf G (ws' := (wM am cI cZ mp 0 cr 0 fo ((n + 1) + 1) lo202 np ps pb ip (sNb S) fr1 ln1 tr1 (sNv S) ct1 rw1 dr1 n sw1 rest)) cl_M 0 3 rfl (by decide) bw_548 rfl rfl rfl (Nat.le_of_ble_eq_true rfl) d_M_block_168 rfl ?_
                          refine bV.iload_n G d_M_block_171 rfl ?_
                          exact bV.iretI G E0 rfl rfl (by decide) (by decide) d_M_block_172 (Or.inr ⟨hcr, Or.inr ⟨by omega, Or.inl ⟨j, by omega, hjq, hn, Or.inr ⟨by omega, rfl, lo202, hL202, (sNb S), (sNv S), n, sw1, fr1, ln1, tr1, ct1, rw1, dr1, rfl⟩⟩⟩⟩)
                        · refine bV.iload_n G d_M_block_145 rfl ?_
                          refine bV.if_neB (tgt := 166) G d_M_block_146 (by decide) (fun c146 => ?_) (fun c146 => ?_)
                          · refine bV.aload_n G d_M_block_166 rfl ?_
                            refine bV.iconst (v := nI 0) G d_M_block_167 (by decide) ?_
                            refine bV.putf G (ws' := (wM am cI cZ mp 0 cr 0 fo ((n + 1) + 1) lo202 np ps pb ip (sNb S) fr1 ln1 tr1 (sNv S) ct1 rw1 dr1 n sw1 rest)) cl_M 0 3 rfl (by decide) bw_548 rfl rfl rfl (Nat.le_of_ble_eq_true rfl) d_M_block_168 rfl ?_
                            refine bV.iload_n G d_M_block_171 rfl ?_
                            exact bV.iretI G E0 rfl rfl (by decide) (by decide) d_M_block_172 (Or.inr ⟨hcr, Or.inr ⟨by omega, Or.inl ⟨j, by omega, hjq, hn, Or.inr ⟨by omega, rfl, lo202, hL202, (sNb S), (sNv S), n, sw1, fr1, ln1, tr1, ct1, rw1, dr1, rfl⟩⟩⟩⟩)
                          · cases c146
                  · refine bV.iconst (v := (-1)) G d_M_block_102 (by decide) ?_
                    exact bV.iretI G E0 rfl rfl (by decide) (by decide) d_M_block_103 (Or.inr ⟨hcr, by first | exact Or.inl ⟨by omega, rfl, (sNb S), (sNv S), n, sw1, fr1, ln1, tr1, ct1, rw1, dr1, rfl⟩ | exact Or.inr ⟨by omega, Or.inl ⟨j, by omega, hjq, hn, Or.inl ⟨by omega, rfl, (sNb S), (sNv S), n, sw1, fr1, ln1, tr1, ct1, rw1, dr1, rfl⟩⟩⟩⟩)
                · cases c78
        · have hjn : ¬ eqM lg S fd fn j := fun z => by rw [dcd_t z] at c25; cases c25
          refine bV.iincN G (lv' := [(0, .ref (am 0)), (1, .int (nI (j + 1)))]) d_M_block_28 rfl (by decide) rfl rfl ?_
          refine bV.goto (tgt := 12) G d_M_block_31 (by decide) ?_
          exact ih fr1 ln1 tr1 ct1 rw1 dr1 sw1 (j + 1) hcr hdv (by omega) (fun j0 h => by rcases Nat.lt_or_ge j0 j with z | z; exact hn j0 z; rw [show j0 = j by omega]; exact hjn)
  refine bV.aload_n G d_M_block_0 rfl ?_
  refine bV.iconst (v := nI 1) G d_M_block_1 (by decide) ?_
  refine bV.callVi G m_M_isReady bw_619 bw_s26 bw_617 (c_M_isReady (f := 1) hRl hok) 0 rfl rfl rfl rfl rfl ⟨by decide, by decide⟩ ⟨by decide, by decide⟩ (Nat.le_of_ble_eq_true rfl) d_M_block_2 (fun x9 ws9 h9 => ?_)
  rcases h9 with ⟨hcr, rfl, h9e⟩ | ⟨hcr, rfl, fr1, ln1, tr1, ct1, rw1, dr1, sw1, hdv, h9e⟩
  · rw [h9e]
    try dsimp only
    refine bV.if_neB (tgt := 10) G d_M_block_5 (by decide) (fun c5 => ?_) (fun c5 => ?_)
    · cases c5
    · refine bV.iconst (v := nI 0) G d_M_block_8 (by decide) ?_
      exact bV.iretI G E0 rfl rfl (by decide) (by decide) d_M_block_9 (Or.inl ⟨hcr, nb, nv, en, sw, fr, ln, tr, ct, rw, dr, rfl⟩)
  · rw [h9e]
    try dsimp only
    have hs := (hok hcr).s
    have hnb := hs.1
    have hnv := hs.2.1
    have h400 := hRl.1
    refine bV.if_neB (tgt := 10) G d_M_block_5 (by decide) (fun c5 => ?_) (fun c5 => ?_)
    · refine bV.iconst (v := nI 0) G d_M_block_10 (by decide) ?_
      refine bV.istore_n G (lv' := [(0, .ref (am 0)), (1, .int (nI (0)))]) d_M_block_11 (by decide) rfl rfl ?_
      exact loop (sNb S) fr1 ln1 tr1 ct1 rw1 dr1 sw1 0 hcr hdv (by omega) (fun j0 h => absurd h (Nat.not_lt_zero _))
    · cases c5
theorem qR_poke {np : Nat} {ql : Nat → Nat} {qa : Nat → Nat → Nat} {ps pb : Nat → Int32} {j i x : Nat} (h : qR np ql qa ps pb) (hb : ∀ p, p < np → ql p ≤ 664) (hj : j < np) (hi : i < ql j) : qR np ql (fup2 qa j i x) ps (upd pb (700 * j + i) (nI x)) := by
  refine ⟨h.1, fun p k hp hk => ?_⟩
  by_cases z : p = j ∧ k = i
  · rw [z.1, z.2, pk_us, fup2_s]
  · have h1 := hb p hp
    have h2 := hb j hj
    rw [pk_un (by omega), fup2_n z]; exact h.2 p k hp hk
theorem d_M_poke_0 : decode b_M_poke 0 = .ok (.aload_n 0, 1) := by decide +kernel
theorem d_M_poke_1 : decode b_M_poke 1 = .ok (.iconst 2, 1) := by decide +kernel
theorem d_M_poke_2 : decode b_M_poke 2 = .ok (.invokevirtual 91, 3) := by decide +kernel
theorem d_M_poke_5 : decode b_M_poke 5 = .ok (.ifCond .ne 5, 3) := by decide +kernel
theorem d_M_poke_8 : decode b_M_poke 8 = .ok (.iconst 0, 1) := by decide +kernel
theorem d_M_poke_9 : decode b_M_poke 9 = .ok (.ireturn, 1) := by decide +kernel
theorem d_M_poke_10 : decode b_M_poke 10 = .ok (.aload_n 0, 1) := by decide +kernel
theorem d_M_poke_11 : decode b_M_poke 11 = .ok (.aload_n 0, 1) := by decide +kernel
theorem d_M_poke_12 : decode b_M_poke 12 = .ok (.iload_n 1, 1) := by decide +kernel
theorem d_M_poke_13 : decode b_M_poke 13 = .ok (.iload_n 2, 1) := by decide +kernel
theorem d_M_poke_14 : decode b_M_poke 14 = .ok (.invokevirtual 126, 3) := by decide +kernel
theorem d_M_poke_17 : decode b_M_poke 17 = .ok (.ifCond .eq 7, 3) := by decide +kernel
theorem d_M_poke_20 : decode b_M_poke 20 = .ok (.iconst 0, 1) := by decide +kernel
theorem d_M_poke_21 : decode b_M_poke 21 = .ok (.goto 4, 3) := by decide +kernel
theorem d_M_poke_24 : decode b_M_poke 24 = .ok (.iconst 1, 1) := by decide +kernel
theorem d_M_poke_25 : decode b_M_poke 25 = .ok (.putfield 48, 3) := by decide +kernel
theorem d_M_poke_28 : decode b_M_poke 28 = .ok (.aload_n 0, 1) := by decide +kernel
theorem d_M_poke_29 : decode b_M_poke 29 = .ok (.getfield 48, 3) := by decide +kernel
theorem d_M_poke_32 : decode b_M_poke 32 = .ok (.ifCond .eq 5, 3) := by decide +kernel
theorem d_M_poke_35 : decode b_M_poke 35 = .ok (.iconst 0, 1) := by decide +kernel
theorem d_M_poke_36 : decode b_M_poke 36 = .ok (.ireturn, 1) := by decide +kernel
theorem d_M_poke_37 : decode b_M_poke 37 = .ok (.aload_n 0, 1) := by decide +kernel
theorem d_M_poke_38 : decode b_M_poke 38 = .ok (.getfield 19, 3) := by decide +kernel
theorem d_M_poke_41 : decode b_M_poke 41 = .ok (.sipush 700, 3) := by decide +kernel
theorem d_M_poke_44 : decode b_M_poke 44 = .ok (.iload_n 1, 1) := by decide +kernel
theorem d_M_poke_45 : decode b_M_poke 45 = .ok (.imul, 1) := by decide +kernel
theorem d_M_poke_46 : decode b_M_poke 46 = .ok (.iload_n 2, 1) := by decide +kernel
theorem d_M_poke_47 : decode b_M_poke 47 = .ok (.iadd, 1) := by decide +kernel
theorem d_M_poke_48 : decode b_M_poke 48 = .ok (.aload_n 0, 1) := by decide +kernel
theorem d_M_poke_49 : decode b_M_poke 49 = .ok (.getfield 19, 3) := by decide +kernel
theorem d_M_poke_52 : decode b_M_poke 52 = .ok (.sipush 700, 3) := by decide +kernel
theorem d_M_poke_55 : decode b_M_poke 55 = .ok (.iload_n 1, 1) := by decide +kernel
theorem d_M_poke_56 : decode b_M_poke 56 = .ok (.imul, 1) := by decide +kernel
theorem d_M_poke_57 : decode b_M_poke 57 = .ok (.iload_n 2, 1) := by decide +kernel
theorem d_M_poke_58 : decode b_M_poke 58 = .ok (.iadd, 1) := by decide +kernel
theorem d_M_poke_59 : decode b_M_poke 59 = .ok (.iaload, 1) := by decide +kernel
theorem d_M_poke_60 : decode b_M_poke 60 = .ok (.iload_n 3, 1) := by decide +kernel
theorem d_M_poke_61 : decode b_M_poke 61 = .ok (.sipush 255, 3) := by decide +kernel
theorem d_M_poke_64 : decode b_M_poke 64 = .ok (.iand, 1) := by decide +kernel
theorem d_M_poke_65 : decode b_M_poke 65 = .ok (.ixor, 1) := by decide +kernel
theorem d_M_poke_66 : decode b_M_poke 66 = .ok (.iastore, 1) := by decide +kernel
theorem d_M_poke_67 : decode b_M_poke 67 = .ok (.iload_n 3, 1) := by decide +kernel
theorem d_M_poke_68 : decode b_M_poke 68 = .ok (.sipush 255, 3) := by decide +kernel
theorem d_M_poke_71 : decode b_M_poke 71 = .ok (.iand, 1) := by decide +kernel
theorem d_M_poke_72 : decode b_M_poke 72 = .ok (.ifCond .eq 7, 3) := by decide +kernel
theorem d_M_poke_75 : decode b_M_poke 75 = .ok (.iconst 1, 1) := by decide +kernel
theorem d_M_poke_76 : decode b_M_poke 76 = .ok (.goto 4, 3) := by decide +kernel
theorem d_M_poke_79 : decode b_M_poke 79 = .ok (.iconst 0, 1) := by decide +kernel
theorem d_M_poke_80 : decode b_M_poke 80 = .ok (.ireturn, 1) := by decide +kernel
set_option maxRecDepth 20000 in
set_option maxHeartbeats 4000000 in
theorem c_M_poke {D : va_G} {cI cZ cJ : ClassId} {am : Nat → Nat} {mp : Nat} {th : Nat} {cr : Bool} {fd : Nat} {fo : Nat → Int32} {n : Nat} {lo : Nat → Int32} {np : Nat} {ps : Nat → Int32} {pb : Nat → Int32} {ip : Nat → Int32} {nb : Nat} {fr : Nat → Int32} {ln : Nat → Int32} {tr : Nat → Int32} {nv : Nat} {ct : Nat → Int32} {rw : Nat → Int32} {dr : Nat → Int32} {en : Nat} {sw : Nat} {rest : va_W} {lg : Nat → Nat} {S : aS} (hRl : lg_R lo n lg) (hok : cr = false → logOk lg n S) {ql : Nat → Nat} {qa : Nat → Nat → Nat} {mk : Nat → Bool} (hQ : okQ mp np ql qa mk) (hqR : qR np ql qa ps pb) {v u mm : Int32} : bC D bcl (tys3 cI cZ cJ) y_M_poke ({ frames := 5, cells := 0, slots := 0, locals := 108 }) (wM am cI cZ mp th cr fd fo n lo np ps pb ip nb fr ln tr nv ct rw dr en sw rest) [.ref (am 0), .int (v), .int (u), .int (mm)] (bI (fun x ws9 => (cr = true ∧ ∃ (nb1 nv1 en1 sw1 : Nat) (fr1 ln1 tr1 ct1 rw1 dr1 : Nat → Int32), ws9 = wM am cI cZ mp 2 cr fd fo n lo np ps pb ip nb1 fr1 ln1 tr1 nv1 ct1 rw1 dr1 en1 sw1 rest) ∨ (cr = false ∧ ¬ ((0 ≤ v ∧ v < nI np) ∧ 0 ≤ u ∧ u < nI (ql v.toNatClampNeg)) ∧ ∃ (nb1 nv1 en1 sw1 : Nat) (fr1 ln1 tr1 ct1 rw1 dr1 : Nat → Int32), ws9 = wM am cI cZ mp 1 cr fd fo n lo np ps pb ip nb1 fr1 ln1 tr1 nv1 ct1 rw1 dr1 en1 sw1 rest) ∨ (cr = false ∧ ((0 ≤ v ∧ v < nI np) ∧ 0 ≤ u ∧ u < nI (ql v.toNatClampNeg)) ∧ x = bB (decide (mkN mm ≠ 0)) ∧ ∃ pb1 : Nat → Int32, qR np ql (fup2 qa v.toNatClampNeg u.toNatClampNeg (pkX (qa v.toNatClampNeg u.toNatClampNeg) mm)) ps pb1 ∧ ∃ (nb1 nv1 en1 sw1 : Nat) (fr1 ln1 tr1 ct1 rw1 dr1 : Nat → Int32), ws9 = wM am cI cZ mp 0 cr fd fo n lo np ps pb1 ip nb1 fr1 ln1 tr1 nv1 ct1 rw1 dr1 en1 sw1 rest)) bno) := by
  refine bC.of (by decide) m_M_poke.1 (Nat.le_of_ble_eq_true rfl) ?_
  intro Γ G E0
  show bV D bcl Γ 4 (wM am cI cZ mp th cr fd fo n lo np ps pb ip nb fr ln tr nv ct rw dr en sw rest) 0 0 0 [(0, .ref (am 0)), (1, .int (v)), (2, .int (u)), (3, .int (mm))] []
  refine bV.aload_n G d_M_poke_0 rfl ?_
  refine bV.iconst (v := nI 2) G d_M_poke_1 (by decide) ?_
  refine bV.callVi G m_M_isReady bw_619 bw_s26 bw_617 (c_M_isReady (f := 2) hRl hok) 0 rfl rfl rfl rfl rfl ⟨by decide, by decide⟩ ⟨by decide, by decide⟩ (Nat.le_of_ble_eq_true rfl) d_M_poke_2 (fun x9 ws9 h9 => ?_)
  rcases h9 with ⟨hcr, rfl, h9e⟩ | ⟨hcr, rfl, fr1, ln1, tr1, ct1, rw1, dr1, sw1, hdv, h9e⟩
  · rw [h9e]
    try dsimp only
    refine bV.if_neB (tgt := 10) G d_M_poke_5 (by decide) (fun c5 => ?_) (fun c5 => ?_)
    · cases c5
    · refine bV.iconst (v := nI 0) G d_M_poke_8 (by decide) ?_
      refine bV.topi (x := nI 0) (y := bB false) (by decide) ?_
      exact bV.iretI G E0 rfl (bB_n _) (by decide) (by decide) d_M_poke_9 (Or.inl ⟨hcr, nb, nv, en, sw, fr, ln, tr, ct, rw, dr, rfl⟩)
  · rw [h9e]
    try dsimp only
    have hs := (hok hcr).s
    have hnb := hs.1
    have hnv := hs.2.1
    have h400 := hRl.1
    refine bV.if_neB (tgt := 10) G d_M_poke_5 (by decide) (fun c5 => ?_) (fun c5 => ?_)
    · refine bV.aload_n G d_M_poke_10 rfl ?_
      refine bV.aload_n G d_M_poke_11 rfl ?_
      refine bV.iload_n G d_M_poke_12 rfl ?_
      refine bV.iload_n G d_M_poke_13 rfl ?_
      refine bV.callVi G m_M_isPackByte bw_722 bw_s39 bw_720 (c_M_isPackByte (v := v) (u := u) (ql := ql) hqR.1 (fun p hp => okQ_le hQ (Nat.le_of_lt hp)) (Nat.le_trans hQ.1 hQ.2.1)) 0 rfl rfl rfl rfl rfl ⟨by decide, by decide⟩ ⟨by decide, by decide⟩ (Nat.le_of_ble_eq_true rfl) d_M_poke_14 (fun x9 ws9 h9 => ?_)
      obtain ⟨rfl, h9e⟩ := h9
      rw [h9e]
      try dsimp only
      refine bV.if_eqB (tgt := 24) G d_M_poke_17 (by decide) (fun c17 => ?_) (fun c17 => ?_)
      · have hg17 := of_decide_eq_false c17
        refine bV.iconst (v := nI 1) G d_M_poke_24 (by decide) ?_
        refine bV.putf G (ws' := (wM am cI cZ mp 1 cr fd fo n lo np ps pb ip (sNb S) fr1 ln1 tr1 (sNv S) ct1 rw1 dr1 n sw1 rest)) cl_M 0 0 rfl (by decide) bw_545 rfl rfl rfl (Nat.le_of_ble_eq_true rfl) d_M_poke_25 rfl ?_
        refine bV.aload_n G d_M_poke_28 rfl ?_
        refine bV.getf G cl_M 0 0 rfl (by decide) bw_545 rfl d_M_poke_29 ?_
        refine bV.if_eqN (tgt := 37) G d_M_poke_32 (by decide) (by omega) (fun c32 => ?_) (fun c32 => ?_)
        · exact absurd c32 (by decide)
        · refine bV.iconst (v := nI 0) G d_M_poke_35 (by decide) ?_
          refine bV.topi (x := nI 0) (y := bB false) (by decide) ?_
          exact bV.iretI G E0 rfl (bB_n _) (by decide) (by decide) d_M_poke_36 (Or.inr (Or.inl ⟨hcr, hg17, (sNb S), (sNv S), n, sw1, fr1, ln1, tr1, ct1, rw1, dr1, rfl⟩))
      · have hg17 := of_decide_eq_true c17
        have hq1 := hQ.1
        have hq2 := hQ.2.1
        obtain ⟨j, hj, rfl⟩ := nI_btw hg17.1 (by omega)
        have hl9 := okQ_le hQ (Nat.le_of_lt hj)
        have hg8 : 0 ≤ u ∧ u < nI (ql j) := ⟨hg17.2.1, by have z3 := hg17.2.2; rw [nI_clamp (by omega)] at z3; exact z3⟩
        obtain ⟨i, hi, rfl⟩ := nI_btw hg8 (by omega)
        have hq8 := hQ.2.2.2.2.2 j i hj hi
        refine bV.iconst (v := nI 0) G d_M_poke_20 (by decide) ?_
        refine bV.goto (tgt := 25) G d_M_poke_21 (by decide) ?_
        refine bV.putf G (ws' := (wM am cI cZ mp 0 cr fd fo n lo np ps pb ip (sNb S) fr1 ln1 tr1 (sNv S) ct1 rw1 dr1 n sw1 rest)) cl_M 0 0 rfl (by decide) bw_545 rfl rfl rfl (Nat.le_of_ble_eq_true rfl) d_M_poke_25 rfl ?_
        refine bV.aload_n G d_M_poke_28 rfl ?_
        refine bV.getf G cl_M 0 0 rfl (by decide) bw_545 rfl d_M_poke_29 ?_
        refine bV.if_eqN (tgt := 37) G d_M_poke_32 (by decide) (by omega) (fun c32 => ?_) (fun c32 => ?_)
        · refine bV.aload_n G d_M_poke_37 rfl ?_
          refine bV.getf G cl_M 0 9 rfl (by decide) bw_554 rfl d_M_poke_38 ?_
          refine bV.sipush (v := nI 700) G d_M_poke_41 (by decide) ?_
          refine bV.iload_n G d_M_poke_44 rfl ?_
          refine bV.imulN G d_M_poke_45 ?_
          refine bV.iload_n G d_M_poke_46 rfl ?_
          refine bV.iaddN G d_M_poke_47 ?_
          refine bV.aload_n G d_M_poke_48 rfl ?_
          refine bV.getf G cl_M 0 9 rfl (by decide) bw_554 rfl d_M_poke_49 ?_
          refine bV.sipush (v := nI 700) G d_M_poke_52 (by decide) ?_
          refine bV.iload_n G d_M_poke_55 rfl ?_
          refine bV.imulN G d_M_poke_56 ?_
          refine bV.iload_n G d_M_poke_57 rfl ?_
          refine bV.iaddN G d_M_poke_58 ?_
          refine bV.ialoadN G 4 0 rfl rfl (by omega) (by omega) d_M_poke_59 ?_
          refine bV.topi (y := (nI (qa j i))) (hqR.2 j i (by omega) (by omega)) ?_
          refine bV.iload_n G d_M_poke_60 rfl ?_
          refine bV.sipush (v := nI 255) G d_M_poke_61 (by decide) ?_
          refine bV.iand G d_M_poke_64 ?_
          refine bV.ixor G d_M_poke_65 ?_
          refine bV.topi (y := (nI (pkX (qa j i) mm))) (pkX_e _ _) ?_
          refine bV.iastoreN G (ws' := (wM am cI cZ mp 0 cr fd fo n lo np ps (upd pb ((700 * j) + i) ((nI (pkX (qa j i) mm)))) ip (sNb S) fr1 ln1 tr1 (sNv S) ct1 rw1 dr1 n sw1 rest)) 4 0 rfl rfl (by omega) (by omega) d_M_poke_66 rfl ?_
          refine bV.iload_n G d_M_poke_67 rfl ?_
          refine bV.sipush (v := nI 255) G d_M_poke_68 (by decide) ?_
          refine bV.iand G d_M_poke_71 ?_
          refine bV.topi (y := (nI (mkN mm))) (pk_and mm 8 (by decide)) ?_
          have hmk : mkN mm < 256 := Nat.mod_lt _ (by decide)
          refine bV.if_eqN (tgt := 79) G d_M_poke_72 (by decide) (by omega) (fun c72 => ?_) (fun c72 => ?_)
          · refine bV.iconst (v := nI 0) G d_M_poke_79 (by decide) ?_
            refine bV.topi (x := nI 0) (y := bB false) (by decide) ?_
            exact bV.iretI G E0 rfl (bB_n _) (by decide) (by decide) d_M_poke_80 (Or.inr (Or.inr ⟨hcr, hg17, by rw [decide_eq_false (p := mkN mm ≠ 0) (fun z => z c72)], upd pb ((700 * j) + i) ((nI (pkX (qa j i) mm))), by rw [nI_clamp (by omega), nI_clamp (by omega)]; exact qR_poke hqR (fun p hp => okQ_le hQ (Nat.le_of_lt hp)) hj hi, (sNb S), (sNv S), n, sw1, fr1, ln1, tr1, ct1, rw1, dr1, rfl⟩))
          · refine bV.iconst (v := nI 1) G d_M_poke_75 (by decide) ?_
            refine bV.goto (tgt := 80) G d_M_poke_76 (by decide) ?_
            refine bV.topi (x := nI 1) (y := bB true) (by decide) ?_
            exact bV.iretI G E0 rfl (bB_n _) (by decide) (by decide) d_M_poke_80 (Or.inr (Or.inr ⟨hcr, hg17, by rw [decide_eq_true (p := mkN mm ≠ 0) c72], upd pb ((700 * j) + i) ((nI (pkX (qa j i) mm))), by rw [nI_clamp (by omega), nI_clamp (by omega)]; exact qR_poke hqR (fun p hp => okQ_le hQ (Nat.le_of_lt hp)) hj hi, (sNb S), (sNv S), n, sw1, fr1, ln1, tr1, ct1, rw1, dr1, rfl⟩))
        · exact absurd c32 (by decide)
    · cases c5
theorem d_M_crash_0 : decode b_M_crash 0 = .ok (.aload_n 0, 1) := by decide +kernel
theorem d_M_crash_1 : decode b_M_crash 1 = .ok (.iconst 2, 1) := by decide +kernel
theorem d_M_crash_2 : decode b_M_crash 2 = .ok (.invokevirtual 91, 3) := by decide +kernel
theorem d_M_crash_5 : decode b_M_crash 5 = .ok (.ifCond .ne 5, 3) := by decide +kernel
theorem d_M_crash_8 : decode b_M_crash 8 = .ok (.iconst 0, 1) := by decide +kernel
theorem d_M_crash_9 : decode b_M_crash 9 = .ok (.ireturn, 1) := by decide +kernel
theorem d_M_crash_10 : decode b_M_crash 10 = .ok (.aload_n 0, 1) := by decide +kernel
theorem d_M_crash_11 : decode b_M_crash 11 = .ok (.iload_n 1, 1) := by decide +kernel
theorem d_M_crash_12 : decode b_M_crash 12 = .ok (.ifCond .lt 15, 3) := by decide +kernel
theorem d_M_crash_15 : decode b_M_crash 15 = .ok (.iload_n 1, 1) := by decide +kernel
theorem d_M_crash_16 : decode b_M_crash 16 = .ok (.aload_n 0, 1) := by decide +kernel
theorem d_M_crash_17 : decode b_M_crash 17 = .ok (.getfield 64, 3) := by decide +kernel
theorem d_M_crash_20 : decode b_M_crash 20 = .ok (.if_icmp .gt 7, 3) := by decide +kernel
theorem d_M_crash_23 : decode b_M_crash 23 = .ok (.iconst 0, 1) := by decide +kernel
theorem d_M_crash_24 : decode b_M_crash 24 = .ok (.goto 4, 3) := by decide +kernel
theorem d_M_crash_27 : decode b_M_crash 27 = .ok (.iconst 1, 1) := by decide +kernel
theorem d_M_crash_28 : decode b_M_crash 28 = .ok (.putfield 48, 3) := by decide +kernel
theorem d_M_crash_31 : decode b_M_crash 31 = .ok (.aload_n 0, 1) := by decide +kernel
theorem d_M_crash_32 : decode b_M_crash 32 = .ok (.getfield 48, 3) := by decide +kernel
theorem d_M_crash_35 : decode b_M_crash 35 = .ok (.ifCond .eq 5, 3) := by decide +kernel
theorem d_M_crash_38 : decode b_M_crash 38 = .ok (.iconst 0, 1) := by decide +kernel
theorem d_M_crash_39 : decode b_M_crash 39 = .ok (.ireturn, 1) := by decide +kernel
theorem d_M_crash_40 : decode b_M_crash 40 = .ok (.aload_n 0, 1) := by decide +kernel
theorem d_M_crash_41 : decode b_M_crash 41 = .ok (.getfield 64, 3) := by decide +kernel
theorem d_M_crash_44 : decode b_M_crash 44 = .ok (.iload_n 1, 1) := by decide +kernel
theorem d_M_crash_45 : decode b_M_crash 45 = .ok (.if_icmp .le 7, 3) := by decide +kernel
theorem d_M_crash_48 : decode b_M_crash 48 = .ok (.iconst 1, 1) := by decide +kernel
theorem d_M_crash_49 : decode b_M_crash 49 = .ok (.goto 4, 3) := by decide +kernel
theorem d_M_crash_52 : decode b_M_crash 52 = .ok (.iconst 0, 1) := by decide +kernel
theorem d_M_crash_53 : decode b_M_crash 53 = .ok (.istore_n 2, 1) := by decide +kernel
theorem d_M_crash_54 : decode b_M_crash 54 = .ok (.aload_n 0, 1) := by decide +kernel
theorem d_M_crash_55 : decode b_M_crash 55 = .ok (.iload_n 1, 1) := by decide +kernel
theorem d_M_crash_56 : decode b_M_crash 56 = .ok (.putfield 64, 3) := by decide +kernel
theorem d_M_crash_59 : decode b_M_crash 59 = .ok (.aload_n 0, 1) := by decide +kernel
theorem d_M_crash_60 : decode b_M_crash 60 = .ok (.iconst 0, 1) := by decide +kernel
theorem d_M_crash_61 : decode b_M_crash 61 = .ok (.putfield 97, 3) := by decide +kernel
theorem d_M_crash_64 : decode b_M_crash 64 = .ok (.aload_n 0, 1) := by decide +kernel
theorem d_M_crash_65 : decode b_M_crash 65 = .ok (.iconst 0, 1) := by decide +kernel
theorem d_M_crash_66 : decode b_M_crash 66 = .ok (.putfield 117, 3) := by decide +kernel
theorem d_M_crash_69 : decode b_M_crash 69 = .ok (.iconst 0, 1) := by decide +kernel
theorem d_M_crash_70 : decode b_M_crash 70 = .ok (.istore_n 3, 1) := by decide +kernel
theorem d_M_crash_71 : decode b_M_crash 71 = .ok (.iload_n 3, 1) := by decide +kernel
theorem d_M_crash_72 : decode b_M_crash 72 = .ok (.bipush 24, 2) := by decide +kernel
theorem d_M_crash_74 : decode b_M_crash 74 = .ok (.if_icmp .ge 16, 3) := by decide +kernel
theorem d_M_crash_77 : decode b_M_crash 77 = .ok (.aload_n 0, 1) := by decide +kernel
theorem d_M_crash_78 : decode b_M_crash 78 = .ok (.getfield 22, 3) := by decide +kernel
theorem d_M_crash_81 : decode b_M_crash 81 = .ok (.iload_n 3, 1) := by decide +kernel
theorem d_M_crash_82 : decode b_M_crash 82 = .ok (.iconst 0, 1) := by decide +kernel
theorem d_M_crash_83 : decode b_M_crash 83 = .ok (.bastore, 1) := by decide +kernel
theorem d_M_crash_84 : decode b_M_crash 84 = .ok (.iinc 3 1, 3) := by decide +kernel
theorem d_M_crash_87 : decode b_M_crash 87 = .ok (.goto (-16), 3) := by decide +kernel
theorem d_M_crash_90 : decode b_M_crash 90 = .ok (.aload_n 0, 1) := by decide +kernel
theorem d_M_crash_91 : decode b_M_crash 91 = .ok (.iconst 1, 1) := by decide +kernel
theorem d_M_crash_92 : decode b_M_crash 92 = .ok (.putfield 84, 3) := by decide +kernel
theorem d_M_crash_95 : decode b_M_crash 95 = .ok (.iload_n 2, 1) := by decide +kernel
theorem d_M_crash_96 : decode b_M_crash 96 = .ok (.ireturn, 1) := by decide +kernel
set_option maxRecDepth 20000 in
set_option maxHeartbeats 4000000 in
theorem c_M_crash {D : va_G} {cI cZ cJ : ClassId} {am : Nat → Nat} {mp : Nat} {th : Nat} {cr : Bool} {fd : Nat} {fo : Nat → Int32} {n : Nat} {lo : Nat → Int32} {np : Nat} {ps : Nat → Int32} {pb : Nat → Int32} {ip : Nat → Int32} {nb : Nat} {fr : Nat → Int32} {ln : Nat → Int32} {tr : Nat → Int32} {nv : Nat} {ct : Nat → Int32} {rw : Nat → Int32} {dr : Nat → Int32} {en : Nat} {sw : Nat} {rest : va_W} {lg : Nat → Nat} {S : aS} (hRl : lg_R lo n lg) (hok : cr = false → logOk lg n S) {v : Int32} : bC D bcl (tys3 cI cZ cJ) y_M_crash ({ frames := 5, cells := 0, slots := 0, locals := 108 }) (wM am cI cZ mp th cr fd fo n lo np ps pb ip nb fr ln tr nv ct rw dr en sw rest) [.ref (am 0), .int (v)] (bI (fun x ws9 => (cr = true ∧ ∃ (nb1 nv1 en1 sw1 : Nat) (fr1 ln1 tr1 ct1 rw1 dr1 : Nat → Int32), ws9 = wM am cI cZ mp 2 cr fd fo n lo np ps pb ip nb1 fr1 ln1 tr1 nv1 ct1 rw1 dr1 en1 sw1 rest) ∨ (cr = false ∧ ¬ (0 ≤ v ∧ v ≤ nI n) ∧ ∃ (nb1 nv1 en1 sw1 : Nat) (fr1 ln1 tr1 ct1 rw1 dr1 : Nat → Int32), ws9 = wM am cI cZ mp 1 cr fd fo n lo np ps pb ip nb1 fr1 ln1 tr1 nv1 ct1 rw1 dr1 en1 sw1 rest) ∨ (cr = false ∧ (0 ≤ v ∧ v ≤ nI n) ∧ x = bB (decide (v.toNatClampNeg < n)) ∧ ∃ ip1 : Nat → Int32, mk_R 24 ip1 (fun _ => false) ∧ ∃ (nb1 nv1 en1 sw1 : Nat) (fr1 ln1 tr1 ct1 rw1 dr1 : Nat → Int32), ws9 = wM am cI cZ mp 0 true 0 fo v.toNatClampNeg lo 0 ps pb ip1 nb1 fr1 ln1 tr1 nv1 ct1 rw1 dr1 en1 sw1 rest)) bno) := by
  have h400 := hRl.1
  refine bC.of (by decide) m_M_crash.1 (Nat.le_of_ble_eq_true rfl) ?_
  intro Γ G E0
  show bV D bcl Γ 4 (wM am cI cZ mp th cr fd fo n lo np ps pb ip nb fr ln tr nv ct rw dr en sw rest) 0 0 0 [(0, .ref (am 0)), (1, .int (v))] []
  have loop : ∀ (d : Nat) (fr1 ln1 tr1 ct1 rw1 dr1 : Nat → Int32) (sw1 : Nat) (j b : Nat) (iz : Nat → Int32) (hm : Bool), cr = false → v = nI j → (0 ≤ v ∧ v ≤ nI n) → j ≤ n → d + b = 24 → (∀ b0, b0 < b → iz b0 = bB false) → hm = decide (j < n) → bV D bcl Γ 4 (wM am cI cZ mp 0 cr 0 fo j lo 0 ps pb iz (sNb S) fr1 ln1 tr1 (sNv S) ct1 rw1 dr1 n sw1 rest) 0 0 71 [(0, .ref (am 0)), (1, .int (nI (j))), (2, .int (bB (hm))), (3, .int (nI (b)))] [] := by
    intro d
    induction d with
    | zero =>
      intro fr1 ln1 tr1 ct1 rw1 dr1 sw1 j b iz hm hcr hv hg20 hj hd hiz hhm
      subst hv
      refine bV.iload_n G d_M_crash_71 rfl ?_
      refine bV.bipush (v := nI 24) G d_M_crash_72 (by decide) ?_
      refine bV.icmp_geN (tgt := 90) G d_M_crash_74 (by decide) (by omega) (by omega) (fun c74 => ?_) (fun c74 => ?_)
      · refine bV.aload_n G d_M_crash_90 rfl ?_
        refine bV.iconst (v := nI 1) G d_M_crash_91 (by decide) ?_
        refine bV.topi (x := nI 1) (y := bB true) (by decide) ?_
        refine bV.putf G (ws' := (wM am cI cZ mp 0 true 0 fo j lo 0 ps pb iz (sNb S) fr1 ln1 tr1 (sNv S) ct1 rw1 dr1 n sw1 rest)) cl_M 0 2 rfl (by decide) bw_547 rfl (bB_n _) (bB_f _) (Nat.le_of_ble_eq_true rfl) d_M_crash_92 rfl ?_
        refine bV.iload_n G d_M_crash_95 rfl ?_
        exact bV.iretI G E0 rfl (bB_n _) (by decide) (by decide) d_M_crash_96 (Or.inr (Or.inr ⟨hcr, hg20, by rw [nI_clamp (by omega), hhm], iz, ⟨by decide, fun b0 h => hiz b0 (by omega)⟩, (sNb S), (sNv S), n, sw1, fr1, ln1, tr1, ct1, rw1, dr1, by rw [nI_clamp (by omega)]⟩))
      · exfalso; omega
    | succ d ih =>
      intro fr1 ln1 tr1 ct1 rw1 dr1 sw1 j b iz hm hcr hv hg20 hj hd hiz hhm
      subst hv
      refine bV.iload_n G d_M_crash_71 rfl ?_
      refine bV.bipush (v := nI 24) G d_M_crash_72 (by decide) ?_
      refine bV.icmp_geN (tgt := 90) G d_M_crash_74 (by decide) (by omega) (by omega) (fun c74 => ?_) (fun c74 => ?_)
      · exfalso; omega
      · refine bV.aload_n G d_M_crash_77 rfl ?_
        refine bV.getf G cl_M 0 10 rfl (by decide) bw_555 rfl d_M_crash_78 ?_
        refine bV.iload_n G d_M_crash_81 rfl ?_
        refine bV.iconst (v := nI 0) G d_M_crash_82 (by decide) ?_
        refine bV.topi (x := nI 0) (y := bB false) (by decide) ?_
        refine bV.zastoreN G (ws' := (wM am cI cZ mp 0 cr 0 fo j lo 0 ps pb (upd iz b ((bB (false)))) (sNb S) fr1 ln1 tr1 (sNv S) ct1 rw1 dr1 n sw1 rest)) 5 1 rfl rfl (by omega) (by omega) d_M_crash_83 rfl ?_
        refine bV.iincN G (lv' := [(0, .ref (am 0)), (1, .int (nI (j))), (2, .int (bB (hm))), (3, .int (nI (b + 1)))]) d_M_crash_84 rfl (by decide) rfl rfl ?_
        refine bV.goto (tgt := 71) G d_M_crash_87 (by decide) ?_
        exact ih fr1 ln1 tr1 ct1 rw1 dr1 sw1 j (b + 1) (upd iz b (bB false)) hm hcr rfl hg20 hj (by omega) (fun b0 h => by by_cases z : b0 = b; rw [z, pk_us]; rw [pk_un z]; exact hiz b0 (by omega)) hhm
  refine bV.aload_n G d_M_crash_0 rfl ?_
  refine bV.iconst (v := nI 2) G d_M_crash_1 (by decide) ?_
  refine bV.callVi G m_M_isReady bw_619 bw_s26 bw_617 (c_M_isReady (f := 2) hRl hok) 0 rfl rfl rfl rfl rfl ⟨by decide, by decide⟩ ⟨by decide, by decide⟩ (Nat.le_of_ble_eq_true rfl) d_M_crash_2 (fun x9 ws9 h9 => ?_)
  rcases h9 with ⟨hcr, rfl, h9e⟩ | ⟨hcr, rfl, fr1, ln1, tr1, ct1, rw1, dr1, sw1, hdv, h9e⟩
  · rw [h9e]
    try dsimp only
    refine bV.if_neB (tgt := 10) G d_M_crash_5 (by decide) (fun c5 => ?_) (fun c5 => ?_)
    · cases c5
    · refine bV.iconst (v := nI 0) G d_M_crash_8 (by decide) ?_
      refine bV.topi (x := nI 0) (y := bB false) (by decide) ?_
      exact bV.iretI G E0 rfl (bB_n _) (by decide) (by decide) d_M_crash_9 (Or.inl ⟨hcr, nb, nv, en, sw, fr, ln, tr, ct, rw, dr, rfl⟩)
  · rw [h9e]
    try dsimp only
    have hs := (hok hcr).s
    have hnb := hs.1
    have hnv := hs.2.1
    have h400 := hRl.1
    refine bV.if_neB (tgt := 10) G d_M_crash_5 (by decide) (fun c5 => ?_) (fun c5 => ?_)
    · refine bV.aload_n G d_M_crash_10 rfl ?_
      refine bV.iload_n G d_M_crash_11 rfl ?_
      refine bV.if_lt (tgt := 27) G d_M_crash_12 (by decide) (fun c12 => ?_) (fun c12 => ?_)
      · refine bV.iconst (v := nI 1) G d_M_crash_27 (by decide) ?_
        refine bV.putf G (ws' := (wM am cI cZ mp 1 cr fd fo n lo np ps pb ip (sNb S) fr1 ln1 tr1 (sNv S) ct1 rw1 dr1 n sw1 rest)) cl_M 0 0 rfl (by decide) bw_545 rfl rfl rfl (Nat.le_of_ble_eq_true rfl) d_M_crash_28 rfl ?_
        refine bV.aload_n G d_M_crash_31 rfl ?_
        refine bV.getf G cl_M 0 0 rfl (by decide) bw_545 rfl d_M_crash_32 ?_
        refine bV.if_eqN (tgt := 40) G d_M_crash_35 (by decide) (by omega) (fun c35 => ?_) (fun c35 => ?_)
        · exact absurd c35 (by decide)
        · refine bV.iconst (v := nI 0) G d_M_crash_38 (by decide) ?_
          refine bV.topi (x := nI 0) (y := bB false) (by decide) ?_
          exact bV.iretI G E0 rfl (bB_n _) (by decide) (by decide) d_M_crash_39 (Or.inr (Or.inl ⟨hcr, fun z => by first | exact absurd c12 (Int32.not_lt.mpr z.1) | exact absurd c20 (Int32.not_lt.mpr z.2), (sNb S), (sNv S), n, sw1, fr1, ln1, tr1, ct1, rw1, dr1, rfl⟩))
      · refine bV.iload_n G d_M_crash_15 rfl ?_
        refine bV.aload_n G d_M_crash_16 rfl ?_
        refine bV.getf G cl_M 0 5 rfl (by decide) bw_550 rfl d_M_crash_17 ?_
        refine bV.icmp_gt (tgt := 27) G d_M_crash_20 (by decide) (fun c20 => ?_) (fun c20 => ?_)
        · refine bV.iconst (v := nI 1) G d_M_crash_27 (by decide) ?_
          refine bV.putf G (ws' := (wM am cI cZ mp 1 cr fd fo n lo np ps pb ip (sNb S) fr1 ln1 tr1 (sNv S) ct1 rw1 dr1 n sw1 rest)) cl_M 0 0 rfl (by decide) bw_545 rfl rfl rfl (Nat.le_of_ble_eq_true rfl) d_M_crash_28 rfl ?_
          refine bV.aload_n G d_M_crash_31 rfl ?_
          refine bV.getf G cl_M 0 0 rfl (by decide) bw_545 rfl d_M_crash_32 ?_
          refine bV.if_eqN (tgt := 40) G d_M_crash_35 (by decide) (by omega) (fun c35 => ?_) (fun c35 => ?_)
          · exact absurd c35 (by decide)
          · refine bV.iconst (v := nI 0) G d_M_crash_38 (by decide) ?_
            refine bV.topi (x := nI 0) (y := bB false) (by decide) ?_
            exact bV.iretI G E0 rfl (bB_n _) (by decide) (by decide) d_M_crash_39 (Or.inr (Or.inl ⟨hcr, fun z => by first | exact absurd c12 (Int32.not_lt.mpr z.1) | exact absurd c20 (Int32.not_lt.mpr z.2), (sNb S), (sNv S), n, sw1, fr1, ln1, tr1, ct1, rw1, dr1, rfl⟩))
        · have hg20 : 0 ≤ v ∧ v ≤ nI n := ⟨Int32.not_lt.mp c12, Int32.not_lt.mp c20⟩
          obtain ⟨j, hj, rfl⟩ := kp_btw hg20 (by omega)
          refine bV.iconst (v := nI 0) G d_M_crash_23 (by decide) ?_
          refine bV.goto (tgt := 28) G d_M_crash_24 (by decide) ?_
          refine bV.putf G (ws' := (wM am cI cZ mp 0 cr fd fo n lo np ps pb ip (sNb S) fr1 ln1 tr1 (sNv S) ct1 rw1 dr1 n sw1 rest)) cl_M 0 0 rfl (by decide) bw_545 rfl rfl rfl (Nat.le_of_ble_eq_true rfl) d_M_crash_28 rfl ?_
          refine bV.aload_n G d_M_crash_31 rfl ?_
          refine bV.getf G cl_M 0 0 rfl (by decide) bw_545 rfl d_M_crash_32 ?_
          refine bV.if_eqN (tgt := 40) G d_M_crash_35 (by decide) (by omega) (fun c35 => ?_) (fun c35 => ?_)
          · refine bV.aload_n G d_M_crash_40 rfl ?_
            refine bV.getf G cl_M 0 5 rfl (by decide) bw_550 rfl d_M_crash_41 ?_
            refine bV.iload_n G d_M_crash_44 rfl ?_
            refine bV.icmp_leN (tgt := 52) G d_M_crash_45 (by decide) (by omega) (by omega) (fun c45 => ?_) (fun c45 => ?_)
            · refine bV.iconst (v := bB false) G d_M_crash_52 (by decide) ?_
              refine bV.istore_n G (lv' := [(0, .ref (am 0)), (1, .int (nI (j))), (2, .int (bB (false)))]) d_M_crash_53 (by decide) rfl rfl ?_
              refine bV.aload_n G d_M_crash_54 rfl ?_
              refine bV.iload_n G d_M_crash_55 rfl ?_
              refine bV.putf G (ws' := (wM am cI cZ mp 0 cr fd fo j lo np ps pb ip (sNb S) fr1 ln1 tr1 (sNv S) ct1 rw1 dr1 n sw1 rest)) cl_M 0 5 rfl (by decide) bw_550 rfl rfl rfl (Nat.le_of_ble_eq_true rfl) d_M_crash_56 rfl ?_
              refine bV.aload_n G d_M_crash_59 rfl ?_
              refine bV.iconst (v := nI 0) G d_M_crash_60 (by decide) ?_
              refine bV.putf G (ws' := (wM am cI cZ mp 0 cr 0 fo j lo np ps pb ip (sNb S) fr1 ln1 tr1 (sNv S) ct1 rw1 dr1 n sw1 rest)) cl_M 0 3 rfl (by decide) bw_548 rfl rfl rfl (Nat.le_of_ble_eq_true rfl) d_M_crash_61 rfl ?_
              refine bV.aload_n G d_M_crash_64 rfl ?_
              refine bV.iconst (v := nI 0) G d_M_crash_65 (by decide) ?_
              refine bV.putf G (ws' := (wM am cI cZ mp 0 cr 0 fo j lo 0 ps pb ip (sNb S) fr1 ln1 tr1 (sNv S) ct1 rw1 dr1 n sw1 rest)) cl_M 0 7 rfl (by decide) bw_552 rfl rfl rfl (Nat.le_of_ble_eq_true rfl) d_M_crash_66 rfl ?_
              refine bV.iconst (v := nI 0) G d_M_crash_69 (by decide) ?_
              refine bV.istore_n G (lv' := [(0, .ref (am 0)), (1, .int (nI (j))), (2, .int (bB (false))), (3, .int (nI (0)))]) d_M_crash_70 (by decide) rfl rfl ?_
              exact loop 24 fr1 ln1 tr1 ct1 rw1 dr1 sw1 j 0 ip false hcr rfl hg20 hj (by omega) (fun b0 h => absurd h (Nat.not_lt_zero _)) (decide_eq_false (by omega)).symm
            · refine bV.iconst (v := bB true) G d_M_crash_48 (by decide) ?_
              refine bV.goto (tgt := 53) G d_M_crash_49 (by decide) ?_
              refine bV.istore_n G (lv' := [(0, .ref (am 0)), (1, .int (nI (j))), (2, .int (bB (true)))]) d_M_crash_53 (by decide) rfl rfl ?_
              refine bV.aload_n G d_M_crash_54 rfl ?_
              refine bV.iload_n G d_M_crash_55 rfl ?_
              refine bV.putf G (ws' := (wM am cI cZ mp 0 cr fd fo j lo np ps pb ip (sNb S) fr1 ln1 tr1 (sNv S) ct1 rw1 dr1 n sw1 rest)) cl_M 0 5 rfl (by decide) bw_550 rfl rfl rfl (Nat.le_of_ble_eq_true rfl) d_M_crash_56 rfl ?_
              refine bV.aload_n G d_M_crash_59 rfl ?_
              refine bV.iconst (v := nI 0) G d_M_crash_60 (by decide) ?_
              refine bV.putf G (ws' := (wM am cI cZ mp 0 cr 0 fo j lo np ps pb ip (sNb S) fr1 ln1 tr1 (sNv S) ct1 rw1 dr1 n sw1 rest)) cl_M 0 3 rfl (by decide) bw_548 rfl rfl rfl (Nat.le_of_ble_eq_true rfl) d_M_crash_61 rfl ?_
              refine bV.aload_n G d_M_crash_64 rfl ?_
              refine bV.iconst (v := nI 0) G d_M_crash_65 (by decide) ?_
              refine bV.putf G (ws' := (wM am cI cZ mp 0 cr 0 fo j lo 0 ps pb ip (sNb S) fr1 ln1 tr1 (sNv S) ct1 rw1 dr1 n sw1 rest)) cl_M 0 7 rfl (by decide) bw_552 rfl rfl rfl (Nat.le_of_ble_eq_true rfl) d_M_crash_66 rfl ?_
              refine bV.iconst (v := nI 0) G d_M_crash_69 (by decide) ?_
              refine bV.istore_n G (lv' := [(0, .ref (am 0)), (1, .int (nI (j))), (2, .int (bB (true))), (3, .int (nI (0)))]) d_M_crash_70 (by decide) rfl rfl ?_
              exact loop 24 fr1 ln1 tr1 ct1 rw1 dr1 sw1 j 0 ip true hcr rfl hg20 hj (by omega) (fun b0 h => absurd h (Nat.not_lt_zero _)) (decide_eq_true (by omega)).symm
          · exact absurd c35 (by decide)
    · cases c5
theorem d_M_reopen_0 : decode b_M_reopen 0 = .ok (.aload_n 0, 1) := by decide +kernel
theorem d_M_reopen_1 : decode b_M_reopen 1 = .ok (.aload_n 0, 1) := by decide +kernel
theorem d_M_reopen_2 : decode b_M_reopen 2 = .ok (.getfield 84, 3) := by decide +kernel
theorem d_M_reopen_5 : decode b_M_reopen 5 = .ok (.ifCond .eq 7, 3) := by decide +kernel
theorem d_M_reopen_8 : decode b_M_reopen 8 = .ok (.iconst 0, 1) := by decide +kernel
theorem d_M_reopen_9 : decode b_M_reopen 9 = .ok (.goto 4, 3) := by decide +kernel
theorem d_M_reopen_12 : decode b_M_reopen 12 = .ok (.iconst 1, 1) := by decide +kernel
theorem d_M_reopen_13 : decode b_M_reopen 13 = .ok (.putfield 48, 3) := by decide +kernel
theorem d_M_reopen_16 : decode b_M_reopen 16 = .ok (.aload_n 0, 1) := by decide +kernel
theorem d_M_reopen_17 : decode b_M_reopen 17 = .ok (.getfield 84, 3) := by decide +kernel
theorem d_M_reopen_20 : decode b_M_reopen 20 = .ok (.ifCond .ne 5, 3) := by decide +kernel
theorem d_M_reopen_23 : decode b_M_reopen 23 = .ok (.iconst 0, 1) := by decide +kernel
theorem d_M_reopen_24 : decode b_M_reopen 24 = .ok (.ireturn, 1) := by decide +kernel
theorem d_M_reopen_25 : decode b_M_reopen 25 = .ok (.aload_n 0, 1) := by decide +kernel
theorem d_M_reopen_26 : decode b_M_reopen 26 = .ok (.iconst 0, 1) := by decide +kernel
theorem d_M_reopen_27 : decode b_M_reopen 27 = .ok (.putfield 84, 3) := by decide +kernel
theorem d_M_reopen_30 : decode b_M_reopen 30 = .ok (.aload_n 0, 1) := by decide +kernel
theorem d_M_reopen_31 : decode b_M_reopen 31 = .ok (.invokevirtual 88, 3) := by decide +kernel
theorem d_M_reopen_34 : decode b_M_reopen 34 = .ok (.aload_n 0, 1) := by decide +kernel
theorem d_M_reopen_35 : decode b_M_reopen 35 = .ok (.aload_n 0, 1) := by decide +kernel
theorem d_M_reopen_36 : decode b_M_reopen 36 = .ok (.getfield 74, 3) := by decide +kernel
theorem d_M_reopen_39 : decode b_M_reopen 39 = .ok (.putfield 64, 3) := by decide +kernel
theorem d_M_reopen_42 : decode b_M_reopen 42 = .ok (.aload_n 0, 1) := by decide +kernel
theorem d_M_reopen_43 : decode b_M_reopen 43 = .ok (.getfield 51, 3) := by decide +kernel
theorem d_M_reopen_46 : decode b_M_reopen 46 = .ok (.ireturn, 1) := by decide +kernel
set_option maxRecDepth 20000 in
set_option maxHeartbeats 4000000 in
theorem c_M_reopen {D : va_G} {cI cZ cJ : ClassId} {am : Nat → Nat} {mp : Nat} {th : Nat} {cr : Bool} {fd : Nat} {fo : Nat → Int32} {n : Nat} {lo : Nat → Int32} {np : Nat} {ps : Nat → Int32} {pb : Nat → Int32} {ip : Nat → Int32} {nb : Nat} {fr : Nat → Int32} {ln : Nat → Int32} {tr : Nat → Int32} {nv : Nat} {ct : Nat → Int32} {rw : Nat → Int32} {dr : Nat → Int32} {en : Nat} {sw : Nat} {rest : va_W} {lg : Nat → Nat} {r : Nat} (hRl : lg_R lo n lg) (hcut : cr = true → cutOk lg n r) : bC D bcl (tys3 cI cZ cJ) y_M_reopen ({ frames := 4, cells := 0, slots := 0, locals := 87 }) (wM am cI cZ mp th cr fd fo n lo np ps pb ip nb fr ln tr nv ct rw dr en sw rest) [.ref (am 0)] (bI (fun x ws9 => (cr = false ∧ ∃ (nb1 nv1 en1 sw1 : Nat) (fr1 ln1 tr1 ct1 rw1 dr1 : Nat → Int32), ws9 = wM am cI cZ mp 1 cr fd fo n lo np ps pb ip nb1 fr1 ln1 tr1 nv1 ct1 rw1 dr1 en1 sw1 rest) ∨ (cr = true ∧ x = nI (sNv (chS lg r).2) ∧ ∃ (nb1 nv1 en1 sw1 : Nat) (fr1 ln1 tr1 ct1 rw1 dr1 : Nat → Int32), ws9 = wM am cI cZ mp 0 false fd fo ((chS lg r).1) lo np ps pb ip nb1 fr1 ln1 tr1 nv1 ct1 rw1 dr1 en1 sw1 rest)) bno) := by
  refine bC.of (by decide) m_M_reopen.1 (Nat.le_of_ble_eq_true rfl) ?_
  intro Γ G E0
  show bV D bcl Γ 1 (wM am cI cZ mp th cr fd fo n lo np ps pb ip nb fr ln tr nv ct rw dr en sw rest) 0 0 0 [(0, .ref (am 0))] []
  refine bV.aload_n G d_M_reopen_0 rfl ?_
  refine bV.aload_n G d_M_reopen_1 rfl ?_
  refine bV.getf G cl_M 0 2 rfl (by decide) bw_547 rfl d_M_reopen_2 ?_
  refine bV.if_eqB (tgt := 12) G d_M_reopen_5 (by decide) (fun c5 => ?_) (fun c5 => ?_)
  · refine bV.iconst (v := nI 1) G d_M_reopen_12 (by decide) ?_
    refine bV.putf G (ws' := (wM am cI cZ mp 1 cr fd fo n lo np ps pb ip nb fr ln tr nv ct rw dr en sw rest)) cl_M 0 0 rfl (by decide) bw_545 rfl rfl rfl (Nat.le_of_ble_eq_true rfl) d_M_reopen_13 rfl ?_
    refine bV.aload_n G d_M_reopen_16 rfl ?_
    refine bV.getf G cl_M 0 2 rfl (by decide) bw_547 rfl d_M_reopen_17 ?_
    refine bV.if_neB (tgt := 25) G d_M_reopen_20 (by decide) (fun c20 => ?_) (fun c20 => ?_)
    · exact absurd (c5.symm.trans c20) (by decide)
    · refine bV.iconst (v := nI 0) G d_M_reopen_23 (by decide) ?_
      exact bV.iretI G E0 rfl rfl (by decide) (by decide) d_M_reopen_24 (Or.inl ⟨c5, nb, nv, en, sw, fr, ln, tr, ct, rw, dr, rfl⟩)
  · refine bV.iconst (v := nI 0) G d_M_reopen_8 (by decide) ?_
    refine bV.goto (tgt := 13) G d_M_reopen_9 (by decide) ?_
    refine bV.putf G (ws' := (wM am cI cZ mp 0 cr fd fo n lo np ps pb ip nb fr ln tr nv ct rw dr en sw rest)) cl_M 0 0 rfl (by decide) bw_545 rfl rfl rfl (Nat.le_of_ble_eq_true rfl) d_M_reopen_13 rfl ?_
    refine bV.aload_n G d_M_reopen_16 rfl ?_
    refine bV.getf G cl_M 0 2 rfl (by decide) bw_547 rfl d_M_reopen_17 ?_
    refine bV.if_neB (tgt := 25) G d_M_reopen_20 (by decide) (fun c20 => ?_) (fun c20 => ?_)
    · have hcut := hcut c5
      refine bV.aload_n G d_M_reopen_25 rfl ?_
      refine bV.iconst (v := nI 0) G d_M_reopen_26 (by decide) ?_
      refine bV.topi (x := nI 0) (y := bB false) (by decide) ?_
      refine bV.putf G (ws' := (wM am cI cZ mp 0 false fd fo n lo np ps pb ip nb fr ln tr nv ct rw dr en sw rest)) cl_M 0 2 rfl (by decide) bw_547 rfl (bB_n _) (bB_f _) (Nat.le_of_ble_eq_true rfl) d_M_reopen_27 rfl ?_
      refine bV.aload_n G d_M_reopen_30 rfl ?_
      refine bV.callVo G m_M_walk bw_623 bw_s27 bw_621 (c_M_walk (r := r) hRl hcut) 0 rfl rfl rfl rfl rfl ⟨by decide, by decide⟩ ⟨by decide, by decide⟩ (Nat.le_of_ble_eq_true rfl) d_M_reopen_31 (fun ws9 h9 => ?_)
      obtain ⟨fr1, ln1, tr1, ct1, rw1, dr1, sw1, hdv1, h9e⟩ := h9
      rw [h9e]
      refine bV.aload_n G d_M_reopen_34 rfl ?_
      refine bV.aload_n G d_M_reopen_35 rfl ?_
      refine bV.getf G cl_M 0 19 rfl (by decide) bw_564 rfl d_M_reopen_36 ?_
      refine bV.putf G (ws' := (wM am cI cZ mp 0 false fd fo ((chS lg r).1) lo np ps pb ip (sNb (chS lg r).2) fr1 ln1 tr1 (sNv (chS lg r).2) ct1 rw1 dr1 ((chS lg r).1) sw1 rest)) cl_M 0 5 rfl (by decide) bw_550 rfl rfl rfl (Nat.le_of_ble_eq_true rfl) d_M_reopen_39 rfl ?_
      refine bV.aload_n G d_M_reopen_42 rfl ?_
      refine bV.getf G cl_M 0 15 rfl (by decide) bw_560 rfl d_M_reopen_43 ?_
      exact bV.iretI G E0 rfl rfl (by decide) (by decide) d_M_reopen_46 (Or.inr ⟨c5, rfl, (sNb (chS lg r).2), (sNv (chS lg r).2), ((chS lg r).1), sw1, fr1, ln1, tr1, ct1, rw1, dr1, rfl⟩)
    · exact absurd (c5.symm.trans c20) (by decide)
