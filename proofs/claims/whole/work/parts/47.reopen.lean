/-! ===== the store: what comes back of a log ===== -/
def baN (lg : Nat → Nat) (p nb : Nat) (ba : Nat → Nat → Nat) : Nat → Nat → Nat := fun j i => if j = nb then lg (p + 2 + i) else ba j i
theorem pcS_fup {b : Nat → Nat} {a k : Nat} : pcS (fup b a k) (a + 1) = pcS b a + k := by
  show pcS (fup b a k) a + fup b a k a = pcS b a + k
  rw [fup_s, pcS_congr (pl' := b) a (fun j hj => fup_n (by omega))]
theorem nb_start {Pb : pc_C} {nb : Nat} {bl : Nat → Nat} {ba : Nat → Nat → Nat} {lg : Nat → Nat} {p : Nat} (h : pc_R 600 25 Pb (nb, bl, ba)) (h0 : bl nb = 0) : pc_R 600 25 Pb (nb, fup bl nb 0, baN lg p nb ba) := by
  refine pc_R_congr h (fun j hj => ?_) (fun j i hj hi => ?_)
  · unfold fup; split
    · rename_i z; rw [z, h0]
    · rfl
  · unfold baN; split
    · rename_i z; rw [z, h0] at hi; exact absurd hi (Nat.not_lt_zero _)
    · rfl
theorem nb_step {Pb : pc_C} {nb k : Nat} {bl : Nat → Nat} {ba : Nat → Nat → Nat} {lg : Nat → Nat} {p : Nat} (h : pc_R 600 25 Pb (nb, fup (fup bl nb k) nb (fup bl nb k nb + 1), fup2 (baN lg p nb ba) nb (fup bl nb k nb) (lg (p + 2 + k)))) : pc_R 600 25 Pb (nb, fup bl nb (k + 1), baN lg p nb ba) := by
  refine pc_R_congr h (fun j hj => ?_) (fun j i hj hi => ?_)
  · by_cases z : j = nb
    · subst z; rw [fup_s, fup_s, fup_s]
    · rw [fup_n z, fup_n z, fup_n z]
  · unfold fup2; split
    · rename_i z; rw [z.1, z.2, fup_s]; exact if_pos rfl
    · rfl
theorem d_S_redoNewBlock_0 : decode b_S_redoNewBlock 0 = .ok (.aload_n 0, 1) := by decide +kernel
theorem d_S_redoNewBlock_1 : decode b_S_redoNewBlock 1 = .ok (.getfield 12, 3) := by decide +kernel
theorem d_S_redoNewBlock_4 : decode b_S_redoNewBlock 4 = .ok (.iload_n 1, 1) := by decide +kernel
theorem d_S_redoNewBlock_5 : decode b_S_redoNewBlock 5 = .ok (.iconst 1, 1) := by decide +kernel
theorem d_S_redoNewBlock_6 : decode b_S_redoNewBlock 6 = .ok (.iadd, 1) := by decide +kernel
theorem d_S_redoNewBlock_7 : decode b_S_redoNewBlock 7 = .ok (.invokevirtual 235, 3) := by decide +kernel
theorem d_S_redoNewBlock_10 : decode b_S_redoNewBlock 10 = .ok (.istore_n 2, 1) := by decide +kernel
theorem d_S_redoNewBlock_11 : decode b_S_redoNewBlock 11 = .ok (.iconst 0, 1) := by decide +kernel
theorem d_S_redoNewBlock_12 : decode b_S_redoNewBlock 12 = .ok (.istore_n 3, 1) := by decide +kernel
theorem d_S_redoNewBlock_13 : decode b_S_redoNewBlock 13 = .ok (.iload_n 3, 1) := by decide +kernel
theorem d_S_redoNewBlock_14 : decode b_S_redoNewBlock 14 = .ok (.iload_n 2, 1) := by decide +kernel
theorem d_S_redoNewBlock_15 : decode b_S_redoNewBlock 15 = .ok (.if_icmp .ge 28, 3) := by decide +kernel
theorem d_S_redoNewBlock_18 : decode b_S_redoNewBlock 18 = .ok (.aload_n 0, 1) := by decide +kernel
theorem d_S_redoNewBlock_19 : decode b_S_redoNewBlock 19 = .ok (.getfield 21, 3) := by decide +kernel
theorem d_S_redoNewBlock_22 : decode b_S_redoNewBlock 22 = .ok (.aload_n 0, 1) := by decide +kernel
theorem d_S_redoNewBlock_23 : decode b_S_redoNewBlock 23 = .ok (.getfield 12, 3) := by decide +kernel
theorem d_S_redoNewBlock_26 : decode b_S_redoNewBlock 26 = .ok (.iload_n 1, 1) := by decide +kernel
theorem d_S_redoNewBlock_27 : decode b_S_redoNewBlock 27 = .ok (.iconst 2, 1) := by decide +kernel
theorem d_S_redoNewBlock_28 : decode b_S_redoNewBlock 28 = .ok (.iadd, 1) := by decide +kernel
theorem d_S_redoNewBlock_29 : decode b_S_redoNewBlock 29 = .ok (.iload_n 3, 1) := by decide +kernel
theorem d_S_redoNewBlock_30 : decode b_S_redoNewBlock 30 = .ok (.iadd, 1) := by decide +kernel
theorem d_S_redoNewBlock_31 : decode b_S_redoNewBlock 31 = .ok (.invokevirtual 235, 3) := by decide +kernel
theorem d_S_redoNewBlock_34 : decode b_S_redoNewBlock 34 = .ok (.invokevirtual 69, 3) := by decide +kernel
theorem d_S_redoNewBlock_37 : decode b_S_redoNewBlock 37 = .ok (.iinc 3 1, 3) := by decide +kernel
theorem d_S_redoNewBlock_40 : decode b_S_redoNewBlock 40 = .ok (.goto (-27), 3) := by decide +kernel
theorem d_S_redoNewBlock_43 : decode b_S_redoNewBlock 43 = .ok (.aload_n 0, 1) := by decide +kernel
theorem d_S_redoNewBlock_44 : decode b_S_redoNewBlock 44 = .ok (.invokevirtual 219, 3) := by decide +kernel
theorem d_S_redoNewBlock_47 : decode b_S_redoNewBlock 47 = .ok (.pop, 1) := by decide +kernel
theorem d_S_redoNewBlock_48 : decode b_S_redoNewBlock 48 = .ok (.return_, 1) := by decide +kernel
set_option maxRecDepth 20000 in
set_option maxHeartbeats 4000000 in
theorem c_S_redoNewBlock {D : va_G} {cI cZ cJ : ClassId} {ad : Nat → Nat} {mp : Nat} {lf : Nat → Int32} {n : Nat} {Pb : pc_C} {gt gp gh : Nat → Int32} {Pv : pc_C} {gd : Nat → Int32} {Pq : pc_C} {cr : Bool} {rest : va_W} {lg : Nat → Nat} {nb : Nat} {bl : Nat → Nat} {ba : Nat → Nat → Nat} {mt : Nat → Bool} {nv : Nat} {vl : Nat → Nat} {va : Nat → Nat → Nat} (hRl : lg_R lf n lg) (hRb : pc_R 600 25 Pb (nb, bl, ba)) (hRt : mk_R 24 gt mt) (hRv : pc_R 104 13 Pv (nv, vl, va)) {p : Nat} (hp : p + 2 + lg (p + 1) ≤ n) (hl : lg (p + 1) ≤ 24) (hb : nb < 24) (h0 : bl nb = 0) (hb24 : ∀ j, j ≤ nb → bl j ≤ 24) (hr : pcS vl (nv + 1) < 104) : bC D bcl (tys3 cI cZ cJ) y_S_redoNewBlock ({ frames := 2, cells := 0, slots := 0, locals := 42 }) (wS ad cI cZ mp lf n Pb gt gp gh Pv gd Pq cr rest) [.ref (ad 0), .int (nI (p))] (bO (fun ws9 => ∃ (Pb1 : pc_C) (gt1 : Nat → Int32) (Pv1 : pc_C), pc_R 600 25 Pb1 (nb + 1, fup (fup bl nb (lg (p + 1))) (nb + 1) 0, baN lg p nb ba) ∧ mk_R 24 gt1 (mk_up mt nb true) ∧ pc_R 104 13 Pv1 (nv, fup vl nv (vl nv + 1), fup2 va nv (vl nv) nb) ∧ ws9 = wS ad cI cZ mp lf n Pb1 gt1 gp gh Pv1 gd Pq cr rest) bno) := by
  have fl : n ≤ 400 := hRl.1
  have fb : nb < 25 := hRb.2.1
  have fv : nv < 13 := hRv.2.1
  refine bC.of (by decide) m_S_redoNewBlock.1 (Nat.le_of_ble_eq_true rfl) ?_
  intro Γ G E0
  show bV D bcl Γ 4 (wS ad cI cZ mp lf n Pb gt gp gh Pv gd Pq cr rest) 0 0 0 [(0, .ref (ad 0)), (1, .int (nI (p)))] []
  have loop : ∀ (d : Nat) (k : Nat) (Pz : pc_C), d + k = lg (p + 1) → pc_R 600 25 Pz (nb, fup bl nb k, baN lg p nb ba) → bV D bcl Γ 4 (wS ad cI cZ mp lf n Pz gt gp gh Pv gd Pq cr rest) 0 0 13 [(0, .ref (ad 0)), (1, .int (nI (p))), (2, .int (nI (lg (p + 1)))), (3, .int (nI (k)))] [] := by
    intro d
    induction d with
    | zero =>
      intro k Pz hd hRz
      refine bV.iload_n G d_S_redoNewBlock_13 rfl ?_
      refine bV.iload_n G d_S_redoNewBlock_14 rfl ?_
      refine bV.icmp_geN (tgt := 43) G d_S_redoNewBlock_15 (by decide) (by omega) (by omega) (fun c15 => ?_) (fun c15 => ?_)
      · refine bV.aload_n G d_S_redoNewBlock_43 rfl ?_
        refine bV.callVi G m_S_closeFed bw_251 bw_s4 bw_249 (c_S_closeFed hRz hRt hRv (by omega) hr) 0 rfl rfl rfl rfl rfl ⟨by decide, by decide⟩ ⟨by decide, by decide⟩ (Nat.le_of_ble_eq_true rfl) d_S_redoNewBlock_44 (fun x9 ws9 h9 => ?_)
        obtain ⟨rfl, Pb1, gt1, Pv1, hRb1, hRt1, hRv1, h9e⟩ := h9
        rw [h9e]
        try dsimp only
        refine bV.pop G d_S_redoNewBlock_47 rfl ?_
        exact bV.vretO G E0 rfl (by decide) (by decide) d_S_redoNewBlock_48 ⟨Pb1, gt1, Pv1, by obtain rfl : k = lg (p + 1) := (by omega); exact hRb1, hRt1, hRv1, rfl⟩
      · exfalso; omega
    | succ d ih =>
      intro k Pz hd hRz
      refine bV.iload_n G d_S_redoNewBlock_13 rfl ?_
      refine bV.iload_n G d_S_redoNewBlock_14 rfl ?_
      refine bV.icmp_geN (tgt := 43) G d_S_redoNewBlock_15 (by decide) (by omega) (by omega) (fun c15 => ?_) (fun c15 => ?_)
      · exfalso; omega
      · refine bV.aload_n G d_S_redoNewBlock_18 rfl ?_
        refine bV.getf G cl_S 0 1 rfl (by decide) bw_74 rfl d_S_redoNewBlock_19 ?_
        refine bV.aload_n G d_S_redoNewBlock_22 rfl ?_
        refine bV.getf G cl_S 0 0 rfl (by decide) bw_73 rfl d_S_redoNewBlock_23 ?_
        refine bV.iload_n G d_S_redoNewBlock_26 rfl ?_
        refine bV.iconst (v := nI 2) G d_S_redoNewBlock_27 (by decide) ?_
        refine bV.iaddN G d_S_redoNewBlock_28 ?_
        refine bV.iload_n G d_S_redoNewBlock_29 rfl ?_
        refine bV.iaddN G d_S_redoNewBlock_30 ?_
        refine bV.callVi G m_L_at bw_466 bw_467 bw_474 (c_L_at wS_l hRl (i := (p + 2) + k) (by omega)) 1 rfl rfl rfl rfl rfl ⟨by decide, by decide⟩ ⟨by decide, by decide⟩ (Nat.le_of_ble_eq_true rfl) d_S_redoNewBlock_31 (fun x9 ws9 h9 => ?_)
        obtain ⟨rfl, h9e⟩ := h9
        rw [h9e]
        try dsimp only
        rw [if_pos (by omega)]
        have hv2 : lg (p + 2 + k) < 256 := hRl.2.2 _ (by omega)
        refine bV.callVo G m_P_add bw_193 bw_194 bw_192 (cS_b_add (x := lg ((p + 2) + k)) hRz (by omega) (by dsimp only; rw [pcS_fup]; have z := pcS_le (pl := bl) (c := 24) nb (fun j hj => hb24 j (by omega)); omega)) 3 rfl rfl rfl rfl rfl ⟨by decide, by decide⟩ ⟨by decide, by decide⟩ (Nat.le_of_ble_eq_true rfl) d_S_redoNewBlock_34 (fun ws9 h9 => ?_)
        obtain ⟨Pb101, hRb102, h9e⟩ := h9
        rw [h9e]
        try dsimp only at hRb102
        refine bV.iincN G (lv' := [(0, .ref (ad 0)), (1, .int (nI (p))), (2, .int (nI (lg (p + 1)))), (3, .int (nI (k + 1)))]) d_S_redoNewBlock_37 rfl (by decide) rfl rfl ?_
        refine bV.goto (tgt := 13) G d_S_redoNewBlock_40 (by decide) ?_
        exact ih (k + 1) Pb101 (by omega) (nb_step hRb102)
  refine bV.aload_n G d_S_redoNewBlock_0 rfl ?_
  refine bV.getf G cl_S 0 0 rfl (by decide) bw_73 rfl d_S_redoNewBlock_1 ?_
  refine bV.iload_n G d_S_redoNewBlock_4 rfl ?_
  refine bV.iconst (v := nI 1) G d_S_redoNewBlock_5 (by decide) ?_
  refine bV.iaddN G d_S_redoNewBlock_6 ?_
  refine bV.callVi G m_L_at bw_466 bw_467 bw_474 (c_L_at wS_l hRl (i := p + 1) (by omega)) 1 rfl rfl rfl rfl rfl ⟨by decide, by decide⟩ ⟨by decide, by decide⟩ (Nat.le_of_ble_eq_true rfl) d_S_redoNewBlock_7 (fun x9 ws9 h9 => ?_)
  obtain ⟨rfl, h9e⟩ := h9
  rw [h9e]
  try dsimp only
  rw [if_pos (by omega)]
  refine bV.istore_n G (lv' := [(0, .ref (ad 0)), (1, .int (nI (p))), (2, .int (nI (lg (p + 1))))]) d_S_redoNewBlock_10 (by decide) rfl rfl ?_
  refine bV.iconst (v := nI 0) G d_S_redoNewBlock_11 (by decide) ?_
  refine bV.istore_n G (lv' := [(0, .ref (ad 0)), (1, .int (nI (p))), (2, .int (nI (lg (p + 1)))), (3, .int (nI (0)))]) d_S_redoNewBlock_12 (by decide) rfl rfl ?_
  exact loop (lg (p + 1)) 0 Pb (by omega) (nb_start hRb h0)
theorem d_S_redo_0 : decode b_S_redo 0 = .ok (.aload_n 0, 1) := by decide +kernel
theorem d_S_redo_1 : decode b_S_redo 1 = .ok (.getfield 12, 3) := by decide +kernel
theorem d_S_redo_4 : decode b_S_redo 4 = .ok (.iload_n 1, 1) := by decide +kernel
theorem d_S_redo_5 : decode b_S_redo 5 = .ok (.invokevirtual 235, 3) := by decide +kernel
theorem d_S_redo_8 : decode b_S_redo 8 = .ok (.tableswitch 103 1 5 #[36, 44, 64, 75, 95], 36) := by decide +kernel
theorem d_S_redo_44 : decode b_S_redo 44 = .ok (.aload_n 0, 1) := by decide +kernel
theorem d_S_redo_45 : decode b_S_redo 45 = .ok (.iload_n 1, 1) := by decide +kernel
theorem d_S_redo_46 : decode b_S_redo 46 = .ok (.invokevirtual 237, 3) := by decide +kernel
theorem d_S_redo_49 : decode b_S_redo 49 = .ok (.goto 62, 3) := by decide +kernel
theorem d_S_redo_52 : decode b_S_redo 52 = .ok (.aload_n 0, 1) := by decide +kernel
theorem d_S_redo_53 : decode b_S_redo 53 = .ok (.getfield 40, 3) := by decide +kernel
theorem d_S_redo_56 : decode b_S_redo 56 = .ok (.aload_n 0, 1) := by decide +kernel
theorem d_S_redo_57 : decode b_S_redo 57 = .ok (.getfield 12, 3) := by decide +kernel
theorem d_S_redo_60 : decode b_S_redo 60 = .ok (.iload_n 1, 1) := by decide +kernel
theorem d_S_redo_61 : decode b_S_redo 61 = .ok (.iconst 1, 1) := by decide +kernel
theorem d_S_redo_62 : decode b_S_redo 62 = .ok (.iadd, 1) := by decide +kernel
theorem d_S_redo_63 : decode b_S_redo 63 = .ok (.invokevirtual 235, 3) := by decide +kernel
theorem d_S_redo_66 : decode b_S_redo 66 = .ok (.invokevirtual 69, 3) := by decide +kernel
theorem d_S_redo_69 : decode b_S_redo 69 = .ok (.goto 42, 3) := by decide +kernel
theorem d_S_redo_72 : decode b_S_redo 72 = .ok (.aload_n 0, 1) := by decide +kernel
theorem d_S_redo_73 : decode b_S_redo 73 = .ok (.getfield 40, 3) := by decide +kernel
theorem d_S_redo_76 : decode b_S_redo 76 = .ok (.invokevirtual 91, 3) := by decide +kernel
theorem d_S_redo_79 : decode b_S_redo 79 = .ok (.pop, 1) := by decide +kernel
theorem d_S_redo_80 : decode b_S_redo 80 = .ok (.goto 31, 3) := by decide +kernel
theorem d_S_redo_83 : decode b_S_redo 83 = .ok (.aload_n 0, 1) := by decide +kernel
theorem d_S_redo_84 : decode b_S_redo 84 = .ok (.getfield 43, 3) := by decide +kernel
theorem d_S_redo_87 : decode b_S_redo 87 = .ok (.aload_n 0, 1) := by decide +kernel
theorem d_S_redo_88 : decode b_S_redo 88 = .ok (.getfield 12, 3) := by decide +kernel
theorem d_S_redo_91 : decode b_S_redo 91 = .ok (.iload_n 1, 1) := by decide +kernel
theorem d_S_redo_92 : decode b_S_redo 92 = .ok (.iconst 1, 1) := by decide +kernel
theorem d_S_redo_93 : decode b_S_redo 93 = .ok (.iadd, 1) := by decide +kernel
theorem d_S_redo_94 : decode b_S_redo 94 = .ok (.invokevirtual 235, 3) := by decide +kernel
theorem d_S_redo_97 : decode b_S_redo 97 = .ok (.invokevirtual 180, 3) := by decide +kernel
theorem d_S_redo_100 : decode b_S_redo 100 = .ok (.goto 11, 3) := by decide +kernel
theorem d_S_redo_103 : decode b_S_redo 103 = .ok (.aload_n 0, 1) := by decide +kernel
theorem d_S_redo_104 : decode b_S_redo 104 = .ok (.invokevirtual 117, 3) := by decide +kernel
theorem d_S_redo_107 : decode b_S_redo 107 = .ok (.pop, 1) := by decide +kernel
theorem d_S_redo_108 : decode b_S_redo 108 = .ok (.goto 3, 3) := by decide +kernel
theorem d_S_redo_111 : decode b_S_redo 111 = .ok (.return_, 1) := by decide +kernel
set_option maxRecDepth 20000 in
set_option maxHeartbeats 4000000 in
theorem c_S_redo1 {D : va_G} {cI cZ cJ : ClassId} {ad : Nat → Nat} {mp : Nat} {lf : Nat → Int32} {n : Nat} {Pb : pc_C} {gt gp gh : Nat → Int32} {Pv : pc_C} {gd : Nat → Int32} {Pq : pc_C} {cr : Bool} {rest : va_W} {lg : Nat → Nat} {nb : Nat} {bl : Nat → Nat} {ba : Nat → Nat → Nat} {mt : Nat → Bool} {nv : Nat} {vl : Nat → Nat} {va : Nat → Nat → Nat} (hRl : lg_R lf n lg) (hRb : pc_R 600 25 Pb (nb, bl, ba)) (hRt : mk_R 24 gt mt) (hRv : pc_R 104 13 Pv (nv, vl, va)) {p : Nat} (hp : p + 2 + lg (p + 1) ≤ n) (hl : lg (p + 1) ≤ 24) (hb : nb < 24) (h0 : bl nb = 0) (hb24 : ∀ j, j ≤ nb → bl j ≤ 24) (hr : pcS vl (nv + 1) < 104) (hk : lg p = 1) : bC D bcl (tys3 cI cZ cJ) y_S_redo ({ frames := 4, cells := 0, slots := 0, locals := 90 }) (wS ad cI cZ mp lf n Pb gt gp gh Pv gd Pq cr rest) [.ref (ad 0), .int (nI (p))] (bO (fun ws9 => ∃ (Pb1 : pc_C) (gt1 : Nat → Int32) (Pv1 : pc_C), pc_R 600 25 Pb1 (nb + 1, fup (fup bl nb (lg (p + 1))) (nb + 1) 0, baN lg p nb ba) ∧ mk_R 24 gt1 (mk_up mt nb true) ∧ pc_R 104 13 Pv1 (nv, fup vl nv (vl nv + 1), fup2 va nv (vl nv) nb) ∧ ws9 = wS ad cI cZ mp lf n Pb1 gt1 gp gh Pv1 gd Pq cr rest) bno) := by
  have fl : n ≤ 400 := hRl.1
  have fb : nb < 25 := hRb.2.1
  have fv : nv < 13 := hRv.2.1
  refine bC.of (by decide) m_S_redo.1 (Nat.le_of_ble_eq_true rfl) ?_
  intro Γ G E0
  show bV D bcl Γ 2 (wS ad cI cZ mp lf n Pb gt gp gh Pv gd Pq cr rest) 0 0 0 [(0, .ref (ad 0)), (1, .int (nI (p)))] []
  refine bV.aload_n G d_S_redo_0 rfl ?_
  refine bV.getf G cl_S 0 0 rfl (by decide) bw_73 rfl d_S_redo_1 ?_
  refine bV.iload_n G d_S_redo_4 rfl ?_
  refine bV.callVi G m_L_at bw_466 bw_467 bw_474 (c_L_at wS_l hRl (i := p) (by omega)) 1 rfl rfl rfl rfl rfl ⟨by decide, by decide⟩ ⟨by decide, by decide⟩ (Nat.le_of_ble_eq_true rfl) d_S_redo_5 (fun x9 ws9 h9 => ?_)
  obtain ⟨rfl, h9e⟩ := h9
  rw [h9e]
  try dsimp only
  rw [if_pos (by omega)]
  refine bV.tableIn (tgt := 44) (off := 36) G d_S_redo_8 (by rw [hk]; decide) (by rw [hk]; decide) (by rw [hk]; rfl) (by decide) ?_
  refine bV.aload_n G d_S_redo_44 rfl ?_
  refine bV.iload_n G d_S_redo_45 rfl ?_
  refine bV.callVo G m_S_redoNewBlock bw_477 bw_s22 bw_475 (c_S_redoNewBlock hRl hRb hRt hRv (p := p) hp hl hb h0 hb24 hr) 0 rfl rfl rfl rfl rfl ⟨by decide, by decide⟩ ⟨by decide, by decide⟩ (Nat.le_of_ble_eq_true rfl) d_S_redo_46 (fun ws9 h9 => ?_)
  obtain ⟨Pb1, gt1, Pv1, hRb1, hRt1, hRv1, h9e⟩ := h9
  rw [h9e]
  refine bV.goto (tgt := 111) G d_S_redo_49 (by decide) ?_
  exact bV.vretO G E0 rfl (by decide) (by decide) d_S_redo_111 ⟨Pb1, gt1, Pv1, hRb1, hRt1, hRv1, rfl⟩
set_option maxRecDepth 20000 in
set_option maxHeartbeats 4000000 in
theorem c_S_redo2 {D : va_G} {cI cZ cJ : ClassId} {ad : Nat → Nat} {mp : Nat} {lf : Nat → Int32} {n : Nat} {Pb : pc_C} {gt gp gh : Nat → Int32} {Pv : pc_C} {gd : Nat → Int32} {Pq : pc_C} {cr : Bool} {rest : va_W} {lg : Nat → Nat} {nv : Nat} {vl : Nat → Nat} {va : Nat → Nat → Nat} (hRl : lg_R lf n lg) (hRv : pc_R 104 13 Pv (nv, vl, va)) {p : Nat} (hp : p + 2 ≤ n) (hk : lg p = 2) (hr : pcS vl (nv + 1) < 104) : bC D bcl (tys3 cI cZ cJ) y_S_redo ({ frames := 4, cells := 0, slots := 0, locals := 90 }) (wS ad cI cZ mp lf n Pb gt gp gh Pv gd Pq cr rest) [.ref (ad 0), .int (nI (p))] (bO (fun ws9 => ∃ Pv1 : pc_C, pc_R 104 13 Pv1 (nv, fup vl nv (vl nv + 1), fup2 va nv (vl nv) (lg (p + 1))) ∧ ws9 = wS ad cI cZ mp lf n Pb gt gp gh Pv1 gd Pq cr rest) bno) := by
  have fl : n ≤ 400 := hRl.1
  have fv : nv < 13 := hRv.2.1
  refine bC.of (by decide) m_S_redo.1 (Nat.le_of_ble_eq_true rfl) ?_
  intro Γ G E0
  show bV D bcl Γ 2 (wS ad cI cZ mp lf n Pb gt gp gh Pv gd Pq cr rest) 0 0 0 [(0, .ref (ad 0)), (1, .int (nI (p)))] []
  refine bV.aload_n G d_S_redo_0 rfl ?_
  refine bV.getf G cl_S 0 0 rfl (by decide) bw_73 rfl d_S_redo_1 ?_
  refine bV.iload_n G d_S_redo_4 rfl ?_
  refine bV.callVi G m_L_at bw_466 bw_467 bw_474 (c_L_at wS_l hRl (i := p) (by omega)) 1 rfl rfl rfl rfl rfl ⟨by decide, by decide⟩ ⟨by decide, by decide⟩ (Nat.le_of_ble_eq_true rfl) d_S_redo_5 (fun x9 ws9 h9 => ?_)
  obtain ⟨rfl, h9e⟩ := h9
  rw [h9e]
  try dsimp only
  rw [if_pos (by omega)]
  refine bV.tableIn (tgt := 52) (off := 44) G d_S_redo_8 (by rw [hk]; decide) (by rw [hk]; decide) (by rw [hk]; rfl) (by decide) ?_
  refine bV.aload_n G d_S_redo_52 rfl ?_
  refine bV.getf G cl_S 0 5 rfl (by decide) bw_78 rfl d_S_redo_53 ?_
  refine bV.aload_n G d_S_redo_56 rfl ?_
  refine bV.getf G cl_S 0 0 rfl (by decide) bw_73 rfl d_S_redo_57 ?_
  refine bV.iload_n G d_S_redo_60 rfl ?_
  refine bV.iconst (v := nI 1) G d_S_redo_61 (by decide) ?_
  refine bV.iaddN G d_S_redo_62 ?_
  refine bV.callVi G m_L_at bw_466 bw_467 bw_474 (c_L_at wS_l hRl (i := p + 1) (by omega)) 1 rfl rfl rfl rfl rfl ⟨by decide, by decide⟩ ⟨by decide, by decide⟩ (Nat.le_of_ble_eq_true rfl) d_S_redo_63 (fun x9 ws9 h9 => ?_)
  obtain ⟨rfl, h9e⟩ := h9
  rw [h9e]
  try dsimp only
  rw [if_pos (by omega)]
  have hv1 : lg (p + 1) < 256 := hRl.2.2 _ (by omega)
  refine bV.callVo G m_P_add bw_193 bw_194 bw_192 (cS_v_add (x := lg (p + 1)) hRv (by omega) hr) 12 rfl rfl rfl rfl rfl ⟨by decide, by decide⟩ ⟨by decide, by decide⟩ (Nat.le_of_ble_eq_true rfl) d_S_redo_66 (fun ws9 h9 => ?_)
  obtain ⟨Pv1, hRv2, h9e⟩ := h9
  rw [h9e]
  try dsimp only at hRv2
  refine bV.goto (tgt := 111) G d_S_redo_69 (by decide) ?_
  exact bV.vretO G E0 rfl (by decide) (by decide) d_S_redo_111 ⟨Pv1, hRv2, rfl⟩
set_option maxRecDepth 20000 in
set_option maxHeartbeats 4000000 in
theorem c_S_redo3 {D : va_G} {cI cZ cJ : ClassId} {ad : Nat → Nat} {mp : Nat} {lf : Nat → Int32} {n : Nat} {Pb : pc_C} {gt gp gh : Nat → Int32} {Pv : pc_C} {gd : Nat → Int32} {Pq : pc_C} {cr : Bool} {rest : va_W} {lg : Nat → Nat} {nv : Nat} {vl : Nat → Nat} {va : Nat → Nat → Nat} (hRl : lg_R lf n lg) (hRv : pc_R 104 13 Pv (nv, vl, va)) {p : Nat} (hp : p + 1 ≤ n) (hk : lg p = 3) (hn : nv < 12) : bC D bcl (tys3 cI cZ cJ) y_S_redo ({ frames := 4, cells := 0, slots := 0, locals := 90 }) (wS ad cI cZ mp lf n Pb gt gp gh Pv gd Pq cr rest) [.ref (ad 0), .int (nI (p))] (bO (fun ws9 => ∃ Pv1 : pc_C, pc_R 104 13 Pv1 (nv + 1, fup vl (nv + 1) 0, va) ∧ ws9 = wS ad cI cZ mp lf n Pb gt gp gh Pv1 gd Pq cr rest) bno) := by
  have fl : n ≤ 400 := hRl.1
  have fv : nv < 13 := hRv.2.1
  refine bC.of (by decide) m_S_redo.1 (Nat.le_of_ble_eq_true rfl) ?_
  intro Γ G E0
  show bV D bcl Γ 2 (wS ad cI cZ mp lf n Pb gt gp gh Pv gd Pq cr rest) 0 0 0 [(0, .ref (ad 0)), (1, .int (nI (p)))] []
  refine bV.aload_n G d_S_redo_0 rfl ?_
  refine bV.getf G cl_S 0 0 rfl (by decide) bw_73 rfl d_S_redo_1 ?_
  refine bV.iload_n G d_S_redo_4 rfl ?_
  refine bV.callVi G m_L_at bw_466 bw_467 bw_474 (c_L_at wS_l hRl (i := p) (by omega)) 1 rfl rfl rfl rfl rfl ⟨by decide, by decide⟩ ⟨by decide, by decide⟩ (Nat.le_of_ble_eq_true rfl) d_S_redo_5 (fun x9 ws9 h9 => ?_)
  obtain ⟨rfl, h9e⟩ := h9
  rw [h9e]
  try dsimp only
  rw [if_pos (by omega)]
  refine bV.tableIn (tgt := 72) (off := 64) G d_S_redo_8 (by rw [hk]; decide) (by rw [hk]; decide) (by rw [hk]; rfl) (by decide) ?_
  refine bV.aload_n G d_S_redo_72 rfl ?_
  refine bV.getf G cl_S 0 5 rfl (by decide) bw_78 rfl d_S_redo_73 ?_
  refine bV.callVi G m_P_close bw_254 bw_255 bw_253 (cS_v_close hRv (by dsimp only; omega)) 12 rfl rfl rfl rfl rfl ⟨by decide, by decide⟩ ⟨by decide, by decide⟩ (Nat.le_of_ble_eq_true rfl) d_S_redo_76 (fun x9 ws9 h9 => ?_)
  obtain ⟨rfl, Pv1, hRv2, h9e⟩ := h9
  rw [h9e]
  try dsimp only at hRv2
  try dsimp only
  refine bV.pop G d_S_redo_79 rfl ?_
  refine bV.goto (tgt := 111) G d_S_redo_80 (by decide) ?_
  exact bV.vretO G E0 rfl (by decide) (by decide) d_S_redo_111 ⟨Pv1, hRv2, rfl⟩
set_option maxRecDepth 20000 in
set_option maxHeartbeats 4000000 in
theorem c_S_redo4 {D : va_G} {cI cZ cJ : ClassId} {ad : Nat → Nat} {mp : Nat} {lf : Nat → Int32} {n : Nat} {Pb : pc_C} {gt gp gh : Nat → Int32} {Pv : pc_C} {gd : Nat → Int32} {Pq : pc_C} {cr : Bool} {rest : va_W} {lg : Nat → Nat} {md : Nat → Bool} (hRl : lg_R lf n lg) (hRd : mk_R 12 gd md) {p : Nat} (hp : p + 2 ≤ n) (hk : lg p = 4) (hn : lg (p + 1) < 12) : bC D bcl (tys3 cI cZ cJ) y_S_redo ({ frames := 4, cells := 0, slots := 0, locals := 90 }) (wS ad cI cZ mp lf n Pb gt gp gh Pv gd Pq cr rest) [.ref (ad 0), .int (nI (p))] (bO (fun ws9 => ∃ gd1 : Nat → Int32, mk_R 12 gd1 (mk_up md (lg (p + 1)) true) ∧ ws9 = wS ad cI cZ mp lf n Pb gt gp gh Pv gd1 Pq cr rest) bno) := by
  have fl : n ≤ 400 := hRl.1
  refine bC.of (by decide) m_S_redo.1 (Nat.le_of_ble_eq_true rfl) ?_
  intro Γ G E0
  show bV D bcl Γ 2 (wS ad cI cZ mp lf n Pb gt gp gh Pv gd Pq cr rest) 0 0 0 [(0, .ref (ad 0)), (1, .int (nI (p)))] []
  refine bV.aload_n G d_S_redo_0 rfl ?_
  refine bV.getf G cl_S 0 0 rfl (by decide) bw_73 rfl d_S_redo_1 ?_
  refine bV.iload_n G d_S_redo_4 rfl ?_
  refine bV.callVi G m_L_at bw_466 bw_467 bw_474 (c_L_at wS_l hRl (i := p) (by omega)) 1 rfl rfl rfl rfl rfl ⟨by decide, by decide⟩ ⟨by decide, by decide⟩ (Nat.le_of_ble_eq_true rfl) d_S_redo_5 (fun x9 ws9 h9 => ?_)
  obtain ⟨rfl, h9e⟩ := h9
  rw [h9e]
  try dsimp only
  rw [if_pos (by omega)]
  refine bV.tableIn (tgt := 83) (off := 75) G d_S_redo_8 (by rw [hk]; decide) (by rw [hk]; decide) (by rw [hk]; rfl) (by decide) ?_
  refine bV.aload_n G d_S_redo_83 rfl ?_
  refine bV.getf G cl_S 0 6 rfl (by decide) bw_79 rfl d_S_redo_84 ?_
  refine bV.aload_n G d_S_redo_87 rfl ?_
  refine bV.getf G cl_S 0 0 rfl (by decide) bw_73 rfl d_S_redo_88 ?_
  refine bV.iload_n G d_S_redo_91 rfl ?_
  refine bV.iconst (v := nI 1) G d_S_redo_92 (by decide) ?_
  refine bV.iaddN G d_S_redo_93 ?_
  refine bV.callVi G m_L_at bw_466 bw_467 bw_474 (c_L_at wS_l hRl (i := p + 1) (by omega)) 1 rfl rfl rfl rfl rfl ⟨by decide, by decide⟩ ⟨by decide, by decide⟩ (Nat.le_of_ble_eq_true rfl) d_S_redo_94 (fun x9 ws9 h9 => ?_)
  obtain ⟨rfl, h9e⟩ := h9
  rw [h9e]
  try dsimp only
  rw [if_pos (by omega)]
  refine bV.callVo G m_K_turnOn bw_258 bw_259 bw_257 (cS_d_turnOn (j := lg (p + 1)) hRd (by omega)) 15 rfl rfl rfl rfl rfl ⟨by decide, by decide⟩ ⟨by decide, by decide⟩ (Nat.le_of_ble_eq_true rfl) d_S_redo_97 (fun ws9 h9 => ?_)
  obtain ⟨gd1, hRd2, h9e⟩ := h9
  rw [h9e]
  refine bV.goto (tgt := 111) G d_S_redo_100 (by decide) ?_
  exact bV.vretO G E0 rfl (by decide) (by decide) d_S_redo_111 ⟨gd1, hRd2, rfl⟩
set_option maxRecDepth 20000 in
set_option maxHeartbeats 4000000 in
theorem c_S_redo5 {D : va_G} {cI cZ cJ : ClassId} {ad : Nat → Nat} {mp : Nat} {lf : Nat → Int32} {n : Nat} {Pb : pc_C} {gt gp gh : Nat → Int32} {Pv : pc_C} {gd : Nat → Int32} {Pq : pc_C} {cr : Bool} {rest : va_W} {lg : Nat → Nat} {nb : Nat} {bl : Nat → Nat} {ba : Nat → Nat → Nat} {mt : Nat → Bool} {nv : Nat} {vl : Nat → Nat} {va : Nat → Nat → Nat} {md : Nat → Bool} {mh : Nat → Bool} (hRl : lg_R lf n lg) (hRb : pc_R 600 25 Pb (nb, bl, ba)) (hRt : mk_R 24 gt mt) (hRv : pc_R 104 13 Pv (nv, vl, va)) (hRd : mk_R 12 gd md) (hRh : mk_R 24 gh mh) {p : Nat} (hp : p + 1 ≤ n) (hk : lg p = 5) (hvb : ∀ v k, v ≤ nv → k < vl v → va v k < nb) : bC D bcl (tys3 cI cZ cJ) y_S_redo ({ frames := 4, cells := 0, slots := 0, locals := 90 }) (wS ad cI cZ mp lf n Pb gt gp gh Pv gd Pq cr rest) [.ref (ad 0), .int (nI (p))] (bO (fun ws9 => ∃ (gt1 gh1 : Nat → Int32), mk_R 24 gt1 (swS mt (hlB md vl va nv) nb) ∧ mk_R 24 gh1 (hlB md vl va nv) ∧ ws9 =  wS ad cI cZ mp lf n Pb gt1 gp gh1 Pv gd Pq cr rest) bno) := by
  have fl : n ≤ 400 := hRl.1
  have fb : nb < 25 := hRb.2.1
  have fv : nv < 13 := hRv.2.1
  refine bC.of (by decide) m_S_redo.1 (Nat.le_of_ble_eq_true rfl) ?_
  intro Γ G E0
  show bV D bcl Γ 2 (wS ad cI cZ mp lf n Pb gt gp gh Pv gd Pq cr rest) 0 0 0 [(0, .ref (ad 0)), (1, .int (nI (p)))] []
  refine bV.aload_n G d_S_redo_0 rfl ?_
  refine bV.getf G cl_S 0 0 rfl (by decide) bw_73 rfl d_S_redo_1 ?_
  refine bV.iload_n G d_S_redo_4 rfl ?_
  refine bV.callVi G m_L_at bw_466 bw_467 bw_474 (c_L_at wS_l hRl (i := p) (by omega)) 1 rfl rfl rfl rfl rfl ⟨by decide, by decide⟩ ⟨by decide, by decide⟩ (Nat.le_of_ble_eq_true rfl) d_S_redo_5 (fun x9 ws9 h9 => ?_)
  obtain ⟨rfl, h9e⟩ := h9
  rw [h9e]
  try dsimp only
  rw [if_pos (by omega)]
  refine bV.tableIn (tgt := 103) (off := 95) G d_S_redo_8 (by rw [hk]; decide) (by rw [hk]; decide) (by rw [hk]; rfl) (by decide) ?_
  refine bV.aload_n G d_S_redo_103 rfl ?_
  refine bV.callVi G m_S_removeUnheldBlocks bw_348 bw_s10 bw_346 (c_S_removeUnheldBlocks hRb hRt hRv hRd hRh hvb) 0 rfl rfl rfl rfl rfl ⟨by decide, by decide⟩ ⟨by decide, by decide⟩ (Nat.le_of_ble_eq_true rfl) d_S_redo_104 (fun x9 ws9 h9 => ?_)
  obtain ⟨rfl, gt1, gh1, hRt1, hRh1, h9e⟩ := h9
  rw [h9e]
  try dsimp only
  refine bV.pop G d_S_redo_107 rfl ?_
  refine bV.goto (tgt := 111) G d_S_redo_108 (by decide) ?_
  exact bV.vretO G E0 rfl (by decide) (by decide) d_S_redo_111 ⟨gt1, gh1, hRt1, hRh1, rfl⟩
theorem hr_of {S : aS} {a : Nat} (h : okS a S) (h8 : sCt S (sNv S) < 8) : pcS (sCt S) (sNv S + 1) < 104 := by
  have z := pcS_le (pl := sCt S) (c := 8) (sNv S) (fun j hj => h.2.2.1 j (by omega))
  have h2 := h.2.1
  show pcS (sCt S) (sNv S) + sCt S (sNv S) < 104
  omega
theorem hb_of {S : aS} {a fd : Nat} (h : okS a S) (hf : fd ≤ 24) : ∀ j, j ≤ sNb S → fup (sLn S) (sNb S) fd j ≤ 24 := fun j hj => fup_le (fun e => (h.2.2.2.2.1 j (by omega)).1) hf
set_option maxRecDepth 20000 in
set_option maxHeartbeats 4000000 in
theorem c_S_redo {D : va_G} {cI cZ cJ : ClassId} {ad : Nat → Nat} {mp : Nat} {lf : Nat → Int32} {n : Nat} {Pb : pc_C} {gt gp gh : Nat → Int32} {Pv : pc_C} {gd : Nat → Int32} {Pq : pc_C} {cr : Bool} {rest : va_W} {lg : Nat → Nat} {S : aS} {fo : Nat → Nat} {mh : Nat → Bool} {p : Nat} (hRl : lg_R lf n lg) (hC : clR lg S 0 fo Pb gt Pv gd) (hRh : mk_R 24 gh mh) (hs : okS p S) (hk : okR lg p S) (hp : p + rlen lg p ≤ n) :
    bC D bcl (tys3 cI cZ cJ) y_S_redo ({ frames := 4, cells := 0, slots := 0, locals := 90 }) (wS ad cI cZ mp lf n Pb gt gp gh Pv gd Pq cr rest) [.ref (ad 0), .int (nI p)] (bO (fun ws9 => ∃ (Pb1 : pc_C) (gt1 gh1 : Nat → Int32) (Pv1 : pc_C) (gd1 : Nat → Int32) (mh1 : Nat → Bool), clR lg (actS lg p S) 0 fo Pb1 gt1 Pv1 gd1 ∧ mk_R 24 gh1 mh1 ∧ ws9 = wS ad cI cZ mp lf n Pb1 gt1 gp gh1 Pv1 gd1 Pq cr rest) bno) := by
  obtain ⟨hRb, hRt, hRv, hRd⟩ := hC
  have hs5 := hs.2.2.2.2.1
  rcases hk with ⟨k, a, b, c⟩ | ⟨k, a, c⟩ | ⟨k, a⟩ | ⟨k, a⟩ | k
  · have e := act_1 (S := S) k
    rw [e.2] at hp
    refine (c_S_redo1 (p := p) hRl hRb hRt hRv (by omega) b a fup_s (hb_of hs (Nat.zero_le _)) (hr_of hs c) k).mono (bO_mono fun ws' h => ?_)
    obtain ⟨Pb1, gt1, Pv1, h1, h2, h3, h4⟩ := h
    refine ⟨Pb1, gt1, gh, Pv1, gd, mh, ?_, hRh, h4⟩
    rw [e.1]
    refine ⟨pc_R_congr h1 (fun j hj => ?_) (fun j i hj hi => ?_), h2, h3, hRd⟩
    · show fup (fup (sLn S) (sNb S) (lg (p + 1))) (sNb S + 1) 0 j = fup (fup (fup (sLn S) (sNb S) 0) (sNb S) (lg (p + 1))) (sNb S + 1) 0 j
      unfold fup
      split
      · rfl
      · split <;> rfl
    · show (if j = sNb S + 1 then fo i else lg (fup (sFr S) (sNb S) (p + 2) j + i)) = (if j = sNb S then lg (p + 2 + i) else (if j = sNb S then fo i else lg (sFr S j + i)))
      have hj' : j ≤ sNb S + 1 := hj
      have hi' : i < fup (fup (fup (sLn S) (sNb S) 0) (sNb S) (lg (p + 1))) (sNb S + 1) 0 j := hi
      by_cases z : j = sNb S + 1
      · subst z; rw [fup_s] at hi'; exact absurd hi' (Nat.not_lt_zero _)
      · rw [if_neg z]
        by_cases y : j = sNb S
        · subst y; rw [if_pos rfl, fup_s]
        · rw [if_neg y, if_neg y, fup_n y]
  · have e := act_2 (S := S) k
    rw [e.2] at hp
    refine (c_S_redo2 (p := p) hRl hRv hp k (hr_of hs c)).mono (bO_mono fun ws' h => ?_)
    obtain ⟨Pv1, h1, h4⟩ := h
    refine ⟨Pb, gt, gh, Pv1, gd, mh, ?_, hRh, h4⟩
    rw [e.1]
    exact ⟨hRb, hRt, h1, hRd⟩
  · have e := act_3 (S := S) k
    rw [e.2] at hp
    refine (c_S_redo3 (p := p) hRl hRv hp k a).mono (bO_mono fun ws' h => ?_)
    obtain ⟨Pv1, h1, h4⟩ := h
    refine ⟨Pb, gt, gh, Pv1, gd, mh, ?_, hRh, h4⟩
    rw [e.1]
    exact ⟨hRb, hRt, h1, hRd⟩
  · have e := act_4 (S := S) k
    rw [e.2] at hp
    have h2 := hs.2.1
    refine (c_S_redo4 (p := p) hRl hRd hp k (by omega)).mono (bO_mono fun ws' h => ?_)
    obtain ⟨gd1, h1, h4⟩ := h
    refine ⟨Pb, gt, gh, Pv, gd1, mh, ?_, hRh, h4⟩
    rw [e.1]
    exact ⟨hRb, hRt, hRv, h1⟩
  · have e := act_5 (S := S) k
    rw [e.2] at hp
    refine (c_S_redo5 (p := p) hRl hRb hRt hRv hRd hRh hp k hs.2.2.2.1).mono (bO_mono fun ws' h => ?_)
    obtain ⟨gt1, gh1, h1, h2, h4⟩ := h
    refine ⟨Pb, gt1, gh1, Pv, gd, _, ?_, h2, h4⟩
    rw [e.1]
    exact ⟨hRb, h1, hRv, hRd⟩
theorem d_S_reopen_0 : decode b_S_reopen 0 = .ok (.aload_n 0, 1) := by decide +kernel
theorem d_S_reopen_1 : decode b_S_reopen 1 = .ok (.invokevirtual 155, 3) := by decide +kernel
theorem d_S_reopen_4 : decode b_S_reopen 4 = .ok (.iconst 0, 1) := by decide +kernel
theorem d_S_reopen_5 : decode b_S_reopen 5 = .ok (.istore_n 1, 1) := by decide +kernel
theorem d_S_reopen_6 : decode b_S_reopen 6 = .ok (.iconst 0, 1) := by decide +kernel
theorem d_S_reopen_7 : decode b_S_reopen 7 = .ok (.istore_n 2, 1) := by decide +kernel
theorem d_S_reopen_8 : decode b_S_reopen 8 = .ok (.iload_n 2, 1) := by decide +kernel
theorem d_S_reopen_9 : decode b_S_reopen 9 = .ok (.sipush 400, 3) := by decide +kernel
theorem d_S_reopen_12 : decode b_S_reopen 12 = .ok (.if_icmp .ge 34, 3) := by decide +kernel
theorem d_S_reopen_15 : decode b_S_reopen 15 = .ok (.aload_n 0, 1) := by decide +kernel
theorem d_S_reopen_16 : decode b_S_reopen 16 = .ok (.getfield 12, 3) := by decide +kernel
theorem d_S_reopen_19 : decode b_S_reopen 19 = .ok (.iload_n 1, 1) := by decide +kernel
theorem d_S_reopen_20 : decode b_S_reopen 20 = .ok (.invokevirtual 158, 3) := by decide +kernel
theorem d_S_reopen_23 : decode b_S_reopen 23 = .ok (.istore_n 3, 1) := by decide +kernel
theorem d_S_reopen_24 : decode b_S_reopen 24 = .ok (.iload_n 3, 1) := by decide +kernel
theorem d_S_reopen_25 : decode b_S_reopen 25 = .ok (.ifCond .ne 6, 3) := by decide +kernel
theorem d_S_reopen_28 : decode b_S_reopen 28 = .ok (.goto 18, 3) := by decide +kernel
theorem d_S_reopen_31 : decode b_S_reopen 31 = .ok (.aload_n 0, 1) := by decide +kernel
theorem d_S_reopen_32 : decode b_S_reopen 32 = .ok (.iload_n 1, 1) := by decide +kernel
theorem d_S_reopen_33 : decode b_S_reopen 33 = .ok (.invokevirtual 161, 3) := by decide +kernel
theorem d_S_reopen_36 : decode b_S_reopen 36 = .ok (.iload_n 1, 1) := by decide +kernel
theorem d_S_reopen_37 : decode b_S_reopen 37 = .ok (.iload_n 3, 1) := by decide +kernel
theorem d_S_reopen_38 : decode b_S_reopen 38 = .ok (.iadd, 1) := by decide +kernel
theorem d_S_reopen_39 : decode b_S_reopen 39 = .ok (.istore_n 1, 1) := by decide +kernel
theorem d_S_reopen_40 : decode b_S_reopen 40 = .ok (.iinc 2 1, 3) := by decide +kernel
theorem d_S_reopen_43 : decode b_S_reopen 43 = .ok (.goto (-35), 3) := by decide +kernel
theorem d_S_reopen_46 : decode b_S_reopen 46 = .ok (.aload_n 0, 1) := by decide +kernel
theorem d_S_reopen_47 : decode b_S_reopen 47 = .ok (.getfield 12, 3) := by decide +kernel
theorem d_S_reopen_50 : decode b_S_reopen 50 = .ok (.iload_n 1, 1) := by decide +kernel
theorem d_S_reopen_51 : decode b_S_reopen 51 = .ok (.invokevirtual 149, 3) := by decide +kernel
theorem d_S_reopen_54 : decode b_S_reopen 54 = .ok (.aload_n 0, 1) := by decide +kernel
theorem d_S_reopen_55 : decode b_S_reopen 55 = .ok (.iconst 0, 1) := by decide +kernel
theorem d_S_reopen_56 : decode b_S_reopen 56 = .ok (.putfield 58, 3) := by decide +kernel
theorem d_S_reopen_59 : decode b_S_reopen 59 = .ok (.aload_n 0, 1) := by decide +kernel
theorem d_S_reopen_60 : decode b_S_reopen 60 = .ok (.getfield 40, 3) := by decide +kernel
theorem d_S_reopen_63 : decode b_S_reopen 63 = .ok (.invokevirtual 123, 3) := by decide +kernel
theorem d_S_reopen_66 : decode b_S_reopen 66 = .ok (.ireturn, 1) := by decide +kernel
set_option maxRecDepth 20000 in
set_option maxHeartbeats 4000000 in
theorem c_S_reopen {D : va_G} {cI cZ cJ : ClassId} {ad : Nat → Nat} {mp : Nat} {lf : Nat → Int32} {n : Nat} {Pb : pc_C} {gt gp gh : Nat → Int32} {Pv : pc_C} {gd : Nat → Int32} {Pq : pc_C} {cr : Bool} {rest : va_W} {lg : Nat → Nat} (hRl : lg_R lf n lg) {S0 : aS} {fo : Nat → Nat} {mh : Nat → Bool} {r : Nat} (hcut : cutOk lg n r) (hC : clR lg aS0 0 fo Pb gt Pv gd) (hRh : mk_R 24 gh mh) : bC D bcl (tys3 cI cZ cJ) y_S_reopen ({ frames := 7, cells := 1, slots := 6, locals := 111 }) (wS ad cI cZ mp lf n Pb gt gp gh Pv gd Pq cr rest) [.ref (ad 0)] (bI (fun x ws9 => cr = true ∧ x = nI (sNv (chS lg r).2) ∧ ∃ (Pb1 : pc_C) (gt1 gh1 : Nat → Int32) (Pv1 : pc_C) (gd1 : Nat → Int32) (mh1 : Nat → Bool), clR lg (chS lg r).2 0 fo Pb1 gt1 Pv1 gd1 ∧ mk_R 24 gh1 mh1 ∧ lg_R lf (chS lg r).1 lg ∧ ws9 = wS ad cI cZ mp lf ((chS lg r).1) Pb1 gt1 gp gh1 Pv1 gd1 Pq false rest) (fun E ws9 => cr = false ∧ E = "java/lang/IllegalStateException" ∧ ws9 = wS ad cI cZ mp lf n Pb gt gp gh Pv gd Pq cr rest)) := by
  have fl : n ≤ 400 := hRl.1
  have hr400 := chS_r (lg := lg) r
  have hcn := hcut.2.1
  refine bC.of (by decide) m_S_reopen.1 (Nat.le_of_ble_eq_true rfl) ?_
  intro Γ G E0
  show bV D bcl Γ 4 (wS ad cI cZ mp lf n Pb gt gp gh Pv gd Pq cr rest) 0 0 0 [(0, .ref (ad 0))] []
  have loop : ∀ (d : Nat) (q : Nat) (Pz : pc_C) (gtz ghz : Nat → Int32) (Pvz : pc_C) (gdz : Nat → Int32) (mhz : Nat → Bool), cr = true → d + q = r → clR lg (chS lg q).2 0 fo Pz gtz Pvz gdz → mk_R 24 ghz mhz → bV D bcl Γ 4 (wS ad cI cZ mp lf n Pz gtz gp ghz Pvz gdz Pq cr rest) 1 6 8 [(0, .ref (ad 0)), (1, .int (nI ((chS lg q).1))), (2, .int (nI (q)))] [] := by
    intro d
    induction d with
    | zero =>
      intro q Pz gtz ghz Pvz gdz mhz hg1 hd hC9 hRh9
      have hqr := chS_le (lg := lg) (q := q) r (by omega)
      obtain ⟨rlq, hrlq⟩ : ∃ z : Nat, z = (if recLen lg n (chS lg q).1 ≤ n - (chS lg q).1 then recLen lg n (chS lg q).1 else 0) := ⟨_, rfl⟩
      have hrl := hrlq.symm
      refine bV.iload_n G d_S_reopen_8 rfl ?_
      refine bV.sipush (v := nI 400) G d_S_reopen_9 (by decide) ?_
      refine bV.icmp_geN (tgt := 46) G d_S_reopen_12 (by decide) (by omega) (by omega) (fun c12 => ?_) (fun c12 => ?_)
      · obtain rfl : r = q := by omega
        have hq7 := (okS_ch r hcut.1).2.1
        refine bV.aload_n G d_S_reopen_46 rfl ?_
        refine bV.getf G cl_S 0 0 rfl (by decide) bw_73 rfl d_S_reopen_47 ?_
        refine bV.iload_n G d_S_reopen_50 rfl ?_
        refine bV.callVo G m_L_cutTo bw_434 bw_435 bw_433 (cS_l_cutTo (i := (chS lg r).1) hRl (by omega)) 1 rfl rfl rfl rfl rfl ⟨by decide, by decide⟩ ⟨by decide, by decide⟩ (Nat.le_of_ble_eq_true rfl) d_S_reopen_51 (fun ws9 h9 => ?_)
        rw [h9]
        have hRl101 := lg_R_cut hRl (k := (chS lg r).1) (by omega)
        refine bV.aload_n G d_S_reopen_54 rfl ?_
        refine bV.iconst (v := nI 0) G d_S_reopen_55 (by decide) ?_
        refine bV.topi (x := nI 0) (y := bB false) (by decide) ?_
        refine bV.putf G (ws' := (wS ad cI cZ mp lf ((chS lg r).1) Pz gtz gp ghz Pvz gdz Pq false rest)) cl_S 0 8 rfl (by decide) bw_81 rfl (bB_n _) (bB_f _) (Nat.le_of_ble_eq_true rfl) d_S_reopen_56 rfl ?_
        refine bV.aload_n G d_S_reopen_59 rfl ?_
        refine bV.getf G cl_S 0 5 rfl (by decide) bw_78 rfl d_S_reopen_60 ?_
        refine bV.callVi G m_P_count bw_208 bw_209 bw_207 (c_P_count wS_v hC9.2.2.1) 12 rfl rfl rfl rfl rfl ⟨by decide, by decide⟩ ⟨by decide, by decide⟩ (Nat.le_of_ble_eq_true rfl) d_S_reopen_63 (fun x9 ws9 h9 => ?_)
        obtain ⟨rfl, h9e⟩ := h9
        rw [h9e]
        try dsimp only
        exact bV.iretI G E0 rfl rfl (by decide) (by decide) d_S_reopen_66 ⟨hg1, rfl, Pz, gtz, ghz, Pvz, gdz, mhz, hC9, hRh9, hRl101, rfl⟩
      · have hrz : rlq = 0 := by rw [hrlq]; obtain rfl : r = q := (by omega); exact recLen_cut hcut.2.1 hcut.2.2
        refine bV.aload_n G d_S_reopen_15 rfl ?_
        refine bV.getf G cl_S 0 0 rfl (by decide) bw_73 rfl d_S_reopen_16 ?_
        refine bV.iload_n G d_S_reopen_19 rfl ?_
        refine bV.callVi G m_L_lengthOfRecord bw_458 bw_459 bw_457 (c_L_lengthOfRecord wS_l hRl (p := (chS lg q).1) (by omega)) 1 rfl rfl rfl rfl rfl ⟨by decide, by decide⟩ ⟨by decide, by decide⟩ (Nat.le_of_ble_eq_true rfl) d_S_reopen_20 (fun x9 ws9 h9 => ?_)
        obtain ⟨rfl, h9e⟩ := h9
        rw [h9e]
        rw [hrl]
        refine bV.istore_n G (lv' := [(0, .ref (ad 0)), (1, .int (nI ((chS lg q).1))), (2, .int (nI (q))), (3, .int (nI (rlq)))]) d_S_reopen_23 (by decide) rfl rfl ?_
        refine bV.iload_n G d_S_reopen_24 rfl ?_
        refine bV.if_neN (tgt := 31) G d_S_reopen_25 (by decide) (by omega) (fun c25 => ?_) (fun c25 => ?_)
        · exfalso; omega
        · refine bV.goto (tgt := 46) G d_S_reopen_28 (by decide) ?_
          obtain rfl : r = q := by omega
          have hq7 := (okS_ch r hcut.1).2.1
          refine bV.aload_n G d_S_reopen_46 rfl ?_
          refine bV.getf G cl_S 0 0 rfl (by decide) bw_73 rfl d_S_reopen_47 ?_
          refine bV.iload_n G d_S_reopen_50 rfl ?_
          refine bV.callVo G m_L_cutTo bw_434 bw_435 bw_433 (cS_l_cutTo (i := (chS lg r).1) hRl (by omega)) 1 rfl rfl rfl rfl rfl ⟨by decide, by decide⟩ ⟨by decide, by decide⟩ (Nat.le_of_ble_eq_true rfl) d_S_reopen_51 (fun ws9 h9 => ?_)
          rw [h9]
          have hRl102 := lg_R_cut hRl (k := (chS lg r).1) (by omega)
          refine bV.aload_n G d_S_reopen_54 rfl ?_
          refine bV.iconst (v := nI 0) G d_S_reopen_55 (by decide) ?_
          refine bV.topi (x := nI 0) (y := bB false) (by decide) ?_
          refine bV.putf G (ws' := (wS ad cI cZ mp lf ((chS lg r).1) Pz gtz gp ghz Pvz gdz Pq false rest)) cl_S 0 8 rfl (by decide) bw_81 rfl (bB_n _) (bB_f _) (Nat.le_of_ble_eq_true rfl) d_S_reopen_56 rfl ?_
          refine bV.aload_n G d_S_reopen_59 rfl ?_
          refine bV.getf G cl_S 0 5 rfl (by decide) bw_78 rfl d_S_reopen_60 ?_
          refine bV.callVi G m_P_count bw_208 bw_209 bw_207 (c_P_count wS_v hC9.2.2.1) 12 rfl rfl rfl rfl rfl ⟨by decide, by decide⟩ ⟨by decide, by decide⟩ (Nat.le_of_ble_eq_true rfl) d_S_reopen_63 (fun x9 ws9 h9 => ?_)
          obtain ⟨rfl, h9e⟩ := h9
          rw [h9e]
          try dsimp only
          exact bV.iretI G E0 rfl rfl (by decide) (by decide) d_S_reopen_66 ⟨hg1, rfl, Pz, gtz, ghz, Pvz, gdz, mhz, hC9, hRh9, hRl102, rfl⟩
    | succ d ih =>
      intro q Pz gtz ghz Pvz gdz mhz hg1 hd hC9 hRh9
      have hqr := chS_le (lg := lg) (q := q) r (by omega)
      obtain ⟨rlq, hrlq⟩ : ∃ z : Nat, z = (if recLen lg n (chS lg q).1 ≤ n - (chS lg q).1 then recLen lg n (chS lg q).1 else 0) := ⟨_, rfl⟩
      have hrl := hrlq.symm
      refine bV.iload_n G d_S_reopen_8 rfl ?_
      refine bV.sipush (v := nI 400) G d_S_reopen_9 (by decide) ?_
      refine bV.icmp_geN (tgt := 46) G d_S_reopen_12 (by decide) (by omega) (by omega) (fun c12 => ?_) (fun c12 => ?_)
      · exfalso; omega
      · have hpq := chS_le (lg := lg) (q := q + 1) r (by omega)
        have hpq : (chS lg q).1 + rlen lg (chS lg q).1 ≤ n := by have z : (chS lg (q + 1)).1 = (chS lg q).1 + rlen lg (chS lg q).1 := rfl; omega
        have hrf := recLen_full (hcut.1 q (by omega)) hpq
        have hrq : rlq = rlen lg (chS lg q).1 := by rw [hrlq]; exact hrf.1
        have hrp := rlen_pos (lg := lg) (p := (chS lg q).1)
        refine bV.aload_n G d_S_reopen_15 rfl ?_
        refine bV.getf G cl_S 0 0 rfl (by decide) bw_73 rfl d_S_reopen_16 ?_
        refine bV.iload_n G d_S_reopen_19 rfl ?_
        refine bV.callVi G m_L_lengthOfRecord bw_458 bw_459 bw_457 (c_L_lengthOfRecord wS_l hRl (p := (chS lg q).1) (by omega)) 1 rfl rfl rfl rfl rfl ⟨by decide, by decide⟩ ⟨by decide, by decide⟩ (Nat.le_of_ble_eq_true rfl) d_S_reopen_20 (fun x9 ws9 h9 => ?_)
        obtain ⟨rfl, h9e⟩ := h9
        rw [h9e]
        rw [hrl]
        refine bV.istore_n G (lv' := [(0, .ref (ad 0)), (1, .int (nI ((chS lg q).1))), (2, .int (nI (q))), (3, .int (nI (rlq)))]) d_S_reopen_23 (by decide) rfl rfl ?_
        refine bV.iload_n G d_S_reopen_24 rfl ?_
        refine bV.if_neN (tgt := 31) G d_S_reopen_25 (by decide) (by omega) (fun c25 => ?_) (fun c25 => ?_)
        · refine bV.aload_n G d_S_reopen_31 rfl ?_
          refine bV.iload_n G d_S_reopen_32 rfl ?_
          refine bV.callVo G m_S_redo bw_472 bw_s21 bw_470 (c_S_redo hRl hC9 hRh9 (okS_ch q (fun q0 z => hcut.1 q0 (by omega))) (hcut.1 q (by omega)) hpq) 0 rfl rfl rfl rfl rfl ⟨by decide, by decide⟩ ⟨by decide, by decide⟩ (Nat.le_of_ble_eq_true rfl) d_S_reopen_33 (fun ws9 h9 => ?_)
          obtain ⟨Pb1, gt1, gh1, Pv1, gd1, mh1, hC1, hRh1, h9e⟩ := h9
          rw [h9e]
          refine bV.iload_n G d_S_reopen_36 rfl ?_
          refine bV.iload_n G d_S_reopen_37 rfl ?_
          refine bV.iaddN G d_S_reopen_38 ?_
          refine bV.istore_n G (lv' := [(0, .ref (ad 0)), (1, .int (nI (((chS lg q).1) + rlq))), (2, .int (nI (q))), (3, .int (nI (rlq)))]) d_S_reopen_39 (by decide) rfl rfl ?_
          refine bV.iincN G (lv' := [(0, .ref (ad 0)), (1, .int (nI (((chS lg q).1) + rlq))), (2, .int (nI (q + 1))), (3, .int (nI (rlq)))]) d_S_reopen_40 rfl (by decide) rfl rfl ?_
          refine bV.goto (tgt := 8) G d_S_reopen_43 (by decide) ?_
          refine bV.ltake (lv' := [(0, .ref (ad 0)), (1, .int (nI (((chS lg q).1) + rlq))), (2, .int (nI (q + 1)))]) (ex := [(3, .int (nI (rlq)))]) rfl ?_
          subst hrq
          exact ih (q + 1) Pb1 gt1 gh1 Pv1 gd1 mh1 hg1 (by omega) hC1 hRh1
        · exfalso; omega
  refine bV.aload_n G d_S_reopen_0 rfl ?_
  refine bV.callVot G m_S_requireCrashed bw_454 bw_s19 bw_452 (c_S_requireCrashed ) 0 rfl rfl rfl rfl rfl ⟨by decide, by decide⟩ ⟨by decide, by decide⟩ (Nat.le_of_ble_eq_true rfl) d_S_reopen_1 (fun ws9 h9 => ?_) (fun E9 ws9 h9 => ?_)
  · obtain ⟨hg1, h9e⟩ := h9
    rw [h9e]
    refine bV.iconst (v := nI 0) G d_S_reopen_4 (by decide) ?_
    refine bV.istore_n G (lv' := [(0, .ref (ad 0)), (1, .int (nI (0)))]) d_S_reopen_5 (by decide) rfl rfl ?_
    refine bV.iconst (v := nI 0) G d_S_reopen_6 (by decide) ?_
    refine bV.istore_n G (lv' := [(0, .ref (ad 0)), (1, .int (nI (0))), (2, .int (nI (0)))]) d_S_reopen_7 (by decide) rfl rfl ?_
    exact loop r 0 Pb gt gh Pv gd mh hg1 (by omega) hC hRh
  · obtain ⟨hz, rfl, h9e⟩ := h9
    rw [h9e]
    exact bT.leaveI G E0 rfl (by decide) (by decide) ⟨hz, rfl, rfl⟩
