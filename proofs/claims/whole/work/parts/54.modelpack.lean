/-! ===== the reference: packs, its constructor ===== -/
def qc (Q : pkQ) (pb : Nat → Int32) (np : Nat) : Prop := ∀ p i, p ≤ np → i < Q.1 p → pb (700 * p + i) = nI (Q.2 p i)
def qo (Q : pkQ) (ps pb : Nat → Int32) (np : Nat) : Prop := (∀ p, p ≤ np → ps p = nI (Q.1 p)) ∧ qc Q pb np
theorem pcS_at {f : Nat → Nat} {p np : Nat} (hp : p ≤ np) : f p ≤ pcS f (np + 1) := by
  have h1 : pcS f (p + 1) ≤ pcS f (np + 1) := pcS_mono (by omega)
  have h2 : pcS f (p + 1) = pcS f p + f p := rfl
  omega
theorem qc_put {Q : pkQ} {pb : Nat → Int32} {np x : Nat} (h : qc Q pb np) (hb : pcS Q.1 (np + 1) < 664) : qc (putS np x Q) (upd pb (700 * np + Q.1 np) (nI x)) np := by
  intro p i hp hi
  have hi' : i < fup Q.1 np (Q.1 np + 1) p := hi
  show upd pb (700 * np + Q.1 np) (nI x) (700 * p + i) = nI (fup2 Q.2 np (Q.1 np) x p i)
  have h1 := pcS_at (f := Q.1) hp
  have h2 := pcS_at (f := Q.1) (Nat.le_refl np)
  by_cases z : p = np ∧ i = Q.1 np
  · rw [z.1, z.2, pk_us, fup2_s]
  · by_cases y : p = np
    · subst y
      rw [fup_s] at hi'
      rw [pk_un (by omega), fup2_n z]; exact h p i hp (by omega)
    · rw [fup_n y] at hi'
      rw [pk_un (by omega), fup2_n z]; exact h p i hp hi'
theorem qo_put {Q : pkQ} {ps pb : Nat → Int32} {np x : Nat} (h : qo Q ps pb np) (hb : pcS Q.1 (np + 1) < 664) : qo (putS np x Q) (upd ps np (nI (Q.1 np + 1))) (upd pb (700 * np + Q.1 np) (nI x)) np := by
  refine ⟨fun p hp => ?_, qc_put h.2 hb⟩
  show _ = nI (fup Q.1 np (Q.1 np + 1) p)
  by_cases z : p = np
  · rw [z, pk_us, fup_s]
  · rw [pk_un z, fup_n z]; exact h.1 p hp
theorem qo_start {mp np : Nat} {ql : Nat → Nat} {qa : Nat → Nat → Nat} {mk : Nat → Bool} {ps pb : Nat → Int32} (hQ : okQ mp np ql qa mk) (h : qR np ql qa ps pb) : qo (ql, qa) (upd ps np (nI 0)) pb np := by
  refine ⟨fun p hp => ?_, fun p i hp hi => ?_⟩
  · show upd ps np (nI 0) p = nI (ql p)
    by_cases z : p = np
    · rw [z, pk_us, hQ.2.2.1]
    · rw [pk_un z]; exact h.1 p (by omega)
  · have hi' : i < ql p := hi
    by_cases z : p = np
    · rw [z, hQ.2.2.1] at hi'; exact absurd hi' (Nat.not_lt_zero _)
    · exact h.2 p i (by omega) hi'
theorem putN_len {np : Nat} {f : Nat → Nat} {Q : pkQ} : ∀ k, (putN np f Q k).1 np = Q.1 np + k := by
  intro k
  induction k with
  | zero => rfl
  | succ k ih =>
    show fup (putN np f Q k).1 np ((putN np f Q k).1 np + 1) np = _
    rw [fup_s, ih]; omega
theorem putN_oth {np p : Nat} {f : Nat → Nat} {Q : pkQ} (hp : p ≠ np) : ∀ k, (putN np f Q k).1 p = Q.1 p := by
  intro k
  induction k with
  | zero => rfl
  | succ k ih =>
    show fup (putN np f Q k).1 np ((putN np f Q k).1 np + 1) p = _
    rw [fup_n hp, ih]
theorem qR_fin {np : Nat} {f : Nat → Nat} {Q : pkQ} {ps pb : Nat → Int32} (h1 : ∀ p, p ≤ np → ps p = nI (Q.1 p)) (h2 : qc (putN np f Q 4) pb np) : qR (np + 1) (fup (putN np f Q 4).1 (np + 1) 0) (putN np f Q 4).2 (upd ps np (nI (Q.1 np + 4))) pb := by
  refine ⟨fun p hp => ?_, fun p i hp hi => ?_⟩
  · rw [fup_n (by omega)]
    by_cases z : p = np
    · rw [z, pk_us, putN_len]
    · rw [pk_un z, putN_oth z]; exact h1 p (by omega)
  · rw [fup_n (by omega)] at hi
    exact h2 p i (by omega) hi
theorem d_M_put_0 : decode b_M_put 0 = .ok (.aload_n 0, 1) := by decide +kernel
theorem d_M_put_1 : decode b_M_put 1 = .ok (.getfield 19, 3) := by decide +kernel
theorem d_M_put_4 : decode b_M_put 4 = .ok (.sipush 700, 3) := by decide +kernel
theorem d_M_put_7 : decode b_M_put 7 = .ok (.aload_n 0, 1) := by decide +kernel
theorem d_M_put_8 : decode b_M_put 8 = .ok (.getfield 117, 3) := by decide +kernel
theorem d_M_put_11 : decode b_M_put 11 = .ok (.imul, 1) := by decide +kernel
theorem d_M_put_12 : decode b_M_put 12 = .ok (.aload_n 0, 1) := by decide +kernel
theorem d_M_put_13 : decode b_M_put 13 = .ok (.getfield 16, 3) := by decide +kernel
theorem d_M_put_16 : decode b_M_put 16 = .ok (.aload_n 0, 1) := by decide +kernel
theorem d_M_put_17 : decode b_M_put 17 = .ok (.getfield 117, 3) := by decide +kernel
theorem d_M_put_20 : decode b_M_put 20 = .ok (.iaload, 1) := by decide +kernel
theorem d_M_put_21 : decode b_M_put 21 = .ok (.iadd, 1) := by decide +kernel
theorem d_M_put_22 : decode b_M_put 22 = .ok (.iload_n 1, 1) := by decide +kernel
theorem d_M_put_23 : decode b_M_put 23 = .ok (.iastore, 1) := by decide +kernel
theorem d_M_put_24 : decode b_M_put 24 = .ok (.aload_n 0, 1) := by decide +kernel
theorem d_M_put_25 : decode b_M_put 25 = .ok (.getfield 16, 3) := by decide +kernel
theorem d_M_put_28 : decode b_M_put 28 = .ok (.aload_n 0, 1) := by decide +kernel
theorem d_M_put_29 : decode b_M_put 29 = .ok (.getfield 117, 3) := by decide +kernel
theorem d_M_put_32 : decode b_M_put 32 = .ok (.dup2, 1) := by decide +kernel
theorem d_M_put_33 : decode b_M_put 33 = .ok (.iaload, 1) := by decide +kernel
theorem d_M_put_34 : decode b_M_put 34 = .ok (.iconst 1, 1) := by decide +kernel
theorem d_M_put_35 : decode b_M_put 35 = .ok (.iadd, 1) := by decide +kernel
theorem d_M_put_36 : decode b_M_put 36 = .ok (.iastore, 1) := by decide +kernel
theorem d_M_put_37 : decode b_M_put 37 = .ok (.return_, 1) := by decide +kernel
set_option maxRecDepth 20000 in
set_option maxHeartbeats 4000000 in
theorem c_M_put {D : va_G} {cI cZ cJ : ClassId} {am : Nat → Nat} {mp : Nat} {th : Nat} {cr : Bool} {fd : Nat} {fo : Nat → Int32} {n : Nat} {lo : Nat → Int32} {np : Nat} {ps : Nat → Int32} {pb : Nat → Int32} {ip : Nat → Int32} {nb : Nat} {fr : Nat → Int32} {ln : Nat → Int32} {tr : Nat → Int32} {nv : Nat} {ct : Nat → Int32} {rw : Nat → Int32} {dr : Nat → Int32} {en : Nat} {sw : Nat} {rest : va_W} {Q : pkQ} {x : Nat} (hq : qo Q ps pb np) (hb : pcS Q.1 (np + 1) < 664) (hn : np < 8) : bC D bcl (tys3 cI cZ cJ) y_M_put ({ frames := 0, cells := 0, slots := 0, locals := 0 }) (wM am cI cZ mp th cr fd fo n lo np ps pb ip nb fr ln tr nv ct rw dr en sw rest) [.ref (am 0), .int (nI (x))] (bO (fun ws9 => ∃ ps1 pb1 : Nat → Int32, qo (putS np x Q) ps1 pb1 np ∧ ws9 = wM am cI cZ mp th cr fd fo n lo np ps1 pb1 ip nb fr ln tr nv ct rw dr en sw rest) bno) := by
  have hat := pcS_at (f := Q.1) (Nat.le_refl np)
  refine bC.of (by decide) m_M_put.1 (Nat.le_of_ble_eq_true rfl) ?_
  intro Γ G E0
  show bV D bcl Γ 2 (wM am cI cZ mp th cr fd fo n lo np ps pb ip nb fr ln tr nv ct rw dr en sw rest) 0 0 0 [(0, .ref (am 0)), (1, .int (nI (x)))] []
  refine bV.aload_n G d_M_put_0 rfl ?_
  refine bV.getf G cl_M 0 9 rfl (by decide) bw_554 rfl d_M_put_1 ?_
  refine bV.sipush (v := nI 700) G d_M_put_4 (by decide) ?_
  refine bV.aload_n G d_M_put_7 rfl ?_
  refine bV.getf G cl_M 0 7 rfl (by decide) bw_552 rfl d_M_put_8 ?_
  refine bV.imulN G d_M_put_11 ?_
  refine bV.aload_n G d_M_put_12 rfl ?_
  refine bV.getf G cl_M 0 8 rfl (by decide) bw_553 rfl d_M_put_13 ?_
  refine bV.aload_n G d_M_put_16 rfl ?_
  refine bV.getf G cl_M 0 7 rfl (by decide) bw_552 rfl d_M_put_17 ?_
  refine bV.ialoadN G 3 0 rfl rfl (by omega) (by omega) d_M_put_20 ?_
  refine bV.topi (y := (nI (Q.1 np))) (hq.1 np (Nat.le_refl _)) ?_
  refine bV.iaddN G d_M_put_21 ?_
  refine bV.iload_n G d_M_put_22 rfl ?_
  refine bV.iastoreN G (ws' := (wM am cI cZ mp th cr fd fo n lo np ps (upd pb ((700 * np) + (Q.1 np)) ((nI (x)))) ip nb fr ln tr nv ct rw dr en sw rest)) 4 0 rfl rfl (by omega) (by omega) d_M_put_23 rfl ?_
  refine bV.aload_n G d_M_put_24 rfl ?_
  refine bV.getf G cl_M 0 8 rfl (by decide) bw_553 rfl d_M_put_25 ?_
  refine bV.aload_n G d_M_put_28 rfl ?_
  refine bV.getf G cl_M 0 7 rfl (by decide) bw_552 rfl d_M_put_29 ?_
  refine bV.dup2 G d_M_put_32 rfl rfl ?_
  refine bV.ialoadN G 3 0 rfl rfl (by omega) (by omega) d_M_put_33 ?_
  refine bV.topi (y := (nI (Q.1 np))) (hq.1 np (Nat.le_refl _)) ?_
  refine bV.iconst (v := nI 1) G d_M_put_34 (by decide) ?_
  refine bV.iaddN G d_M_put_35 ?_
  refine bV.iastoreN G (ws' := (wM am cI cZ mp th cr fd fo n lo np (upd ps np ((nI ((Q.1 np) + 1)))) (upd pb ((700 * np) + (Q.1 np)) ((nI (x)))) ip nb fr ln tr nv ct rw dr en sw rest)) 3 0 rfl rfl (by omega) (by omega) d_M_put_36 rfl ?_
  exact bV.vretO G E0 rfl (by decide) (by decide) d_M_put_37 ⟨_, _, qo_put hq hb, rfl⟩
theorem d_M_pack_0 : decode b_M_pack 0 = .ok (.aload_n 0, 1) := by decide +kernel
theorem d_M_pack_1 : decode b_M_pack 1 = .ok (.iconst 1, 1) := by decide +kernel
theorem d_M_pack_2 : decode b_M_pack 2 = .ok (.invokevirtual 91, 3) := by decide +kernel
theorem d_M_pack_5 : decode b_M_pack 5 = .ok (.ifCond .ne 5, 3) := by decide +kernel
theorem d_M_pack_8 : decode b_M_pack 8 = .ok (.iconst 0, 1) := by decide +kernel
theorem d_M_pack_9 : decode b_M_pack 9 = .ok (.ireturn, 1) := by decide +kernel
theorem d_M_pack_10 : decode b_M_pack 10 = .ok (.iconst 0, 1) := by decide +kernel
theorem d_M_pack_11 : decode b_M_pack 11 = .ok (.istore_n 1, 1) := by decide +kernel
theorem d_M_pack_12 : decode b_M_pack 12 = .ok (.iconst 0, 1) := by decide +kernel
theorem d_M_pack_13 : decode b_M_pack 13 = .ok (.istore_n 2, 1) := by decide +kernel
theorem d_M_pack_14 : decode b_M_pack 14 = .ok (.iload_n 2, 1) := by decide +kernel
theorem d_M_pack_15 : decode b_M_pack 15 = .ok (.aload_n 0, 1) := by decide +kernel
theorem d_M_pack_16 : decode b_M_pack 16 = .ok (.getfield 57, 3) := by decide +kernel
theorem d_M_pack_19 : decode b_M_pack 19 = .ok (.if_icmp .ge 35, 3) := by decide +kernel
theorem d_M_pack_22 : decode b_M_pack 22 = .ok (.iload_n 1, 1) := by decide +kernel
theorem d_M_pack_23 : decode b_M_pack 23 = .ok (.aload_n 0, 1) := by decide +kernel
theorem d_M_pack_24 : decode b_M_pack 24 = .ok (.getfield 32, 3) := by decide +kernel
theorem d_M_pack_27 : decode b_M_pack 27 = .ok (.iload_n 2, 1) := by decide +kernel
theorem d_M_pack_28 : decode b_M_pack 28 = .ok (.baload, 1) := by decide +kernel
theorem d_M_pack_29 : decode b_M_pack 29 = .ok (.ifCond .eq 16, 3) := by decide +kernel
theorem d_M_pack_32 : decode b_M_pack 32 = .ok (.aload_n 0, 1) := by decide +kernel
theorem d_M_pack_33 : decode b_M_pack 33 = .ok (.getfield 22, 3) := by decide +kernel
theorem d_M_pack_36 : decode b_M_pack 36 = .ok (.iload_n 2, 1) := by decide +kernel
theorem d_M_pack_37 : decode b_M_pack 37 = .ok (.baload, 1) := by decide +kernel
theorem d_M_pack_38 : decode b_M_pack 38 = .ok (.ifCond .ne 7, 3) := by decide +kernel
theorem d_M_pack_41 : decode b_M_pack 41 = .ok (.iconst 1, 1) := by decide +kernel
theorem d_M_pack_42 : decode b_M_pack 42 = .ok (.goto 4, 3) := by decide +kernel
theorem d_M_pack_45 : decode b_M_pack 45 = .ok (.iconst 0, 1) := by decide +kernel
theorem d_M_pack_46 : decode b_M_pack 46 = .ok (.iadd, 1) := by decide +kernel
theorem d_M_pack_47 : decode b_M_pack 47 = .ok (.istore_n 1, 1) := by decide +kernel
theorem d_M_pack_48 : decode b_M_pack 48 = .ok (.iinc 2 1, 3) := by decide +kernel
theorem d_M_pack_51 : decode b_M_pack 51 = .ok (.goto (-37), 3) := by decide +kernel
theorem d_M_pack_54 : decode b_M_pack 54 = .ok (.iload_n 1, 1) := by decide +kernel
theorem d_M_pack_55 : decode b_M_pack 55 = .ok (.ifCond .eq 14, 3) := by decide +kernel
theorem d_M_pack_58 : decode b_M_pack 58 = .ok (.aload_n 0, 1) := by decide +kernel
theorem d_M_pack_59 : decode b_M_pack 59 = .ok (.getfield 117, 3) := by decide +kernel
theorem d_M_pack_62 : decode b_M_pack 62 = .ok (.aload_n 0, 1) := by decide +kernel
theorem d_M_pack_63 : decode b_M_pack 63 = .ok (.getfield 44, 3) := by decide +kernel
theorem d_M_pack_66 : decode b_M_pack 66 = .ok (.if_icmp .ne 5, 3) := by decide +kernel
theorem d_M_pack_69 : decode b_M_pack 69 = .ok (.iconst (-1), 1) := by decide +kernel
theorem d_M_pack_70 : decode b_M_pack 70 = .ok (.ireturn, 1) := by decide +kernel
theorem d_M_pack_71 : decode b_M_pack 71 = .ok (.aload_n 0, 1) := by decide +kernel
theorem d_M_pack_72 : decode b_M_pack 72 = .ok (.getfield 16, 3) := by decide +kernel
theorem d_M_pack_75 : decode b_M_pack 75 = .ok (.aload_n 0, 1) := by decide +kernel
theorem d_M_pack_76 : decode b_M_pack 76 = .ok (.getfield 117, 3) := by decide +kernel
theorem d_M_pack_79 : decode b_M_pack 79 = .ok (.iconst 0, 1) := by decide +kernel
theorem d_M_pack_80 : decode b_M_pack 80 = .ok (.iastore, 1) := by decide +kernel
theorem d_M_pack_81 : decode b_M_pack 81 = .ok (.aload_n 0, 1) := by decide +kernel
theorem d_M_pack_82 : decode b_M_pack 82 = .ok (.iload_n 1, 1) := by decide +kernel
theorem d_M_pack_83 : decode b_M_pack 83 = .ok (.invokevirtual 120, 3) := by decide +kernel
theorem d_M_pack_86 : decode b_M_pack 86 = .ok (.iconst 0, 1) := by decide +kernel
theorem d_M_pack_87 : decode b_M_pack 87 = .ok (.istore_n 2, 1) := by decide +kernel
theorem d_M_pack_88 : decode b_M_pack 88 = .ok (.iload_n 2, 1) := by decide +kernel
theorem d_M_pack_89 : decode b_M_pack 89 = .ok (.aload_n 0, 1) := by decide +kernel
theorem d_M_pack_90 : decode b_M_pack 90 = .ok (.getfield 57, 3) := by decide +kernel
theorem d_M_pack_93 : decode b_M_pack 93 = .ok (.if_icmp .ge 87, 3) := by decide +kernel
theorem d_M_pack_96 : decode b_M_pack 96 = .ok (.aload_n 0, 1) := by decide +kernel
theorem d_M_pack_97 : decode b_M_pack 97 = .ok (.getfield 32, 3) := by decide +kernel
theorem d_M_pack_100 : decode b_M_pack 100 = .ok (.iload_n 2, 1) := by decide +kernel
theorem d_M_pack_101 : decode b_M_pack 101 = .ok (.baload, 1) := by decide +kernel
theorem d_M_pack_102 : decode b_M_pack 102 = .ok (.ifCond .eq 72, 3) := by decide +kernel
theorem d_M_pack_105 : decode b_M_pack 105 = .ok (.aload_n 0, 1) := by decide +kernel
theorem d_M_pack_106 : decode b_M_pack 106 = .ok (.getfield 22, 3) := by decide +kernel
theorem d_M_pack_109 : decode b_M_pack 109 = .ok (.iload_n 2, 1) := by decide +kernel
theorem d_M_pack_110 : decode b_M_pack 110 = .ok (.baload, 1) := by decide +kernel
theorem d_M_pack_111 : decode b_M_pack 111 = .ok (.ifCond .eq 6, 3) := by decide +kernel
theorem d_M_pack_114 : decode b_M_pack 114 = .ok (.goto 60, 3) := by decide +kernel
theorem d_M_pack_117 : decode b_M_pack 117 = .ok (.aload_n 0, 1) := by decide +kernel
theorem d_M_pack_118 : decode b_M_pack 118 = .ok (.getfield 22, 3) := by decide +kernel
theorem d_M_pack_121 : decode b_M_pack 121 = .ok (.iload_n 2, 1) := by decide +kernel
theorem d_M_pack_122 : decode b_M_pack 122 = .ok (.iconst 1, 1) := by decide +kernel
theorem d_M_pack_123 : decode b_M_pack 123 = .ok (.bastore, 1) := by decide +kernel
theorem d_M_pack_124 : decode b_M_pack 124 = .ok (.aload_n 0, 1) := by decide +kernel
theorem d_M_pack_125 : decode b_M_pack 125 = .ok (.iload_n 2, 1) := by decide +kernel
theorem d_M_pack_126 : decode b_M_pack 126 = .ok (.invokevirtual 120, 3) := by decide +kernel
theorem d_M_pack_129 : decode b_M_pack 129 = .ok (.aload_n 0, 1) := by decide +kernel
theorem d_M_pack_130 : decode b_M_pack 130 = .ok (.aload_n 0, 1) := by decide +kernel
theorem d_M_pack_131 : decode b_M_pack 131 = .ok (.getfield 29, 3) := by decide +kernel
theorem d_M_pack_134 : decode b_M_pack 134 = .ok (.iload_n 2, 1) := by decide +kernel
theorem d_M_pack_135 : decode b_M_pack 135 = .ok (.iaload, 1) := by decide +kernel
theorem d_M_pack_136 : decode b_M_pack 136 = .ok (.invokevirtual 120, 3) := by decide +kernel
theorem d_M_pack_139 : decode b_M_pack 139 = .ok (.iconst 0, 1) := by decide +kernel
theorem d_M_pack_140 : decode b_M_pack 140 = .ok (.istore_n 3, 1) := by decide +kernel
theorem d_M_pack_141 : decode b_M_pack 141 = .ok (.iload_n 3, 1) := by decide +kernel
theorem d_M_pack_142 : decode b_M_pack 142 = .ok (.aload_n 0, 1) := by decide +kernel
theorem d_M_pack_143 : decode b_M_pack 143 = .ok (.getfield 29, 3) := by decide +kernel
theorem d_M_pack_146 : decode b_M_pack 146 = .ok (.iload_n 2, 1) := by decide +kernel
theorem d_M_pack_147 : decode b_M_pack 147 = .ok (.iaload, 1) := by decide +kernel
theorem d_M_pack_148 : decode b_M_pack 148 = .ok (.if_icmp .ge 26, 3) := by decide +kernel
theorem d_M_pack_151 : decode b_M_pack 151 = .ok (.aload_n 0, 1) := by decide +kernel
theorem d_M_pack_152 : decode b_M_pack 152 = .ok (.aload_n 0, 1) := by decide +kernel
theorem d_M_pack_153 : decode b_M_pack 153 = .ok (.getfield 13, 3) := by decide +kernel
theorem d_M_pack_156 : decode b_M_pack 156 = .ok (.aload_n 0, 1) := by decide +kernel
theorem d_M_pack_157 : decode b_M_pack 157 = .ok (.getfield 26, 3) := by decide +kernel
theorem d_M_pack_160 : decode b_M_pack 160 = .ok (.iload_n 2, 1) := by decide +kernel
theorem d_M_pack_161 : decode b_M_pack 161 = .ok (.iaload, 1) := by decide +kernel
theorem d_M_pack_162 : decode b_M_pack 162 = .ok (.iload_n 3, 1) := by decide +kernel
theorem d_M_pack_163 : decode b_M_pack 163 = .ok (.iadd, 1) := by decide +kernel
theorem d_M_pack_164 : decode b_M_pack 164 = .ok (.iaload, 1) := by decide +kernel
theorem d_M_pack_165 : decode b_M_pack 165 = .ok (.invokevirtual 120, 3) := by decide +kernel
theorem d_M_pack_168 : decode b_M_pack 168 = .ok (.iinc 3 1, 3) := by decide +kernel
theorem d_M_pack_171 : decode b_M_pack 171 = .ok (.goto (-30), 3) := by decide +kernel
theorem d_M_pack_174 : decode b_M_pack 174 = .ok (.iinc 2 1, 3) := by decide +kernel
theorem d_M_pack_177 : decode b_M_pack 177 = .ok (.goto (-89), 3) := by decide +kernel
theorem d_M_pack_180 : decode b_M_pack 180 = .ok (.aload_n 0, 1) := by decide +kernel
theorem d_M_pack_181 : decode b_M_pack 181 = .ok (.getfield 16, 3) := by decide +kernel
theorem d_M_pack_184 : decode b_M_pack 184 = .ok (.aload_n 0, 1) := by decide +kernel
theorem d_M_pack_185 : decode b_M_pack 185 = .ok (.getfield 117, 3) := by decide +kernel
theorem d_M_pack_188 : decode b_M_pack 188 = .ok (.dup2, 1) := by decide +kernel
theorem d_M_pack_189 : decode b_M_pack 189 = .ok (.iaload, 1) := by decide +kernel
theorem d_M_pack_190 : decode b_M_pack 190 = .ok (.iconst 4, 1) := by decide +kernel
theorem d_M_pack_191 : decode b_M_pack 191 = .ok (.iadd, 1) := by decide +kernel
theorem d_M_pack_192 : decode b_M_pack 192 = .ok (.iastore, 1) := by decide +kernel
theorem d_M_pack_193 : decode b_M_pack 193 = .ok (.aload_n 0, 1) := by decide +kernel
theorem d_M_pack_194 : decode b_M_pack 194 = .ok (.aload_n 0, 1) := by decide +kernel
theorem d_M_pack_195 : decode b_M_pack 195 = .ok (.getfield 117, 3) := by decide +kernel
theorem d_M_pack_198 : decode b_M_pack 198 = .ok (.invokevirtual 123, 3) := by decide +kernel
theorem d_M_pack_201 : decode b_M_pack 201 = .ok (.istore_n 2, 1) := by decide +kernel
theorem d_M_pack_202 : decode b_M_pack 202 = .ok (.iconst 0, 1) := by decide +kernel
theorem d_M_pack_203 : decode b_M_pack 203 = .ok (.istore_n 3, 1) := by decide +kernel
theorem d_M_pack_204 : decode b_M_pack 204 = .ok (.iload_n 3, 1) := by decide +kernel
theorem d_M_pack_205 : decode b_M_pack 205 = .ok (.iconst 4, 1) := by decide +kernel
theorem d_M_pack_206 : decode b_M_pack 206 = .ok (.if_icmp .ge 49, 3) := by decide +kernel
theorem d_M_pack_209 : decode b_M_pack 209 = .ok (.aload_n 0, 1) := by decide +kernel
theorem d_M_pack_210 : decode b_M_pack 210 = .ok (.getfield 19, 3) := by decide +kernel
theorem d_M_pack_213 : decode b_M_pack 213 = .ok (.sipush 700, 3) := by decide +kernel
theorem d_M_pack_216 : decode b_M_pack 216 = .ok (.aload_n 0, 1) := by decide +kernel
theorem d_M_pack_217 : decode b_M_pack 217 = .ok (.getfield 117, 3) := by decide +kernel
theorem d_M_pack_220 : decode b_M_pack 220 = .ok (.imul, 1) := by decide +kernel
theorem d_M_pack_221 : decode b_M_pack 221 = .ok (.aload_n 0, 1) := by decide +kernel
theorem d_M_pack_222 : decode b_M_pack 222 = .ok (.getfield 16, 3) := by decide +kernel
theorem d_M_pack_225 : decode b_M_pack 225 = .ok (.aload_n 0, 1) := by decide +kernel
theorem d_M_pack_226 : decode b_M_pack 226 = .ok (.getfield 117, 3) := by decide +kernel
theorem d_M_pack_229 : decode b_M_pack 229 = .ok (.iaload, 1) := by decide +kernel
theorem d_M_pack_230 : decode b_M_pack 230 = .ok (.iadd, 1) := by decide +kernel
theorem d_M_pack_231 : decode b_M_pack 231 = .ok (.iconst 4, 1) := by decide +kernel
theorem d_M_pack_232 : decode b_M_pack 232 = .ok (.isub, 1) := by decide +kernel
theorem d_M_pack_233 : decode b_M_pack 233 = .ok (.iload_n 3, 1) := by decide +kernel
theorem d_M_pack_234 : decode b_M_pack 234 = .ok (.iadd, 1) := by decide +kernel
theorem d_M_pack_235 : decode b_M_pack 235 = .ok (.iload_n 2, 1) := by decide +kernel
theorem d_M_pack_236 : decode b_M_pack 236 = .ok (.bipush 24, 2) := by decide +kernel
theorem d_M_pack_238 : decode b_M_pack 238 = .ok (.bipush 8, 2) := by decide +kernel
theorem d_M_pack_240 : decode b_M_pack 240 = .ok (.iload_n 3, 1) := by decide +kernel
theorem d_M_pack_241 : decode b_M_pack 241 = .ok (.imul, 1) := by decide +kernel
theorem d_M_pack_242 : decode b_M_pack 242 = .ok (.isub, 1) := by decide +kernel
theorem d_M_pack_243 : decode b_M_pack 243 = .ok (.ishr, 1) := by decide +kernel
theorem d_M_pack_244 : decode b_M_pack 244 = .ok (.sipush 255, 3) := by decide +kernel
theorem d_M_pack_247 : decode b_M_pack 247 = .ok (.iand, 1) := by decide +kernel
theorem d_M_pack_248 : decode b_M_pack 248 = .ok (.iastore, 1) := by decide +kernel
theorem d_M_pack_249 : decode b_M_pack 249 = .ok (.iinc 3 1, 3) := by decide +kernel
theorem d_M_pack_252 : decode b_M_pack 252 = .ok (.goto (-48), 3) := by decide +kernel
theorem d_M_pack_255 : decode b_M_pack 255 = .ok (.aload_n 0, 1) := by decide +kernel
theorem d_M_pack_256 : decode b_M_pack 256 = .ok (.dup, 1) := by decide +kernel
theorem d_M_pack_257 : decode b_M_pack 257 = .ok (.getfield 117, 3) := by decide +kernel
theorem d_M_pack_260 : decode b_M_pack 260 = .ok (.iconst 1, 1) := by decide +kernel
theorem d_M_pack_261 : decode b_M_pack 261 = .ok (.iadd, 1) := by decide +kernel
theorem d_M_pack_262 : decode b_M_pack 262 = .ok (.putfield 117, 3) := by decide +kernel
theorem d_M_pack_265 : decode b_M_pack 265 = .ok (.aload_n 0, 1) := by decide +kernel
theorem d_M_pack_266 : decode b_M_pack 266 = .ok (.getfield 44, 3) := by decide +kernel
theorem d_M_pack_269 : decode b_M_pack 269 = .ok (.aload_n 0, 1) := by decide +kernel
theorem d_M_pack_270 : decode b_M_pack 270 = .ok (.getfield 117, 3) := by decide +kernel
theorem d_M_pack_273 : decode b_M_pack 273 = .ok (.isub, 1) := by decide +kernel
theorem d_M_pack_274 : decode b_M_pack 274 = .ok (.ireturn, 1) := by decide +kernel
set_option maxRecDepth 20000 in
set_option maxHeartbeats 4000000 in
theorem c_M_pack {D : va_G} {cI cZ cJ : ClassId} {am : Nat → Nat} {mp : Nat} {th : Nat} {cr : Bool} {fd : Nat} {fo : Nat → Int32} {n : Nat} {lo : Nat → Int32} {np : Nat} {ps : Nat → Int32} {pb : Nat → Int32} {ip : Nat → Int32} {nb : Nat} {fr : Nat → Int32} {ln : Nat → Int32} {tr : Nat → Int32} {nv : Nat} {ct : Nat → Int32} {rw : Nat → Int32} {dr : Nat → Int32} {en : Nat} {sw : Nat} {rest : va_W} {lg : Nat → Nat} {S : aS} (hRl : lg_R lo n lg) (hok : cr = false → logOk lg n S) {ql : Nat → Nat} {qa : Nat → Nat → Nat} {mk : Nat → Bool} (hQ : okQ mp np ql qa mk) (hqR : qR np ql qa ps pb) (hip : mk_R 24 ip mk) : bC D bcl (tys3 cI cZ cJ) y_M_pack ({ frames := 5, cells := 0, slots := 0, locals := 108 }) (wM am cI cZ mp th cr fd fo n lo np ps pb ip nb fr ln tr nv ct rw dr en sw rest) [.ref (am 0)] (bI (fun x ws9 => (cr = true ∧ ∃ (nb1 nv1 en1 sw1 : Nat) (fr1 ln1 tr1 ct1 rw1 dr1 : Nat → Int32), ws9 = wM am cI cZ mp 1 cr fd fo n lo np ps pb ip nb1 fr1 ln1 tr1 nv1 ct1 rw1 dr1 en1 sw1 rest) ∨ (cr = false ∧ (((cntU (unp (sTh S) mk) (sNb S) = 0 ∨ np = mp) ∧ x = -1 ∧ ∃ (nb1 nv1 en1 sw1 : Nat) (fr1 ln1 tr1 ct1 rw1 dr1 : Nat → Int32), ws9 = wM am cI cZ mp 0 cr fd fo n lo np ps pb ip nb1 fr1 ln1 tr1 nv1 ct1 rw1 dr1 en1 sw1 rest) ∨ ((cntU (unp (sTh S) mk) (sNb S) ≠ 0 ∧ np < mp) ∧ x = nI (mp - (np + 1)) ∧ ∃ ip1 ps1 pb1 : Nat → Int32, mk_R 24 ip1 (pkM (sTh S) mk (sNb S)) ∧ qR (np + 1) (fup ((putN np (byteN (sumS (((pkA (sTh S) mk (sLn S) (lbS lg S) np (putS np (cntU (unp (sTh S) mk) (sNb S)) (ql, qa)) (sNb S))).2 np) (nI 1) (((pkA (sTh S) mk (sLn S) (lbS lg S) np (putS np (cntU (unp (sTh S) mk) (sNb S)) (ql, qa)) (sNb S))).1 np))) ((pkA (sTh S) mk (sLn S) (lbS lg S) np (putS np (cntU (unp (sTh S) mk) (sNb S)) (ql, qa)) (sNb S))) 4)).1 (np + 1) 0) ((putN np (byteN (sumS (((pkA (sTh S) mk (sLn S) (lbS lg S) np (putS np (cntU (unp (sTh S) mk) (sNb S)) (ql, qa)) (sNb S))).2 np) (nI 1) (((pkA (sTh S) mk (sLn S) (lbS lg S) np (putS np (cntU (unp (sTh S) mk) (sNb S)) (ql, qa)) (sNb S))).1 np))) ((pkA (sTh S) mk (sLn S) (lbS lg S) np (putS np (cntU (unp (sTh S) mk) (sNb S)) (ql, qa)) (sNb S))) 4)).2 ps1 pb1 ∧ ∃ (nb1 nv1 en1 sw1 : Nat) (fr1 ln1 tr1 ct1 rw1 dr1 : Nat → Int32), ws9 = wM am cI cZ mp 0 cr fd fo n lo (np + 1) ps1 pb1 ip1 nb1 fr1 ln1 tr1 nv1 ct1 rw1 dr1 en1 sw1 rest)))) bno) := by
  have hq1 := hQ.1
  have hq2 := hQ.2.1
  refine bC.of (by decide) m_M_pack.1 (Nat.le_of_ble_eq_true rfl) ?_
  intro Γ G E0
  show bV D bcl Γ 4 (wM am cI cZ mp th cr fd fo n lo np ps pb ip nb fr ln tr nv ct rw dr en sw rest) 0 0 0 [(0, .ref (am 0))] []
  have l4 : ∀ (d : Nat) (fr1 ln1 tr1 ct1 rw1 dr1 : Nat → Int32) (sw1 : Nat) (i : Nat) (pz bz iz : Nat → Int32), cr = false → dvR S fr1 ln1 tr1 ct1 rw1 dr1 → cntU (unp (sTh S) mk) (sNb S) ≠ 0 → np < mp → mk_R 24 iz (pkM (sTh S) mk (sNb S)) → (∀ p, p ≤ np → pz p = nI ((pkA (sTh S) mk (sLn S) (lbS lg S) np (putS np (cntU (unp (sTh S) mk) (sNb S)) (ql, qa)) (sNb S)).1 p)) → pcS (pkA (sTh S) mk (sLn S) (lbS lg S) np (putS np (cntU (unp (sTh S) mk) (sNb S)) (ql, qa)) (sNb S)).1 (np + 1) + 4 ≤ 664 → d + i = 4 → qc (putN np (byteN (sumS ((pkA (sTh S) mk (sLn S) (lbS lg S) np (putS np (cntU (unp (sTh S) mk) (sNb S)) (ql, qa)) (sNb S)).2 np) (nI 1) ((pkA (sTh S) mk (sLn S) (lbS lg S) np (putS np (cntU (unp (sTh S) mk) (sNb S)) (ql, qa)) (sNb S)).1 np))) (pkA (sTh S) mk (sLn S) (lbS lg S) np (putS np (cntU (unp (sTh S) mk) (sNb S)) (ql, qa)) (sNb S)) i) bz np → bV D bcl Γ 4 (wM am cI cZ mp 0 cr fd fo n lo np (upd pz np (nI ((pkA (sTh S) mk (sLn S) (lbS lg S) np (putS np (cntU (unp (sTh S) mk) (sNb S)) (ql, qa)) (sNb S)).1 np + 4))) bz iz (sNb S) fr1 ln1 tr1 (sNv S) ct1 rw1 dr1 n sw1 rest) 0 0 204 [(0, .ref (am 0)), (1, .int (nI (cntU (unp (sTh S) mk) (sNb S)))), (2, .int (sumS ((pkA (sTh S) mk (sLn S) (lbS lg S) np (putS np (cntU (unp (sTh S) mk) (sNb S)) (ql, qa)) (sNb S)).2 np) (nI 1) ((pkA (sTh S) mk (sLn S) (lbS lg S) np (putS np (cntU (unp (sTh S) mk) (sNb S)) (ql, qa)) (sNb S)).1 np))), (3, .int (nI (i)))] [] := by
    intro d
    induction d with
    | zero =>
      intro fr1 ln1 tr1 ct1 rw1 dr1 sw1 i pz bz iz hcr hdv c55 h66 hiz hps hat hd hqc
      have hs := (hok hcr).s
      have hnb := hs.1
      have hnv := hs.2.1
      have h400 := hRl.1
      have hat2 := pcS_at (f := (pkA (sTh S) mk (sLn S) (lbS lg S) np (putS np (cntU (unp (sTh S) mk) (sNb S)) (ql, qa)) (sNb S)).1) (Nat.le_refl np)
      refine bV.iload_n G d_M_pack_204 rfl ?_
      refine bV.iconst (v := nI 4) G d_M_pack_205 (by decide) ?_
      refine bV.icmp_geN (tgt := 255) G d_M_pack_206 (by decide) (by omega) (by omega) (fun c206 => ?_) (fun c206 => ?_)
      · refine bV.aload_n G d_M_pack_255 rfl ?_
        refine bV.dup G d_M_pack_256 rfl ?_
        refine bV.getf G cl_M 0 7 rfl (by decide) bw_552 rfl d_M_pack_257 ?_
        refine bV.iconst (v := nI 1) G d_M_pack_260 (by decide) ?_
        refine bV.iaddN G d_M_pack_261 ?_
        refine bV.putf G (ws' := (wM am cI cZ mp 0 cr fd fo n lo (np + 1) (upd pz np (nI ((pkA (sTh S) mk (sLn S) (lbS lg S) np (putS np (cntU (unp (sTh S) mk) (sNb S)) (ql, qa)) (sNb S)).1 np + 4))) bz iz (sNb S) fr1 ln1 tr1 (sNv S) ct1 rw1 dr1 n sw1 rest)) cl_M 0 7 rfl (by decide) bw_552 rfl rfl rfl (Nat.le_of_ble_eq_true rfl) d_M_pack_262 rfl ?_
        refine bV.aload_n G d_M_pack_265 rfl ?_
        refine bV.getf G cl_M 0 1 rfl (by decide) bw_546 rfl d_M_pack_266 ?_
        refine bV.aload_n G d_M_pack_269 rfl ?_
        refine bV.getf G cl_M 0 7 rfl (by decide) bw_552 rfl d_M_pack_270 ?_
        refine bV.isubN G d_M_pack_273 (by omega) ?_
        exact bV.iretI G E0 rfl rfl (by decide) (by decide) d_M_pack_274 (Or.inr ⟨hcr, Or.inr ⟨⟨c55, h66⟩, rfl, iz, _, bz, hiz, (by obtain rfl : i = 4 := (by omega); exact qR_fin hps hqc), (sNb S), (sNv S), n, sw1, fr1, ln1, tr1, ct1, rw1, dr1, rfl⟩⟩)
      · exfalso; omega
    | succ d ih =>
      intro fr1 ln1 tr1 ct1 rw1 dr1 sw1 i pz bz iz hcr hdv c55 h66 hiz hps hat hd hqc
      have hs := (hok hcr).s
      have hnb := hs.1
      have hnv := hs.2.1
      have h400 := hRl.1
      have hat2 := pcS_at (f := (pkA (sTh S) mk (sLn S) (lbS lg S) np (putS np (cntU (unp (sTh S) mk) (sNb S)) (ql, qa)) (sNb S)).1) (Nat.le_refl np)
      refine bV.iload_n G d_M_pack_204 rfl ?_
      refine bV.iconst (v := nI 4) G d_M_pack_205 (by decide) ?_
      refine bV.icmp_geN (tgt := 255) G d_M_pack_206 (by decide) (by omega) (by omega) (fun c206 => ?_) (fun c206 => ?_)
      · exfalso; omega
      · refine bV.aload_n G d_M_pack_209 rfl ?_
        refine bV.getf G cl_M 0 9 rfl (by decide) bw_554 rfl d_M_pack_210 ?_
        refine bV.sipush (v := nI 700) G d_M_pack_213 (by decide) ?_
        refine bV.aload_n G d_M_pack_216 rfl ?_
        refine bV.getf G cl_M 0 7 rfl (by decide) bw_552 rfl d_M_pack_217 ?_
        refine bV.imulN G d_M_pack_220 ?_
        refine bV.aload_n G d_M_pack_221 rfl ?_
        refine bV.getf G cl_M 0 8 rfl (by decide) bw_553 rfl d_M_pack_222 ?_
        refine bV.aload_n G d_M_pack_225 rfl ?_
        refine bV.getf G cl_M 0 7 rfl (by decide) bw_552 rfl d_M_pack_226 ?_
        refine bV.ialoadN G 3 0 rfl rfl (by omega) (by omega) d_M_pack_229 ?_
        refine bV.topi (y := (nI ((pkA (sTh S) mk (sLn S) (lbS lg S) np (putS np (cntU (unp (sTh S) mk) (sNb S)) (ql, qa)) (sNb S)).1 np + 4))) pk_us ?_
        refine bV.iaddN G d_M_pack_230 ?_
        refine bV.iconst (v := nI 4) G d_M_pack_231 (by decide) ?_
        refine bV.isubN G d_M_pack_232 (by omega) ?_
        refine bV.iload_n G d_M_pack_233 rfl ?_
        refine bV.iaddN G d_M_pack_234 ?_
        refine bV.iload_n G d_M_pack_235 rfl ?_
        refine bV.bipush (v := nI 24) G d_M_pack_236 (by decide) ?_
        refine bV.bipush (v := nI 8) G d_M_pack_238 (by decide) ?_
        refine bV.iload_n G d_M_pack_240 rfl ?_
        refine bV.imulN G d_M_pack_241 ?_
        refine bV.isubN G d_M_pack_242 (by omega) ?_
        refine bV.ishr G d_M_pack_243 ?_
        refine bV.sipush (v := nI 255) G d_M_pack_244 (by decide) ?_
        refine bV.iand G d_M_pack_247 ?_
        refine bV.topi (y := (nI (byteN (sumS ((pkA (sTh S) mk (sLn S) (lbS lg S) np (putS np (cntU (unp (sTh S) mk) (sNb S)) (ql, qa)) (sNb S)).2 np) (nI 1) ((pkA (sTh S) mk (sLn S) (lbS lg S) np (putS np (cntU (unp (sTh S) mk) (sNb S)) (ql, qa)) (sNb S)).1 np)) i))) ((byteM (by omega)).trans (byteS_N _ _)) ?_
        have hby := byteN_lt (sumS ((pkA (sTh S) mk (sLn S) (lbS lg S) np (putS np (cntU (unp (sTh S) mk) (sNb S)) (ql, qa)) (sNb S)).2 np) (nI 1) ((pkA (sTh S) mk (sLn S) (lbS lg S) np (putS np (cntU (unp (sTh S) mk) (sNb S)) (ql, qa)) (sNb S)).1 np)) i
        refine bV.iastoreN G (ws' := (wM am cI cZ mp 0 cr fd fo n lo np (upd pz np (nI ((pkA (sTh S) mk (sLn S) (lbS lg S) np (putS np (cntU (unp (sTh S) mk) (sNb S)) (ql, qa)) (sNb S)).1 np + 4))) (upd bz ((((700 * np) + ((pkA (sTh S) mk (sLn S) (lbS lg S) np (putS np (cntU (unp (sTh S) mk) (sNb S)) (ql, qa)) (sNb S)).1 np + 4)) - 4) + i) ((nI (byteN (sumS ((pkA (sTh S) mk (sLn S) (lbS lg S) np (putS np (cntU (unp (sTh S) mk) (sNb S)) (ql, qa)) (sNb S)).2 np) (nI 1) ((pkA (sTh S) mk (sLn S) (lbS lg S) np (putS np (cntU (unp (sTh S) mk) (sNb S)) (ql, qa)) (sNb S)).1 np)) i)))) iz (sNb S) fr1 ln1 tr1 (sNv S) ct1 rw1 dr1 n sw1 rest)) 4 0 rfl rfl (by omega) (by omega) d_M_pack_248 rfl ?_
        refine bV.iincN G (lv' := [(0, .ref (am 0)), (1, .int (nI (cntU (unp (sTh S) mk) (sNb S)))), (2, .int (sumS ((pkA (sTh S) mk (sLn S) (lbS lg S) np (putS np (cntU (unp (sTh S) mk) (sNb S)) (ql, qa)) (sNb S)).2 np) (nI 1) ((pkA (sTh S) mk (sLn S) (lbS lg S) np (putS np (cntU (unp (sTh S) mk) (sNb S)) (ql, qa)) (sNb S)).1 np))), (3, .int (nI (i + 1)))]) d_M_pack_249 rfl (by decide) rfl rfl ?_
        refine bV.goto (tgt := 204) G d_M_pack_252 (by decide) ?_
        refine ih fr1 ln1 tr1 ct1 rw1 dr1 sw1 (i + 1) pz _ iz hcr hdv c55 h66 hiz hps hat (by omega) ?_
        have e := qc_put (x := byteN (sumS ((pkA (sTh S) mk (sLn S) (lbS lg S) np (putS np (cntU (unp (sTh S) mk) (sNb S)) (ql, qa)) (sNb S)).2 np) (nI 1) ((pkA (sTh S) mk (sLn S) (lbS lg S) np (putS np (cntU (unp (sTh S) mk) (sNb S)) (ql, qa)) (sNb S)).1 np)) i) hqc (by rw [pcS_putN]; omega)
        rw [putN_len] at e
        rw [show 700 * np + ((pkA (sTh S) mk (sLn S) (lbS lg S) np (putS np (cntU (unp (sTh S) mk) (sNb S)) (ql, qa)) (sNb S)).1 np + 4) - 4 + i = 700 * np + ((pkA (sTh S) mk (sLn S) (lbS lg S) np (putS np (cntU (unp (sTh S) mk) (sNb S)) (ql, qa)) (sNb S)).1 np + i) by omega]
        exact e
  have li : ∀ (d : Nat) (fr1 ln1 tr1 ct1 rw1 dr1 : Nat → Int32) (sw1 : Nat) (j i : Nat) (pz bz iz : Nat → Int32), (∀ pz bz : Nat → Int32, qo (putB np j (sLn S j) (lbS lg S j) (pkA (sTh S) mk (sLn S) (lbS lg S) np (putS np (cntU (unp (sTh S) mk) (sNb S)) (ql, qa)) j)) pz bz np → bV D bcl Γ 4 (wM am cI cZ mp 0 cr fd fo n lo np pz bz iz (sNb S) fr1 ln1 tr1 (sNv S) ct1 rw1 dr1 n sw1 rest) 0 0 174 [(0, .ref (am 0)), (1, .int (nI (cntU (unp (sTh S) mk) (sNb S)))), (2, .int (nI j))] []) → cr = false → dvR S fr1 ln1 tr1 ct1 rw1 dr1 → np < mp → j < sNb S → pcS (pkA (sTh S) mk (sLn S) (lbS lg S) np (putS np (cntU (unp (sTh S) mk) (sNb S)) (ql, qa)) j).1 (np + 1) + 2 + sLn S j ≤ 664 → d + i = sLn S j → qo (putN np (lbS lg S j) (putS np (sLn S j) (putS np j (pkA (sTh S) mk (sLn S) (lbS lg S) np (putS np (cntU (unp (sTh S) mk) (sNb S)) (ql, qa)) j))) i) pz bz np → bV D bcl Γ 4 (wM am cI cZ mp 0 cr fd fo n lo np pz bz iz (sNb S) fr1 ln1 tr1 (sNv S) ct1 rw1 dr1 n sw1 rest) 0 0 141 [(0, .ref (am 0)), (1, .int (nI (cntU (unp (sTh S) mk) (sNb S)))), (2, .int (nI (j))), (3, .int (nI (i)))] [] := by
    intro d
    induction d with
    | zero =>
      intro fr1 ln1 tr1 ct1 rw1 dr1 sw1 j i pz bz iz cont hcr hdv h66 hj hroom hd hqz
      have hs := (hok hcr).s
      have hnb := hs.1
      have hnv := hs.2.1
      have h400 := hRl.1
      have hfl := hs.2.2.2.2.1 j hj
      refine bV.iload_n G d_M_pack_141 rfl ?_
      refine bV.aload_n G d_M_pack_142 rfl ?_
      refine bV.getf G cl_M 0 13 rfl (by decide) bw_558 rfl d_M_pack_143 ?_
      refine bV.iload_n G d_M_pack_146 rfl ?_
      refine bV.ialoadN G 7 0 rfl rfl (by omega) (by omega) d_M_pack_147 ?_
      refine bV.topi (y := (nI (sLn S j))) (hdv.2.1 _ (by omega)) ?_
      refine bV.icmp_geN (tgt := 174) G d_M_pack_148 (by decide) (by omega) (by omega) (fun c148 => ?_) (fun c148 => ?_)
      · refine bV.ltake (lv' := [(0, .ref (am 0)), (1, .int (nI (cntU (unp (sTh S) mk) (sNb S)))), (2, .int (nI (j)))]) (ex := [(3, .int (nI (i)))]) rfl ?_
        exact cont pz bz (by obtain rfl : i = sLn S j := (by omega); exact hqz)
      · exfalso; omega
    | succ d ih =>
      intro fr1 ln1 tr1 ct1 rw1 dr1 sw1 j i pz bz iz cont hcr hdv h66 hj hroom hd hqz
      have hs := (hok hcr).s
      have hnb := hs.1
      have hnv := hs.2.1
      have h400 := hRl.1
      have hfl := hs.2.2.2.2.1 j hj
      refine bV.iload_n G d_M_pack_141 rfl ?_
      refine bV.aload_n G d_M_pack_142 rfl ?_
      refine bV.getf G cl_M 0 13 rfl (by decide) bw_558 rfl d_M_pack_143 ?_
      refine bV.iload_n G d_M_pack_146 rfl ?_
      refine bV.ialoadN G 7 0 rfl rfl (by omega) (by omega) d_M_pack_147 ?_
      refine bV.topi (y := (nI (sLn S j))) (hdv.2.1 _ (by omega)) ?_
      refine bV.icmp_geN (tgt := 174) G d_M_pack_148 (by decide) (by omega) (by omega) (fun c148 => ?_) (fun c148 => ?_)
      · exfalso; omega
      · refine bV.aload_n G d_M_pack_151 rfl ?_
        refine bV.aload_n G d_M_pack_152 rfl ?_
        refine bV.getf G cl_M 0 6 rfl (by decide) bw_551 rfl d_M_pack_153 ?_
        refine bV.aload_n G d_M_pack_156 rfl ?_
        refine bV.getf G cl_M 0 12 rfl (by decide) bw_557 rfl d_M_pack_157 ?_
        refine bV.iload_n G d_M_pack_160 rfl ?_
        refine bV.ialoadN G 6 0 rfl rfl (by omega) (by omega) d_M_pack_161 ?_
        refine bV.topi (y := (nI (sFr S j))) (hdv.1 _ (by omega)) ?_
        refine bV.iload_n G d_M_pack_162 rfl ?_
        refine bV.iaddN G d_M_pack_163 ?_
        refine bV.ialoadN G 2 0 rfl rfl (by omega) (by omega) d_M_pack_164 ?_
        refine bV.topi (y := (nI (lg ((sFr S j) + i)))) (hRl.2.1 _ (by omega)) ?_
        have hb9 := hRl.2.2 (sFr S j + i) (by omega)
        refine bV.callVo G m_M_put bw_710 bw_s37 bw_708 (c_M_put (x := lg ((sFr S j) + i)) (Q := (putN np (lbS lg S j) (putS np (sLn S j) (putS np j (pkA (sTh S) mk (sLn S) (lbS lg S) np (putS np (cntU (unp (sTh S) mk) (sNb S)) (ql, qa)) j))) i)) hqz (by rw [pcS_putN, pcS_putS, pcS_putS]; omega) (by omega)) 0 rfl rfl rfl rfl rfl ⟨by decide, by decide⟩ ⟨by decide, by decide⟩ (Nat.le_of_ble_eq_true rfl) d_M_pack_165 (fun ws9 h9 => ?_)
        obtain ⟨ps201, pb201, hq201, h9e⟩ := h9
        rw [h9e]
        refine bV.iincN G (lv' := [(0, .ref (am 0)), (1, .int (nI (cntU (unp (sTh S) mk) (sNb S)))), (2, .int (nI (j))), (3, .int (nI (i + 1)))]) d_M_pack_168 rfl (by decide) rfl rfl ?_
        refine bV.goto (tgt := 141) G d_M_pack_171 (by decide) ?_
        exact ih fr1 ln1 tr1 ct1 rw1 dr1 sw1 j (i + 1) ps201 pb201 iz cont hcr hdv h66 hj hroom (by omega) hq201
  have lm : ∀ (d : Nat) (fr1 ln1 tr1 ct1 rw1 dr1 : Nat → Int32) (sw1 : Nat) (j : Nat) (pz bz iz : Nat → Int32), cr = false → dvR S fr1 ln1 tr1 ct1 rw1 dr1 → cntU (unp (sTh S) mk) (sNb S) ≠ 0 → np < mp → d + j = sNb S → qo (pkA (sTh S) mk (sLn S) (lbS lg S) np (putS np (cntU (unp (sTh S) mk) (sNb S)) (ql, qa)) j) pz bz np → mk_R 24 iz (pkM (sTh S) mk j) → pcS (pkA (sTh S) mk (sLn S) (lbS lg S) np (putS np (cntU (unp (sTh S) mk) (sNb S)) (ql, qa)) j).1 (np + 1) + 4 + 26 * cntU (fun b => !pkM (sTh S) mk j b) 24 ≤ 664 → bV D bcl Γ 4 (wM am cI cZ mp 0 cr fd fo n lo np pz bz iz (sNb S) fr1 ln1 tr1 (sNv S) ct1 rw1 dr1 n sw1 rest) 0 0 88 [(0, .ref (am 0)), (1, .int (nI (cntU (unp (sTh S) mk) (sNb S)))), (2, .int (nI (j)))] [] := by
    intro d
    induction d with
    | zero =>
      intro fr1 ln1 tr1 ct1 rw1 dr1 sw1 j pz bz iz hcr hdv c55 h66 hd hqz hiz hcp
      have hs := (hok hcr).s
      have hnb := hs.1
      have hnv := hs.2.1
      have h400 := hRl.1
      have hcu := cntU_le (f := unp (sTh S) mk) (sNb S)
      refine bV.iload_n G d_M_pack_88 rfl ?_
      refine bV.aload_n G d_M_pack_89 rfl ?_
      refine bV.getf G cl_M 0 11 rfl (by decide) bw_556 rfl d_M_pack_90 ?_
      refine bV.icmp_geN (tgt := 180) G d_M_pack_93 (by decide) (by omega) (by omega) (fun c93 => ?_) (fun c93 => ?_)
      · obtain rfl : j = sNb S := by omega
        have hat := pcS_at (f := (pkA (sTh S) mk (sLn S) (lbS lg S) np (putS np (cntU (unp (sTh S) mk) (sNb S)) (ql, qa)) (sNb S)).1) (Nat.le_refl np)
        refine bV.aload_n G d_M_pack_180 rfl ?_
        refine bV.getf G cl_M 0 8 rfl (by decide) bw_553 rfl d_M_pack_181 ?_
        refine bV.aload_n G d_M_pack_184 rfl ?_
        refine bV.getf G cl_M 0 7 rfl (by decide) bw_552 rfl d_M_pack_185 ?_
        refine bV.dup2 G d_M_pack_188 rfl rfl ?_
        refine bV.ialoadN G 3 0 rfl rfl (by omega) (by omega) d_M_pack_189 ?_
        refine bV.topi (y := (nI ((pkA (sTh S) mk (sLn S) (lbS lg S) np (putS np (cntU (unp (sTh S) mk) (sNb S)) (ql, qa)) (sNb S)).1 np))) (hqz.1 np (Nat.le_refl _)) ?_
        refine bV.iconst (v := nI 4) G d_M_pack_190 (by decide) ?_
        refine bV.iaddN G d_M_pack_191 ?_
        refine bV.iastoreN G (ws' := (wM am cI cZ mp 0 cr fd fo n lo np (upd pz np ((nI (((pkA (sTh S) mk (sLn S) (lbS lg S) np (putS np (cntU (unp (sTh S) mk) (sNb S)) (ql, qa)) (sNb S)).1 np) + 4)))) bz iz (sNb S) fr1 ln1 tr1 (sNv S) ct1 rw1 dr1 n sw1 rest)) 3 0 rfl rfl (by omega) (by omega) d_M_pack_192 rfl ?_
        refine bV.aload_n G d_M_pack_193 rfl ?_
        refine bV.aload_n G d_M_pack_194 rfl ?_
        refine bV.getf G cl_M 0 7 rfl (by decide) bw_552 rfl d_M_pack_195 ?_
        refine bV.callVi G m_M_sumOf bw_714 bw_s38 bw_712 (c_M_sumOf (p := np) (q := (pkA (sTh S) mk (sLn S) (lbS lg S) np (putS np (cntU (unp (sTh S) mk) (sNb S)) (ql, qa)) (sNb S)).1 np) (g := (pkA (sTh S) mk (sLn S) (lbS lg S) np (putS np (cntU (unp (sTh S) mk) (sNb S)) (ql, qa)) (sNb S)).2 np) pk_us (by omega) (fun i hi => hqz.2 np i (Nat.le_refl _) hi) (by omega)) 0 rfl rfl rfl rfl rfl ⟨by decide, by decide⟩ ⟨by decide, by decide⟩ (Nat.le_of_ble_eq_true rfl) d_M_pack_198 (fun x9 ws9 h9 => ?_)
        obtain ⟨rfl, h9e⟩ := h9
        rw [h9e]
        try dsimp only
        refine bV.istore_n G (lv' := [(0, .ref (am 0)), (1, .int (nI (cntU (unp (sTh S) mk) (sNb S)))), (2, .int (sumS ((pkA (sTh S) mk (sLn S) (lbS lg S) np (putS np (cntU (unp (sTh S) mk) (sNb S)) (ql, qa)) (sNb S)).2 np) (nI 1) ((pkA (sTh S) mk (sLn S) (lbS lg S) np (putS np (cntU (unp (sTh S) mk) (sNb S)) (ql, qa)) (sNb S)).1 np)))]) d_M_pack_201 (by decide) rfl rfl ?_
        refine bV.iconst (v := nI 0) G d_M_pack_202 (by decide) ?_
        refine bV.istore_n G (lv' := [(0, .ref (am 0)), (1, .int (nI (cntU (unp (sTh S) mk) (sNb S)))), (2, .int (sumS ((pkA (sTh S) mk (sLn S) (lbS lg S) np (putS np (cntU (unp (sTh S) mk) (sNb S)) (ql, qa)) (sNb S)).2 np) (nI 1) ((pkA (sTh S) mk (sLn S) (lbS lg S) np (putS np (cntU (unp (sTh S) mk) (sNb S)) (ql, qa)) (sNb S)).1 np))), (3, .int (nI (0)))]) d_M_pack_203 (by decide) rfl rfl ?_
        exact l4 4 fr1 ln1 tr1 ct1 rw1 dr1 sw1 0 pz bz iz hcr hdv c55 h66 hiz hqz.1 (by omega) (by omega) hqz.2
      · exfalso; omega
    | succ d ih =>
      intro fr1 ln1 tr1 ct1 rw1 dr1 sw1 j pz bz iz hcr hdv c55 h66 hd hqz hiz hcp
      have hs := (hok hcr).s
      have hnb := hs.1
      have hnv := hs.2.1
      have h400 := hRl.1
      have hcu := cntU_le (f := unp (sTh S) mk) (sNb S)
      refine bV.iload_n G d_M_pack_88 rfl ?_
      refine bV.aload_n G d_M_pack_89 rfl ?_
      refine bV.getf G cl_M 0 11 rfl (by decide) bw_556 rfl d_M_pack_90 ?_
      refine bV.icmp_geN (tgt := 180) G d_M_pack_93 (by decide) (by omega) (by omega) (fun c93 => ?_) (fun c93 => ?_)
      · exfalso; omega
      · refine bV.aload_n G d_M_pack_96 rfl ?_
        refine bV.getf G cl_M 0 14 rfl (by decide) bw_559 rfl d_M_pack_97 ?_
        refine bV.iload_n G d_M_pack_100 rfl ?_
        refine bV.zaloadN G 8 1 rfl rfl (by omega) (by omega) d_M_pack_101 ?_
        refine bV.topi (y := (bB (sTh S j))) (hdv.2.2.1 _ (by omega)) ?_
        refine bV.if_eqB (tgt := 174) G d_M_pack_102 (by decide) (fun c102 => ?_) (fun c102 => ?_)
        · have hcj : (sTh S j && !mk j) = false := by rw [c102]; rfl
          refine bV.iincN G (lv' := [(0, .ref (am 0)), (1, .int (nI (cntU (unp (sTh S) mk) (sNb S)))), (2, .int (nI (j + 1)))]) d_M_pack_174 rfl (by decide) rfl rfl ?_
          refine bV.goto (tgt := 88) G d_M_pack_177 (by decide) ?_
          exact ih fr1 ln1 tr1 ct1 rw1 dr1 sw1 (j + 1) pz bz iz hcr hdv c55 h66 (by omega) (by rw [pkA_f hcj]; exact hqz) (by rw [← pkM_f hcj]; exact hiz) (by rw [pkA_f hcj, ← pkM_f hcj]; exact hcp)
        · refine bV.aload_n G d_M_pack_105 rfl ?_
          refine bV.getf G cl_M 0 10 rfl (by decide) bw_555 rfl d_M_pack_106 ?_
          refine bV.iload_n G d_M_pack_109 rfl ?_
          refine bV.zaloadN G 5 1 rfl rfl (by omega) (by omega) d_M_pack_110 ?_
          refine bV.topi (y := (bB (pkM (sTh S) mk j j))) (hiz.2 _ (by omega)) ?_
          refine bV.if_eqB (tgt := 117) G d_M_pack_111 (by decide) (fun c111 => ?_) (fun c111 => ?_)
          · have hcj : (sTh S j && !mk j) = true := by rw [pkM_j] at c111; rw [c102, c111]; rfl
            have hpos := pkM_cnt (show j < 24 by omega) hcj
            have hfl := hs.2.2.2.2.1 j (by omega)
            refine bV.aload_n G d_M_pack_117 rfl ?_
            refine bV.getf G cl_M 0 10 rfl (by decide) bw_555 rfl d_M_pack_118 ?_
            refine bV.iload_n G d_M_pack_121 rfl ?_
            refine bV.iconst (v := nI 1) G d_M_pack_122 (by decide) ?_
            refine bV.topi (x := nI 1) (y := bB true) (by decide) ?_
            refine bV.zastoreN G (ws' := (wM am cI cZ mp 0 cr fd fo n lo np pz bz (upd iz j ((bB (true)))) (sNb S) fr1 ln1 tr1 (sNv S) ct1 rw1 dr1 n sw1 rest)) 5 1 rfl rfl (by omega) (by omega) d_M_pack_123 rfl ?_
            refine bV.aload_n G d_M_pack_124 rfl ?_
            refine bV.iload_n G d_M_pack_125 rfl ?_
            refine bV.callVo G m_M_put bw_710 bw_s37 bw_708 (c_M_put (x := j) (Q := (pkA (sTh S) mk (sLn S) (lbS lg S) np (putS np (cntU (unp (sTh S) mk) (sNb S)) (ql, qa)) j)) hqz (by omega) (by omega)) 0 rfl rfl rfl rfl rfl ⟨by decide, by decide⟩ ⟨by decide, by decide⟩ (Nat.le_of_ble_eq_true rfl) d_M_pack_126 (fun ws9 h9 => ?_)
            obtain ⟨ps301, pb301, hq301, h9e⟩ := h9
            rw [h9e]
            refine bV.aload_n G d_M_pack_129 rfl ?_
            refine bV.aload_n G d_M_pack_130 rfl ?_
            refine bV.getf G cl_M 0 13 rfl (by decide) bw_558 rfl d_M_pack_131 ?_
            refine bV.iload_n G d_M_pack_134 rfl ?_
            refine bV.ialoadN G 7 0 rfl rfl (by omega) (by omega) d_M_pack_135 ?_
            refine bV.topi (y := (nI (sLn S j))) (hdv.2.1 _ (by omega)) ?_
            refine bV.callVo G m_M_put bw_710 bw_s37 bw_708 (c_M_put (x := sLn S j) (Q := putS np j ((pkA (sTh S) mk (sLn S) (lbS lg S) np (putS np (cntU (unp (sTh S) mk) (sNb S)) (ql, qa)) j))) hq301 (by rw [pcS_putS]; omega) (by omega)) 0 rfl rfl rfl rfl rfl ⟨by decide, by decide⟩ ⟨by decide, by decide⟩ (Nat.le_of_ble_eq_true rfl) d_M_pack_136 (fun ws9 h9 => ?_)
            obtain ⟨ps302, pb302, hq302, h9e⟩ := h9
            rw [h9e]
            refine bV.iconst (v := nI 0) G d_M_pack_139 (by decide) ?_
            refine bV.istore_n G (lv' := [(0, .ref (am 0)), (1, .int (nI (cntU (unp (sTh S) mk) (sNb S)))), (2, .int (nI (j))), (3, .int (nI (0)))]) d_M_pack_140 (by decide) rfl rfl ?_
            refine li (sLn S j) fr1 ln1 tr1 ct1 rw1 dr1 sw1 j 0 ps302 pb302 (upd iz j (bB true)) (fun pz bz hqz => ?_) hcr hdv h66 (by omega) (by omega) (by omega) hq302
            refine bV.iincN G (lv' := [(0, .ref (am 0)), (1, .int (nI (cntU (unp (sTh S) mk) (sNb S)))), (2, .int (nI (j + 1)))]) d_M_pack_174 rfl (by decide) rfl rfl ?_
            refine bV.goto (tgt := 88) G d_M_pack_177 (by decide) ?_
            exact ih fr1 ln1 tr1 ct1 rw1 dr1 sw1 (j + 1) pz bz (upd iz j (bB true)) hcr hdv c55 h66 (by omega) (by rw [pkA_t hcj]; exact hqz) (by rw [← pkM_t hcj]; exact mk_R_up hiz) (by rw [pkA_t hcj, pcS_putB]; show _ + 2 + sLn S j + 4 + _ ≤ 664; omega)
          · have hcj : (sTh S j && !mk j) = false := by rw [pkM_j] at c111; rw [c111]; exact Bool.and_false _
            refine bV.goto (tgt := 174) G d_M_pack_114 (by decide) ?_
            refine bV.iincN G (lv' := [(0, .ref (am 0)), (1, .int (nI (cntU (unp (sTh S) mk) (sNb S)))), (2, .int (nI (j + 1)))]) d_M_pack_174 rfl (by decide) rfl rfl ?_
            refine bV.goto (tgt := 88) G d_M_pack_177 (by decide) ?_
            exact ih fr1 ln1 tr1 ct1 rw1 dr1 sw1 (j + 1) pz bz iz hcr hdv c55 h66 (by omega) (by rw [pkA_f hcj]; exact hqz) (by rw [← pkM_f hcj]; exact hiz) (by rw [pkA_f hcj, ← pkM_f hcj]; exact hcp)
  have lc : ∀ (d : Nat) (fr1 ln1 tr1 ct1 rw1 dr1 : Nat → Int32) (sw1 : Nat) (j : Nat), cr = false → dvR S fr1 ln1 tr1 ct1 rw1 dr1 → d + j = sNb S → bV D bcl Γ 4 (wM am cI cZ mp 0 cr fd fo n lo np ps pb ip (sNb S) fr1 ln1 tr1 (sNv S) ct1 rw1 dr1 n sw1 rest) 0 0 14 [(0, .ref (am 0)), (1, .int (nI (cntU (unp (sTh S) mk) j))), (2, .int (nI (j)))] [] := by
    intro d
    induction d with
    | zero =>
      intro fr1 ln1 tr1 ct1 rw1 dr1 sw1 j hcr hdv hd
      have hs := (hok hcr).s
      have hnb := hs.1
      have hnv := hs.2.1
      have h400 := hRl.1
      have hcu := cntU_le (f := unp (sTh S) mk) j
      refine bV.iload_n G d_M_pack_14 rfl ?_
      refine bV.aload_n G d_M_pack_15 rfl ?_
      refine bV.getf G cl_M 0 11 rfl (by decide) bw_556 rfl d_M_pack_16 ?_
      refine bV.icmp_geN (tgt := 54) G d_M_pack_19 (by decide) (by omega) (by omega) (fun c19 => ?_) (fun c19 => ?_)
      · obtain rfl : j = sNb S := by omega
        refine bV.iload_n G d_M_pack_54 rfl ?_
        refine bV.if_eqN (tgt := 69) G d_M_pack_55 (by decide) (by omega) (fun c55 => ?_) (fun c55 => ?_)
        · refine bV.iconst (v := (-1)) G d_M_pack_69 (by decide) ?_
          exact bV.iretI G E0 rfl rfl (by decide) (by decide) d_M_pack_70 (Or.inr ⟨hcr, Or.inl ⟨by omega, rfl, (sNb S), (sNv S), n, sw1, fr1, ln1, tr1, ct1, rw1, dr1, rfl⟩⟩)
        · refine bV.aload_n G d_M_pack_58 rfl ?_
          refine bV.getf G cl_M 0 7 rfl (by decide) bw_552 rfl d_M_pack_59 ?_
          refine bV.aload_n G d_M_pack_62 rfl ?_
          refine bV.getf G cl_M 0 1 rfl (by decide) bw_546 rfl d_M_pack_63 ?_
          refine bV.icmp_neN (tgt := 71) G d_M_pack_66 (by decide) (by omega) (by omega) (fun c66 => ?_) (fun c66 => ?_)
          · have h66 : np < mp := by have z := hQ.1; omega
            refine bV.aload_n G d_M_pack_71 rfl ?_
            refine bV.getf G cl_M 0 8 rfl (by decide) bw_553 rfl d_M_pack_72 ?_
            refine bV.aload_n G d_M_pack_75 rfl ?_
            refine bV.getf G cl_M 0 7 rfl (by decide) bw_552 rfl d_M_pack_76 ?_
            refine bV.iconst (v := nI 0) G d_M_pack_79 (by decide) ?_
            refine bV.iastoreN G (ws' := (wM am cI cZ mp 0 cr fd fo n lo np (upd ps np ((nI (0)))) pb ip (sNb S) fr1 ln1 tr1 (sNv S) ct1 rw1 dr1 n sw1 rest)) 3 0 rfl rfl (by omega) (by omega) d_M_pack_80 rfl ?_
            refine bV.aload_n G d_M_pack_81 rfl ?_
            refine bV.iload_n G d_M_pack_82 rfl ?_
            refine bV.callVo G m_M_put bw_710 bw_s37 bw_708 (c_M_put (x := cntU (unp (sTh S) mk) (sNb S)) (Q := (ql, qa)) (qo_start hQ hqR) (by have z := hQ.2.2.2.1; dsimp only; omega) (by omega)) 0 rfl rfl rfl rfl rfl ⟨by decide, by decide⟩ ⟨by decide, by decide⟩ (Nat.le_of_ble_eq_true rfl) d_M_pack_83 (fun ws9 h9 => ?_)
            obtain ⟨ps401, pb401, hq401, h9e⟩ := h9
            rw [h9e]
            refine bV.iconst (v := nI 0) G d_M_pack_86 (by decide) ?_
            refine bV.istore_n G (lv' := [(0, .ref (am 0)), (1, .int (nI (cntU (unp (sTh S) mk) (sNb S)))), (2, .int (nI (0)))]) d_M_pack_87 (by decide) rfl rfl ?_
            exact lm (sNb S) fr1 ln1 tr1 ct1 rw1 dr1 sw1 0 ps401 pb401 ip hcr hdv c55 h66 (by omega) hq401 (by rw [pkM_0]; exact hip) (by rw [pkM_0]; show pcS (fup ql np (ql np + 1)) (np + 1) + 4 + 26 * cntU (fun b => !mk b) 24 ≤ 664; rw [pcS_put]; have z := hQ.2.2.2.1; omega)
          · refine bV.iconst (v := (-1)) G d_M_pack_69 (by decide) ?_
            exact bV.iretI G E0 rfl rfl (by decide) (by decide) d_M_pack_70 (Or.inr ⟨hcr, Or.inl ⟨by omega, rfl, (sNb S), (sNv S), n, sw1, fr1, ln1, tr1, ct1, rw1, dr1, rfl⟩⟩)
      · exfalso; omega
    | succ d ih =>
      intro fr1 ln1 tr1 ct1 rw1 dr1 sw1 j hcr hdv hd
      have hs := (hok hcr).s
      have hnb := hs.1
      have hnv := hs.2.1
      have h400 := hRl.1
      have hcu := cntU_le (f := unp (sTh S) mk) j
      refine bV.iload_n G d_M_pack_14 rfl ?_
      refine bV.aload_n G d_M_pack_15 rfl ?_
      refine bV.getf G cl_M 0 11 rfl (by decide) bw_556 rfl d_M_pack_16 ?_
      refine bV.icmp_geN (tgt := 54) G d_M_pack_19 (by decide) (by omega) (by omega) (fun c19 => ?_) (fun c19 => ?_)
      · exfalso; omega
      · refine bV.iload_n G d_M_pack_22 rfl ?_
        refine bV.aload_n G d_M_pack_23 rfl ?_
        refine bV.getf G cl_M 0 14 rfl (by decide) bw_559 rfl d_M_pack_24 ?_
        refine bV.iload_n G d_M_pack_27 rfl ?_
        refine bV.zaloadN G 8 1 rfl rfl (by omega) (by omega) d_M_pack_28 ?_
        refine bV.topi (y := (bB (sTh S j))) (hdv.2.2.1 _ (by omega)) ?_
        refine bV.if_eqB (tgt := 45) G d_M_pack_29 (by decide) (fun c29 => ?_) (fun c29 => ?_)
        · refine bV.iconst (v := nI 0) G d_M_pack_45 (by decide) ?_
          refine bV.iaddN G d_M_pack_46 ?_
          refine bV.istore_n G (lv' := [(0, .ref (am 0)), (1, .int (nI ((cntU (unp (sTh S) mk) j) + 0))), (2, .int (nI (j)))]) d_M_pack_47 (by decide) rfl rfl ?_
          refine bV.iincN G (lv' := [(0, .ref (am 0)), (1, .int (nI ((cntU (unp (sTh S) mk) j) + 0))), (2, .int (nI (j + 1)))]) d_M_pack_48 rfl (by decide) rfl rfl ?_
          refine bV.goto (tgt := 14) G d_M_pack_51 (by decide) ?_
          have e := ih fr1 ln1 tr1 ct1 rw1 dr1 sw1 (j + 1) hcr hdv (by omega)
          rw [cntU_f (f := unp (sTh S) mk) (show (sTh S j && !mk j) = false by first | (rw [c29]; rfl) | (rw [c38]; exact Bool.and_false _))] at e
          exact e
        · refine bV.aload_n G d_M_pack_32 rfl ?_
          refine bV.getf G cl_M 0 10 rfl (by decide) bw_555 rfl d_M_pack_33 ?_
          refine bV.iload_n G d_M_pack_36 rfl ?_
          refine bV.zaloadN G 5 1 rfl rfl (by omega) (by omega) d_M_pack_37 ?_
          refine bV.topi (y := (bB (mk j))) (hip.2 _ (by omega)) ?_
          refine bV.if_neB (tgt := 45) G d_M_pack_38 (by decide) (fun c38 => ?_) (fun c38 => ?_)
          · refine bV.iconst (v := nI 0) G d_M_pack_45 (by decide) ?_
            refine bV.iaddN G d_M_pack_46 ?_
            refine bV.istore_n G (lv' := [(0, .ref (am 0)), (1, .int (nI ((cntU (unp (sTh S) mk) j) + 0))), (2, .int (nI (j)))]) d_M_pack_47 (by decide) rfl rfl ?_
            refine bV.iincN G (lv' := [(0, .ref (am 0)), (1, .int (nI ((cntU (unp (sTh S) mk) j) + 0))), (2, .int (nI (j + 1)))]) d_M_pack_48 rfl (by decide) rfl rfl ?_
            refine bV.goto (tgt := 14) G d_M_pack_51 (by decide) ?_
            have e := ih fr1 ln1 tr1 ct1 rw1 dr1 sw1 (j + 1) hcr hdv (by omega)
            rw [cntU_f (f := unp (sTh S) mk) (show (sTh S j && !mk j) = false by first | (rw [c29]; rfl) | (rw [c38]; exact Bool.and_false _))] at e
            exact e
          · refine bV.iconst (v := nI 1) G d_M_pack_41 (by decide) ?_
            refine bV.goto (tgt := 46) G d_M_pack_42 (by decide) ?_
            refine bV.iaddN G d_M_pack_46 ?_
            refine bV.istore_n G (lv' := [(0, .ref (am 0)), (1, .int (nI ((cntU (unp (sTh S) mk) j) + 1))), (2, .int (nI (j)))]) d_M_pack_47 (by decide) rfl rfl ?_
            refine bV.iincN G (lv' := [(0, .ref (am 0)), (1, .int (nI ((cntU (unp (sTh S) mk) j) + 1))), (2, .int (nI (j + 1)))]) d_M_pack_48 rfl (by decide) rfl rfl ?_
            refine bV.goto (tgt := 14) G d_M_pack_51 (by decide) ?_
            have e := ih fr1 ln1 tr1 ct1 rw1 dr1 sw1 (j + 1) hcr hdv (by omega)
            rw [cntU_t (f := unp (sTh S) mk) (show (sTh S j && !mk j) = true by rw [c29, c38]; rfl)] at e
            exact e
  refine bV.aload_n G d_M_pack_0 rfl ?_
  refine bV.iconst (v := nI 1) G d_M_pack_1 (by decide) ?_
  refine bV.callVi G m_M_isReady bw_619 bw_s26 bw_617 (c_M_isReady (f := 1) hRl hok) 0 rfl rfl rfl rfl rfl ⟨by decide, by decide⟩ ⟨by decide, by decide⟩ (Nat.le_of_ble_eq_true rfl) d_M_pack_2 (fun x9 ws9 h9 => ?_)
  rcases h9 with ⟨hcr, rfl, h9e⟩ | ⟨hcr, rfl, fr1, ln1, tr1, ct1, rw1, dr1, sw1, hdv, h9e⟩
  · rw [h9e]
    try dsimp only
    refine bV.if_neB (tgt := 10) G d_M_pack_5 (by decide) (fun c5 => ?_) (fun c5 => ?_)
    · cases c5
    · refine bV.iconst (v := nI 0) G d_M_pack_8 (by decide) ?_
      exact bV.iretI G E0 rfl rfl (by decide) (by decide) d_M_pack_9 (Or.inl ⟨hcr, nb, nv, en, sw, fr, ln, tr, ct, rw, dr, rfl⟩)
  · rw [h9e]
    try dsimp only
    have hs := (hok hcr).s
    have hnb := hs.1
    have hnv := hs.2.1
    have h400 := hRl.1
    refine bV.if_neB (tgt := 10) G d_M_pack_5 (by decide) (fun c5 => ?_) (fun c5 => ?_)
    · refine bV.iconst (v := nI 0) G d_M_pack_10 (by decide) ?_
      refine bV.istore_n G (lv' := [(0, .ref (am 0)), (1, .int (nI (0)))]) d_M_pack_11 (by decide) rfl rfl ?_
      refine bV.iconst (v := nI 0) G d_M_pack_12 (by decide) ?_
      refine bV.istore_n G (lv' := [(0, .ref (am 0)), (1, .int (nI (0))), (2, .int (nI (0)))]) d_M_pack_13 (by decide) rfl rfl ?_
      exact lc (sNb S) fr1 ln1 tr1 ct1 rw1 dr1 sw1 0 hcr hdv (by omega)
    · cases c5
