/-! ===== the reference: bits (rows of kit/laws/BITS.to-paste), small methods, public reads ===== -/
def bt (x : Int32) (i : Nat) : Bool := x.toBitVec.getLsbD i
theorem b_ext {x y : Int32} (h : ∀ i, i < 32 → bt x i = bt y i) : x = y := Int32.toBitVec_inj.mp (BitVec.eq_of_getLsbD_eq (fun i hi => h i hi))
theorem b_or (x y : Int32) (i : Nat) : bt (x ||| y) i = (bt x i || bt y i) := by unfold bt; rw [Int32.toBitVec_or, BitVec.getLsbD_or]
theorem b_and (x y : Int32) (i : Nat) : bt (x &&& y) i = (bt x i && bt y i) := by unfold bt; rw [Int32.toBitVec_and, BitVec.getLsbD_and]
theorem b_xor (x y : Int32) (i : Nat) : bt (x ^^^ y) i = (bt x i ^^ bt y i) := by unfold bt; rw [Int32.toBitVec_xor, BitVec.getLsbD_xor]
theorem b_big {x : Int32} {i : Nat} (h : 32 ≤ i) : bt x i = false := BitVec.getLsbD_of_ge _ _ h
theorem b_255 (i : Nat) : bt 255 i = decide (i < 8) := by
  rcases Nat.lt_or_ge i 32 with h | h
  · exact (by decide +kernel : ∀ i, i < 32 → bt 255 i = decide (i < 8)) i h
  · rw [b_big h, decide_eq_false (by omega)]
theorem b_65535 (i : Nat) : bt 65535 i = decide (i < 16) := by
  rcases Nat.lt_or_ge i 32 with h | h
  · exact (by decide +kernel : ∀ i, i < 32 → bt 65535 i = decide (i < 16)) i h
  · rw [b_big h, decide_eq_false (by omega)]
theorem b_m1 : ∀ i, i < 32 → bt (-1) i = true := by decide +kernel
theorem b_0 (i : Nat) : bt 0 i = false := BitVec.getLsbD_zero
theorem s_l : ∀ n, n < 32 → ((nI n &&& 31).toBitVec.smod 32).toNat = n := by decide +kernel
theorem s_u : ∀ n, n < 32 → (((nI n).toUInt32 &&& Int32.toUInt32 31).toBitVec % 32).toNat = n := by decide +kernel
theorem b_shl (n : Nat) (hn : n < 32) (x : Int32) {i : Nat} (hi : i < 32) : bt (x <<< (nI n &&& 31)) i = (decide (n ≤ i) && bt x (i - n)) := by
  unfold bt
  rw [Int32.toBitVec_shiftLeft]
  show (x.toBitVec <<< ((nI n &&& 31).toBitVec.smod 32).toNat).getLsbD i = _
  rw [s_l n hn, BitVec.getLsbD_shiftLeft]
  rcases Nat.lt_or_ge i n with h | h
  · simp [h, Nat.not_le.mpr h]
  · simp [hi, h, Nat.not_lt.mpr h]
theorem b_ushr (n : Nat) (hn : n < 32) (x : Int32) (i : Nat) : bt ((x.toUInt32 >>> ((nI n).toUInt32 &&& Int32.toUInt32 31)).toInt32) i = bt x (n + i) := by
  show (x.toUInt32 >>> ((nI n).toUInt32 &&& Int32.toUInt32 31)).toBitVec.getLsbD i = x.toUInt32.toBitVec.getLsbD (n + i)
  rw [UInt32.toBitVec_shiftRight]
  show (x.toUInt32.toBitVec >>> (((nI n).toUInt32 &&& Int32.toUInt32 31).toBitVec % 32).toNat).getLsbD i = _
  rw [s_u n hn, BitVec.getLsbD_ushiftRight]
theorem b_sshr (n : Nat) (hn : n < 32) (x : Int32) {i : Nat} (hi : i < 32) : bt (x >>> (nI n &&& 31)) i = if n + i < 32 then bt x (n + i) else bt x 31 := by
  unfold bt
  rw [Int32.toBitVec_shiftRight]
  show (x.toBitVec.sshiftRight ((nI n &&& 31).toBitVec.smod 32).toNat).getLsbD i = _
  rw [s_l n hn, BitVec.getLsbD_sshiftRight, BitVec.msb_eq_getLsbD_last]
  simp [hi]
theorem byteM {s : Int32} {i : Nat} (hi : i < 4) : (s >>> (nI (24 - 8 * i) &&& 31)) &&& nI 255 = byteS s i := by
  apply b_ext
  intro k hk
  unfold byteS
  rw [b_and, b_and, b_sshr _ (by omega) s hk, b_ushr _ (by omega), show nI 255 = 255 from rfl, b_255]
  by_cases z : k < 8
  · rw [if_pos (by omega)]
  · rw [decide_eq_false z, Bool.and_false, Bool.and_false]
def lbS (lg : Nat → Nat) (S : aS) : Nat → Nat → Nat := fun b i => lg (sFr S b + i)
def foR (fo : Nat → Int32) (fd : Nat) (fn : Nat → Nat) : Prop := fd ≤ 24 ∧ ∀ i, i < fd → fo i = nI (fn i) ∧ fn i < 256
def qR (np : Nat) (ql : Nat → Nat) (qa : Nat → Nat → Nat) (ps pb : Nat → Int32) : Prop := (∀ p, p < np → ps p = nI (ql p)) ∧ (∀ p i, p < np → i < ql p → pb (700 * p + i) = nI (qa p i))
def okQ (mp np : Nat) (ql : Nat → Nat) (qa : Nat → Nat → Nat) (mk : Nat → Bool) : Prop := np ≤ mp ∧ mp ≤ 8 ∧ ql np = 0 ∧ pcS ql (np + 1) + 5 * (8 - np) + 26 * cntU (fun b => !mk b) 24 ≤ 664 ∧ (∀ p, p < np → 4 ≤ ql p) ∧ (∀ p i, p < np → i < ql p → qa p i < 256)
theorem okQ_le {mp np : Nat} {ql : Nat → Nat} {qa : Nat → Nat → Nat} {mk : Nat → Bool} (h : okQ mp np ql qa mk) {p : Nat} (hp : p ≤ np) : ql p ≤ 664 := by
  have h1 : pcS ql (p + 1) ≤ pcS ql (np + 1) := pcS_mono (by omega)
  have h2 : pcS ql (p + 1) = pcS ql p + ql p := rfl
  have h3 := h.2.2.2.1
  omega
theorem d_M_isVersion_0 : decode b_M_isVersion 0 = .ok (.iload_n 1, 1) := by decide +kernel
theorem d_M_isVersion_1 : decode b_M_isVersion 1 = .ok (.ifCond .lt 15, 3) := by decide +kernel
theorem d_M_isVersion_4 : decode b_M_isVersion 4 = .ok (.iload_n 1, 1) := by decide +kernel
theorem d_M_isVersion_5 : decode b_M_isVersion 5 = .ok (.aload_n 0, 1) := by decide +kernel
theorem d_M_isVersion_6 : decode b_M_isVersion 6 = .ok (.getfield 51, 3) := by decide +kernel
theorem d_M_isVersion_9 : decode b_M_isVersion 9 = .ok (.if_icmp .ge 7, 3) := by decide +kernel
theorem d_M_isVersion_12 : decode b_M_isVersion 12 = .ok (.iconst 1, 1) := by decide +kernel
theorem d_M_isVersion_13 : decode b_M_isVersion 13 = .ok (.goto 4, 3) := by decide +kernel
theorem d_M_isVersion_16 : decode b_M_isVersion 16 = .ok (.iconst 0, 1) := by decide +kernel
theorem d_M_isVersion_17 : decode b_M_isVersion 17 = .ok (.ireturn, 1) := by decide +kernel
set_option maxRecDepth 20000 in
set_option maxHeartbeats 4000000 in
theorem c_M_isVersion {D : va_G} {cI cZ cJ : ClassId} {am : Nat → Nat} {mp : Nat} {th : Nat} {cr : Bool} {fd : Nat} {fo : Nat → Int32} {n : Nat} {lo : Nat → Int32} {np : Nat} {ps : Nat → Int32} {pb : Nat → Int32} {ip : Nat → Int32} {nb : Nat} {fr : Nat → Int32} {ln : Nat → Int32} {tr : Nat → Int32} {nv : Nat} {ct : Nat → Int32} {rw : Nat → Int32} {dr : Nat → Int32} {en : Nat} {sw : Nat} {rest : va_W} {v : Int32} : bC D bcl (tys3 cI cZ cJ) y_M_isVersion ({ frames := 0, cells := 0, slots := 0, locals := 0 }) (wM am cI cZ mp th cr fd fo n lo np ps pb ip nb fr ln tr nv ct rw dr en sw rest) [.ref (am 0), .int (v)] (bI (fun x ws9 => x = bB (decide (0 ≤ v ∧ v < nI nv)) ∧ ws9 = wM am cI cZ mp th cr fd fo n lo np ps pb ip nb fr ln tr nv ct rw dr en sw rest) bno) := by
  refine bC.of (by decide) m_M_isVersion.1 (Nat.le_of_ble_eq_true rfl) ?_
  intro Γ G E0
  show bV D bcl Γ 2 (wM am cI cZ mp th cr fd fo n lo np ps pb ip nb fr ln tr nv ct rw dr en sw rest) 0 0 0 [(0, .ref (am 0)), (1, .int (v))] []
  refine bV.iload_n G d_M_isVersion_0 rfl ?_
  refine bV.if_lt (tgt := 16) G d_M_isVersion_1 (by decide) (fun c1 => ?_) (fun c1 => ?_)
  · refine bV.iconst (v := nI 0) G d_M_isVersion_16 (by decide) ?_
    refine bV.topi (x := nI 0) (y := bB false) (by decide) ?_
    exact bV.iretI G E0 rfl (bB_n _) (by decide) (by decide) d_M_isVersion_17 ⟨congrArg bB (decide_eq_false (fun z => by first | exact absurd c1 (Int32.not_lt.mpr z.1) | exact absurd c9 (Int32.not_le.mpr z.2))).symm, rfl⟩
  · refine bV.iload_n G d_M_isVersion_4 rfl ?_
    refine bV.aload_n G d_M_isVersion_5 rfl ?_
    refine bV.getf G cl_M 0 15 rfl (by decide) bw_560 rfl d_M_isVersion_6 ?_
    refine bV.icmp_ge (tgt := 16) G d_M_isVersion_9 (by decide) (fun c9 => ?_) (fun c9 => ?_)
    · refine bV.iconst (v := nI 0) G d_M_isVersion_16 (by decide) ?_
      refine bV.topi (x := nI 0) (y := bB false) (by decide) ?_
      exact bV.iretI G E0 rfl (bB_n _) (by decide) (by decide) d_M_isVersion_17 ⟨congrArg bB (decide_eq_false (fun z => by first | exact absurd c1 (Int32.not_lt.mpr z.1) | exact absurd c9 (Int32.not_le.mpr z.2))).symm, rfl⟩
    · refine bV.iconst (v := nI 1) G d_M_isVersion_12 (by decide) ?_
      refine bV.goto (tgt := 17) G d_M_isVersion_13 (by decide) ?_
      refine bV.topi (x := nI 1) (y := bB true) (by decide) ?_
      exact bV.iretI G E0 rfl (bB_n _) (by decide) (by decide) d_M_isVersion_17 ⟨congrArg bB (decide_eq_true ⟨Int32.not_lt.mp c1, Int32.not_le.mp c9⟩).symm, rfl⟩
theorem d_M_isBlock_0 : decode b_M_isBlock 0 = .ok (.iload_n 1, 1) := by decide +kernel
theorem d_M_isBlock_1 : decode b_M_isBlock 1 = .ok (.ifCond .lt 15, 3) := by decide +kernel
theorem d_M_isBlock_4 : decode b_M_isBlock 4 = .ok (.iload_n 1, 1) := by decide +kernel
theorem d_M_isBlock_5 : decode b_M_isBlock 5 = .ok (.aload_n 0, 1) := by decide +kernel
theorem d_M_isBlock_6 : decode b_M_isBlock 6 = .ok (.getfield 57, 3) := by decide +kernel
theorem d_M_isBlock_9 : decode b_M_isBlock 9 = .ok (.if_icmp .ge 7, 3) := by decide +kernel
theorem d_M_isBlock_12 : decode b_M_isBlock 12 = .ok (.iconst 1, 1) := by decide +kernel
theorem d_M_isBlock_13 : decode b_M_isBlock 13 = .ok (.goto 4, 3) := by decide +kernel
theorem d_M_isBlock_16 : decode b_M_isBlock 16 = .ok (.iconst 0, 1) := by decide +kernel
theorem d_M_isBlock_17 : decode b_M_isBlock 17 = .ok (.ireturn, 1) := by decide +kernel
set_option maxRecDepth 20000 in
set_option maxHeartbeats 4000000 in
theorem c_M_isBlock {D : va_G} {cI cZ cJ : ClassId} {am : Nat → Nat} {mp : Nat} {th : Nat} {cr : Bool} {fd : Nat} {fo : Nat → Int32} {n : Nat} {lo : Nat → Int32} {np : Nat} {ps : Nat → Int32} {pb : Nat → Int32} {ip : Nat → Int32} {nb : Nat} {fr : Nat → Int32} {ln : Nat → Int32} {tr : Nat → Int32} {nv : Nat} {ct : Nat → Int32} {rw : Nat → Int32} {dr : Nat → Int32} {en : Nat} {sw : Nat} {rest : va_W} {v : Int32} : bC D bcl (tys3 cI cZ cJ) y_M_isBlock ({ frames := 0, cells := 0, slots := 0, locals := 0 }) (wM am cI cZ mp th cr fd fo n lo np ps pb ip nb fr ln tr nv ct rw dr en sw rest) [.ref (am 0), .int (v)] (bI (fun x ws9 => x = bB (decide (0 ≤ v ∧ v < nI nb)) ∧ ws9 = wM am cI cZ mp th cr fd fo n lo np ps pb ip nb fr ln tr nv ct rw dr en sw rest) bno) := by
  refine bC.of (by decide) m_M_isBlock.1 (Nat.le_of_ble_eq_true rfl) ?_
  intro Γ G E0
  show bV D bcl Γ 2 (wM am cI cZ mp th cr fd fo n lo np ps pb ip nb fr ln tr nv ct rw dr en sw rest) 0 0 0 [(0, .ref (am 0)), (1, .int (v))] []
  refine bV.iload_n G d_M_isBlock_0 rfl ?_
  refine bV.if_lt (tgt := 16) G d_M_isBlock_1 (by decide) (fun c1 => ?_) (fun c1 => ?_)
  · refine bV.iconst (v := nI 0) G d_M_isBlock_16 (by decide) ?_
    refine bV.topi (x := nI 0) (y := bB false) (by decide) ?_
    exact bV.iretI G E0 rfl (bB_n _) (by decide) (by decide) d_M_isBlock_17 ⟨congrArg bB (decide_eq_false (fun z => by first | exact absurd c1 (Int32.not_lt.mpr z.1) | exact absurd c9 (Int32.not_le.mpr z.2))).symm, rfl⟩
  · refine bV.iload_n G d_M_isBlock_4 rfl ?_
    refine bV.aload_n G d_M_isBlock_5 rfl ?_
    refine bV.getf G cl_M 0 11 rfl (by decide) bw_556 rfl d_M_isBlock_6 ?_
    refine bV.icmp_ge (tgt := 16) G d_M_isBlock_9 (by decide) (fun c9 => ?_) (fun c9 => ?_)
    · refine bV.iconst (v := nI 0) G d_M_isBlock_16 (by decide) ?_
      refine bV.topi (x := nI 0) (y := bB false) (by decide) ?_
      exact bV.iretI G E0 rfl (bB_n _) (by decide) (by decide) d_M_isBlock_17 ⟨congrArg bB (decide_eq_false (fun z => by first | exact absurd c1 (Int32.not_lt.mpr z.1) | exact absurd c9 (Int32.not_le.mpr z.2))).symm, rfl⟩
    · refine bV.iconst (v := nI 1) G d_M_isBlock_12 (by decide) ?_
      refine bV.goto (tgt := 17) G d_M_isBlock_13 (by decide) ?_
      refine bV.topi (x := nI 1) (y := bB true) (by decide) ?_
      exact bV.iretI G E0 rfl (bB_n _) (by decide) (by decide) d_M_isBlock_17 ⟨congrArg bB (decide_eq_true ⟨Int32.not_lt.mp c1, Int32.not_le.mp c9⟩).symm, rfl⟩
theorem d_M_isByte_0 : decode b_M_isByte 0 = .ok (.iload_n 0, 1) := by decide +kernel
theorem d_M_isByte_1 : decode b_M_isByte 1 = .ok (.ifCond .lt 14, 3) := by decide +kernel
theorem d_M_isByte_4 : decode b_M_isByte 4 = .ok (.iload_n 0, 1) := by decide +kernel
theorem d_M_isByte_5 : decode b_M_isByte 5 = .ok (.sipush 256, 3) := by decide +kernel
theorem d_M_isByte_8 : decode b_M_isByte 8 = .ok (.if_icmp .ge 7, 3) := by decide +kernel
theorem d_M_isByte_11 : decode b_M_isByte 11 = .ok (.iconst 1, 1) := by decide +kernel
theorem d_M_isByte_12 : decode b_M_isByte 12 = .ok (.goto 4, 3) := by decide +kernel
theorem d_M_isByte_15 : decode b_M_isByte 15 = .ok (.iconst 0, 1) := by decide +kernel
theorem d_M_isByte_16 : decode b_M_isByte 16 = .ok (.ireturn, 1) := by decide +kernel
set_option maxRecDepth 20000 in
set_option maxHeartbeats 4000000 in
theorem c_M_isByte {D : va_G} {cI cZ cJ : ClassId} {am : Nat → Nat} {mp : Nat} {th : Nat} {cr : Bool} {fd : Nat} {fo : Nat → Int32} {n : Nat} {lo : Nat → Int32} {np : Nat} {ps : Nat → Int32} {pb : Nat → Int32} {ip : Nat → Int32} {nb : Nat} {fr : Nat → Int32} {ln : Nat → Int32} {tr : Nat → Int32} {nv : Nat} {ct : Nat → Int32} {rw : Nat → Int32} {dr : Nat → Int32} {en : Nat} {sw : Nat} {rest : va_W} {v : Int32} : bC D bcl (tys3 cI cZ cJ) y_M_isByte ({ frames := 0, cells := 0, slots := 0, locals := 0 }) (wM am cI cZ mp th cr fd fo n lo np ps pb ip nb fr ln tr nv ct rw dr en sw rest) [.int (v)] (bI (fun x ws9 => x = bB (decide (0 ≤ v ∧ v < nI 256)) ∧ ws9 = wM am cI cZ mp th cr fd fo n lo np ps pb ip nb fr ln tr nv ct rw dr en sw rest) bno) := by
  refine bC.of (by decide) m_M_isByte.1 (Nat.le_of_ble_eq_true rfl) ?_
  intro Γ G E0
  show bV D bcl Γ 1 (wM am cI cZ mp th cr fd fo n lo np ps pb ip nb fr ln tr nv ct rw dr en sw rest) 0 0 0 [(0, .int (v))] []
  refine bV.iload_n G d_M_isByte_0 rfl ?_
  refine bV.if_lt (tgt := 15) G d_M_isByte_1 (by decide) (fun c1 => ?_) (fun c1 => ?_)
  · refine bV.iconst (v := nI 0) G d_M_isByte_15 (by decide) ?_
    refine bV.topi (x := nI 0) (y := bB false) (by decide) ?_
    exact bV.iretI G E0 rfl (bB_n _) (by decide) (by decide) d_M_isByte_16 ⟨congrArg bB (decide_eq_false (fun z => by first | exact absurd c1 (Int32.not_lt.mpr z.1) | exact absurd c8 (Int32.not_le.mpr z.2))).symm, rfl⟩
  · refine bV.iload_n G d_M_isByte_4 rfl ?_
    refine bV.sipush (v := nI 256) G d_M_isByte_5 (by decide) ?_
    refine bV.icmp_ge (tgt := 15) G d_M_isByte_8 (by decide) (fun c8 => ?_) (fun c8 => ?_)
    · refine bV.iconst (v := nI 0) G d_M_isByte_15 (by decide) ?_
      refine bV.topi (x := nI 0) (y := bB false) (by decide) ?_
      exact bV.iretI G E0 rfl (bB_n _) (by decide) (by decide) d_M_isByte_16 ⟨congrArg bB (decide_eq_false (fun z => by first | exact absurd c1 (Int32.not_lt.mpr z.1) | exact absurd c8 (Int32.not_le.mpr z.2))).symm, rfl⟩
    · refine bV.iconst (v := nI 1) G d_M_isByte_11 (by decide) ?_
      refine bV.goto (tgt := 16) G d_M_isByte_12 (by decide) ?_
      refine bV.topi (x := nI 1) (y := bB true) (by decide) ?_
      exact bV.iretI G E0 rfl (bB_n _) (by decide) (by decide) d_M_isByte_16 ⟨congrArg bB (decide_eq_true ⟨Int32.not_lt.mp c1, Int32.not_le.mp c8⟩).symm, rfl⟩
theorem d_M_next_0 : decode b_M_next 0 = .ok (.iload_n 0, 1) := by decide +kernel
theorem d_M_next_1 : decode b_M_next 1 = .ok (.iload_n 1, 1) := by decide +kernel
theorem d_M_next_2 : decode b_M_next 2 = .ok (.ixor, 1) := by decide +kernel
theorem d_M_next_3 : decode b_M_next 3 = .ok (.istore_n 2, 1) := by decide +kernel
theorem d_M_next_4 : decode b_M_next 4 = .ok (.iload_n 2, 1) := by decide +kernel
theorem d_M_next_5 : decode b_M_next 5 = .ok (.iconst 1, 1) := by decide +kernel
theorem d_M_next_6 : decode b_M_next 6 = .ok (.iushr, 1) := by decide +kernel
theorem d_M_next_7 : decode b_M_next 7 = .ok (.iload_n 2, 1) := by decide +kernel
theorem d_M_next_8 : decode b_M_next 8 = .ok (.bipush 31, 2) := by decide +kernel
theorem d_M_next_10 : decode b_M_next 10 = .ok (.ishl, 1) := by decide +kernel
theorem d_M_next_11 : decode b_M_next 11 = .ok (.ior, 1) := by decide +kernel
theorem d_M_next_12 : decode b_M_next 12 = .ok (.ldc 112, 2) := by decide +kernel
theorem d_M_next_14 : decode b_M_next 14 = .ok (.imul, 1) := by decide +kernel
theorem d_M_next_15 : decode b_M_next 15 = .ok (.ireturn, 1) := by decide +kernel
set_option maxRecDepth 20000 in
set_option maxHeartbeats 4000000 in
theorem c_M_next {D : va_G} {cI cZ cJ : ClassId} {am : Nat → Nat} {mp : Nat} {th : Nat} {cr : Bool} {fd : Nat} {fo : Nat → Int32} {n : Nat} {lo : Nat → Int32} {np : Nat} {ps : Nat → Int32} {pb : Nat → Int32} {ip : Nat → Int32} {nb : Nat} {fr : Nat → Int32} {ln : Nat → Int32} {tr : Nat → Int32} {nv : Nat} {ct : Nat → Int32} {rw : Nat → Int32} {dr : Nat → Int32} {en : Nat} {sw : Nat} {rest : va_W} {s b : Int32} : bC D bcl (tys3 cI cZ cJ) y_M_next ({ frames := 0, cells := 0, slots := 0, locals := 0 }) (wM am cI cZ mp th cr fd fo n lo np ps pb ip nb fr ln tr nv ct rw dr en sw rest) [.int (s), .int (b)] (bI (fun x ws9 => x = nextS s b ∧ ws9 = wM am cI cZ mp th cr fd fo n lo np ps pb ip nb fr ln tr nv ct rw dr en sw rest) bno) := by
  refine bC.of (by decide) m_M_next.1 (Nat.le_of_ble_eq_true rfl) ?_
  intro Γ G E0
  show bV D bcl Γ 3 (wM am cI cZ mp th cr fd fo n lo np ps pb ip nb fr ln tr nv ct rw dr en sw rest) 0 0 0 [(0, .int (s)), (1, .int (b))] []
  refine bV.iload_n G d_M_next_0 rfl ?_
  refine bV.iload_n G d_M_next_1 rfl ?_
  refine bV.ixor G d_M_next_2 ?_
  refine bV.istore_n G (lv' := [(0, .int (s)), (1, .int (b)), (2, .int (s ^^^ b))]) d_M_next_3 (by decide) rfl rfl ?_
  refine bV.iload_n G d_M_next_4 rfl ?_
  refine bV.iconst (v := nI 1) G d_M_next_5 (by decide) ?_
  refine bV.iushr G d_M_next_6 ?_
  refine bV.iload_n G d_M_next_7 rfl ?_
  refine bV.bipush (v := nI 31) G d_M_next_8 (by decide) ?_
  refine bV.ishl G d_M_next_10 ?_
  refine bV.ior G d_M_next_11 ?_
  refine bV.ldc G d_M_next_12 bw_691 ?_
  refine bV.imul G d_M_next_14 ?_
  exact bV.iretI G E0 rfl rfl (by decide) (by decide) d_M_next_15 ⟨by unfold nextS; rw [Int32.or_comm], rfl⟩
theorem d_M_isPackByte_0 : decode b_M_isPackByte 0 = .ok (.iload_n 1, 1) := by decide +kernel
theorem d_M_isPackByte_1 : decode b_M_isPackByte 1 = .ok (.ifCond .lt 29, 3) := by decide +kernel
theorem d_M_isPackByte_4 : decode b_M_isPackByte 4 = .ok (.iload_n 1, 1) := by decide +kernel
theorem d_M_isPackByte_5 : decode b_M_isPackByte 5 = .ok (.aload_n 0, 1) := by decide +kernel
theorem d_M_isPackByte_6 : decode b_M_isPackByte 6 = .ok (.getfield 117, 3) := by decide +kernel
theorem d_M_isPackByte_9 : decode b_M_isPackByte 9 = .ok (.if_icmp .ge 21, 3) := by decide +kernel
theorem d_M_isPackByte_12 : decode b_M_isPackByte 12 = .ok (.iload_n 2, 1) := by decide +kernel
theorem d_M_isPackByte_13 : decode b_M_isPackByte 13 = .ok (.ifCond .lt 17, 3) := by decide +kernel
theorem d_M_isPackByte_16 : decode b_M_isPackByte 16 = .ok (.iload_n 2, 1) := by decide +kernel
theorem d_M_isPackByte_17 : decode b_M_isPackByte 17 = .ok (.aload_n 0, 1) := by decide +kernel
theorem d_M_isPackByte_18 : decode b_M_isPackByte 18 = .ok (.getfield 16, 3) := by decide +kernel
theorem d_M_isPackByte_21 : decode b_M_isPackByte 21 = .ok (.iload_n 1, 1) := by decide +kernel
theorem d_M_isPackByte_22 : decode b_M_isPackByte 22 = .ok (.iaload, 1) := by decide +kernel
theorem d_M_isPackByte_23 : decode b_M_isPackByte 23 = .ok (.if_icmp .ge 7, 3) := by decide +kernel
theorem d_M_isPackByte_26 : decode b_M_isPackByte 26 = .ok (.iconst 1, 1) := by decide +kernel
theorem d_M_isPackByte_27 : decode b_M_isPackByte 27 = .ok (.goto 4, 3) := by decide +kernel
theorem d_M_isPackByte_30 : decode b_M_isPackByte 30 = .ok (.iconst 0, 1) := by decide +kernel
theorem d_M_isPackByte_31 : decode b_M_isPackByte 31 = .ok (.ireturn, 1) := by decide +kernel
set_option maxRecDepth 20000 in
set_option maxHeartbeats 4000000 in
theorem c_M_isPackByte {D : va_G} {cI cZ cJ : ClassId} {am : Nat → Nat} {mp : Nat} {th : Nat} {cr : Bool} {fd : Nat} {fo : Nat → Int32} {n : Nat} {lo : Nat → Int32} {np : Nat} {ps : Nat → Int32} {pb : Nat → Int32} {ip : Nat → Int32} {nb : Nat} {fr : Nat → Int32} {ln : Nat → Int32} {tr : Nat → Int32} {nv : Nat} {ct : Nat → Int32} {rw : Nat → Int32} {dr : Nat → Int32} {en : Nat} {sw : Nat} {rest : va_W} {v u : Int32} {ql : Nat → Nat} (hps : ∀ p, p < np → ps p = nI (ql p)) (hql : ∀ p, p < np → ql p ≤ 664) (hnp : np ≤ 8) : bC D bcl (tys3 cI cZ cJ) y_M_isPackByte ({ frames := 0, cells := 0, slots := 0, locals := 0 }) (wM am cI cZ mp th cr fd fo n lo np ps pb ip nb fr ln tr nv ct rw dr en sw rest) [.ref (am 0), .int (v), .int (u)] (bI (fun x ws9 => x = bB (decide ((0 ≤ v ∧ v < nI np) ∧ 0 ≤ u ∧ u < nI (ql v.toNatClampNeg))) ∧ ws9 = wM am cI cZ mp th cr fd fo n lo np ps pb ip nb fr ln tr nv ct rw dr en sw rest) bno) := by
  refine bC.of (by decide) m_M_isPackByte.1 (Nat.le_of_ble_eq_true rfl) ?_
  intro Γ G E0
  show bV D bcl Γ 3 (wM am cI cZ mp th cr fd fo n lo np ps pb ip nb fr ln tr nv ct rw dr en sw rest) 0 0 0 [(0, .ref (am 0)), (1, .int (v)), (2, .int (u))] []
  refine bV.iload_n G d_M_isPackByte_0 rfl ?_
  refine bV.if_lt (tgt := 30) G d_M_isPackByte_1 (by decide) (fun c1 => ?_) (fun c1 => ?_)
  · refine bV.iconst (v := nI 0) G d_M_isPackByte_30 (by decide) ?_
    refine bV.topi (x := nI 0) (y := bB false) (by decide) ?_
    exact bV.iretI G E0 rfl (bB_n _) (by decide) (by decide) d_M_isPackByte_31 ⟨congrArg bB (decide_eq_false (fun z => by first | exact absurd c1 (Int32.not_lt.mpr z.1.1) | exact absurd c9 (Int32.not_le.mpr z.1.2) | exact absurd c13 (Int32.not_lt.mpr z.2.1) | exact absurd c23 (Int32.not_le.mpr (by have z3 := z.2.2; rw [nI_clamp (by omega)] at z3; exact z3)))).symm, rfl⟩
  · refine bV.iload_n G d_M_isPackByte_4 rfl ?_
    refine bV.aload_n G d_M_isPackByte_5 rfl ?_
    refine bV.getf G cl_M 0 7 rfl (by decide) bw_552 rfl d_M_isPackByte_6 ?_
    refine bV.icmp_ge (tgt := 30) G d_M_isPackByte_9 (by decide) (fun c9 => ?_) (fun c9 => ?_)
    · refine bV.iconst (v := nI 0) G d_M_isPackByte_30 (by decide) ?_
      refine bV.topi (x := nI 0) (y := bB false) (by decide) ?_
      exact bV.iretI G E0 rfl (bB_n _) (by decide) (by decide) d_M_isPackByte_31 ⟨congrArg bB (decide_eq_false (fun z => by first | exact absurd c1 (Int32.not_lt.mpr z.1.1) | exact absurd c9 (Int32.not_le.mpr z.1.2) | exact absurd c13 (Int32.not_lt.mpr z.2.1) | exact absurd c23 (Int32.not_le.mpr (by have z3 := z.2.2; rw [nI_clamp (by omega)] at z3; exact z3)))).symm, rfl⟩
    · have hv : 0 ≤ v ∧ v < nI np := ⟨Int32.not_lt.mp c1, Int32.not_le.mp c9⟩
      obtain ⟨j, hj, rfl⟩ := nI_btw hv (by omega)
      have hlq := hql j hj
      refine bV.iload_n G d_M_isPackByte_12 rfl ?_
      refine bV.if_lt (tgt := 30) G d_M_isPackByte_13 (by decide) (fun c13 => ?_) (fun c13 => ?_)
      · refine bV.iconst (v := nI 0) G d_M_isPackByte_30 (by decide) ?_
        refine bV.topi (x := nI 0) (y := bB false) (by decide) ?_
        exact bV.iretI G E0 rfl (bB_n _) (by decide) (by decide) d_M_isPackByte_31 ⟨congrArg bB (decide_eq_false (fun z => by first | exact absurd c1 (Int32.not_lt.mpr z.1.1) | exact absurd c9 (Int32.not_le.mpr z.1.2) | exact absurd c13 (Int32.not_lt.mpr z.2.1) | exact absurd c23 (Int32.not_le.mpr (by have z3 := z.2.2; rw [nI_clamp (by omega)] at z3; exact z3)))).symm, rfl⟩
      · refine bV.iload_n G d_M_isPackByte_16 rfl ?_
        refine bV.aload_n G d_M_isPackByte_17 rfl ?_
        refine bV.getf G cl_M 0 8 rfl (by decide) bw_553 rfl d_M_isPackByte_18 ?_
        refine bV.iload_n G d_M_isPackByte_21 rfl ?_
        refine bV.ialoadN G 3 0 rfl rfl (by omega) (by omega) d_M_isPackByte_22 ?_
        refine bV.topi (y := (nI (ql j))) (hps _ (by omega)) ?_
        refine bV.icmp_ge (tgt := 30) G d_M_isPackByte_23 (by decide) (fun c23 => ?_) (fun c23 => ?_)
        · refine bV.iconst (v := nI 0) G d_M_isPackByte_30 (by decide) ?_
          refine bV.topi (x := nI 0) (y := bB false) (by decide) ?_
          exact bV.iretI G E0 rfl (bB_n _) (by decide) (by decide) d_M_isPackByte_31 ⟨congrArg bB (decide_eq_false (fun z => by first | exact absurd c1 (Int32.not_lt.mpr z.1.1) | exact absurd c9 (Int32.not_le.mpr z.1.2) | exact absurd c13 (Int32.not_lt.mpr z.2.1) | exact absurd c23 (Int32.not_le.mpr (by have z3 := z.2.2; rw [nI_clamp (by omega)] at z3; exact z3)))).symm, rfl⟩
        · refine bV.iconst (v := nI 1) G d_M_isPackByte_26 (by decide) ?_
          refine bV.goto (tgt := 31) G d_M_isPackByte_27 (by decide) ?_
          refine bV.topi (x := nI 1) (y := bB true) (by decide) ?_
          exact bV.iretI G E0 rfl (bB_n _) (by decide) (by decide) d_M_isPackByte_31 ⟨congrArg bB (decide_eq_true ⟨hv, Int32.not_lt.mp c13, by rw [nI_clamp (by omega)]; exact Int32.not_le.mp c23⟩).symm, rfl⟩
theorem d_M_sumOf_0 : decode b_M_sumOf 0 = .ok (.iconst 1, 1) := by decide +kernel
theorem d_M_sumOf_1 : decode b_M_sumOf 1 = .ok (.istore_n 2, 1) := by decide +kernel
theorem d_M_sumOf_2 : decode b_M_sumOf 2 = .ok (.iconst 0, 1) := by decide +kernel
theorem d_M_sumOf_3 : decode b_M_sumOf 3 = .ok (.istore_n 3, 1) := by decide +kernel
theorem d_M_sumOf_4 : decode b_M_sumOf 4 = .ok (.iload_n 3, 1) := by decide +kernel
theorem d_M_sumOf_5 : decode b_M_sumOf 5 = .ok (.aload_n 0, 1) := by decide +kernel
theorem d_M_sumOf_6 : decode b_M_sumOf 6 = .ok (.getfield 16, 3) := by decide +kernel
theorem d_M_sumOf_9 : decode b_M_sumOf 9 = .ok (.iload_n 1, 1) := by decide +kernel
theorem d_M_sumOf_10 : decode b_M_sumOf 10 = .ok (.iaload, 1) := by decide +kernel
theorem d_M_sumOf_11 : decode b_M_sumOf 11 = .ok (.iconst 4, 1) := by decide +kernel
theorem d_M_sumOf_12 : decode b_M_sumOf 12 = .ok (.isub, 1) := by decide +kernel
theorem d_M_sumOf_13 : decode b_M_sumOf 13 = .ok (.if_icmp .ge 26, 3) := by decide +kernel
theorem d_M_sumOf_16 : decode b_M_sumOf 16 = .ok (.iload_n 2, 1) := by decide +kernel
theorem d_M_sumOf_17 : decode b_M_sumOf 17 = .ok (.aload_n 0, 1) := by decide +kernel
theorem d_M_sumOf_18 : decode b_M_sumOf 18 = .ok (.getfield 19, 3) := by decide +kernel
theorem d_M_sumOf_21 : decode b_M_sumOf 21 = .ok (.sipush 700, 3) := by decide +kernel
theorem d_M_sumOf_24 : decode b_M_sumOf 24 = .ok (.iload_n 1, 1) := by decide +kernel
theorem d_M_sumOf_25 : decode b_M_sumOf 25 = .ok (.imul, 1) := by decide +kernel
theorem d_M_sumOf_26 : decode b_M_sumOf 26 = .ok (.iload_n 3, 1) := by decide +kernel
theorem d_M_sumOf_27 : decode b_M_sumOf 27 = .ok (.iadd, 1) := by decide +kernel
theorem d_M_sumOf_28 : decode b_M_sumOf 28 = .ok (.iaload, 1) := by decide +kernel
theorem d_M_sumOf_29 : decode b_M_sumOf 29 = .ok (.invokestatic 113, 3) := by decide +kernel
theorem d_M_sumOf_32 : decode b_M_sumOf 32 = .ok (.istore_n 2, 1) := by decide +kernel
theorem d_M_sumOf_33 : decode b_M_sumOf 33 = .ok (.iinc 3 1, 3) := by decide +kernel
theorem d_M_sumOf_36 : decode b_M_sumOf 36 = .ok (.goto (-32), 3) := by decide +kernel
theorem d_M_sumOf_39 : decode b_M_sumOf 39 = .ok (.iload_n 2, 1) := by decide +kernel
theorem d_M_sumOf_40 : decode b_M_sumOf 40 = .ok (.ireturn, 1) := by decide +kernel
set_option maxRecDepth 20000 in
set_option maxHeartbeats 4000000 in
theorem c_M_sumOf {D : va_G} {cI cZ cJ : ClassId} {am : Nat → Nat} {mp : Nat} {th : Nat} {cr : Bool} {fd : Nat} {fo : Nat → Int32} {n : Nat} {lo : Nat → Int32} {np : Nat} {ps : Nat → Int32} {pb : Nat → Int32} {ip : Nat → Int32} {nb : Nat} {fr : Nat → Int32} {ln : Nat → Int32} {tr : Nat → Int32} {nv : Nat} {ct : Nat → Int32} {rw : Nat → Int32} {dr : Nat → Int32} {en : Nat} {sw : Nat} {rest : va_W} {p q : Nat} {g : Nat → Nat} (hps : ps p = nI (q + 4)) (hq : q ≤ 690) (hpb : ∀ i, i < q → pb (700 * p + i) = nI (g i)) (hp : p < 8) : bC D bcl (tys3 cI cZ cJ) y_M_sumOf ({ frames := 1, cells := 0, slots := 0, locals := 22 }) (wM am cI cZ mp th cr fd fo n lo np ps pb ip nb fr ln tr nv ct rw dr en sw rest) [.ref (am 0), .int (nI (p))] (bI (fun x ws9 => x = sumS g (nI 1) q ∧ ws9 = wM am cI cZ mp th cr fd fo n lo np ps pb ip nb fr ln tr nv ct rw dr en sw rest) bno) := by
  refine bC.of (by decide) m_M_sumOf.1 (Nat.le_of_ble_eq_true rfl) ?_
  intro Γ G E0
  show bV D bcl Γ 4 (wM am cI cZ mp th cr fd fo n lo np ps pb ip nb fr ln tr nv ct rw dr en sw rest) 0 0 0 [(0, .ref (am 0)), (1, .int (nI (p)))] []
  have loop : ∀ (d : Nat) (i : Nat), d + i = q → bV D bcl Γ 4 (wM am cI cZ mp th cr fd fo n lo np ps pb ip nb fr ln tr nv ct rw dr en sw rest) 0 0 4 [(0, .ref (am 0)), (1, .int (nI (p))), (2, .int (sumS g (nI 1) i)), (3, .int (nI (i)))] [] := by
    intro d
    induction d with
    | zero =>
      intro i hd
      refine bV.iload_n G d_M_sumOf_4 rfl ?_
      refine bV.aload_n G d_M_sumOf_5 rfl ?_
      refine bV.getf G cl_M 0 8 rfl (by decide) bw_553 rfl d_M_sumOf_6 ?_
      refine bV.iload_n G d_M_sumOf_9 rfl ?_
      refine bV.ialoadN G 3 0 rfl rfl (by omega) (by omega) d_M_sumOf_10 ?_
      refine bV.topi (y := (nI (q + 4))) hps ?_
      refine bV.iconst (v := nI 4) G d_M_sumOf_11 (by decide) ?_
      refine bV.isubN G d_M_sumOf_12 (by omega) ?_
      refine bV.icmp_geN (tgt := 39) G d_M_sumOf_13 (by decide) (by omega) (by omega) (fun c13 => ?_) (fun c13 => ?_)
      · refine bV.iload_n G d_M_sumOf_39 rfl ?_
        exact bV.iretI G E0 rfl rfl (by decide) (by decide) d_M_sumOf_40 ⟨by rw [show i = q by omega], rfl⟩
      · exfalso; omega
    | succ d ih =>
      intro i hd
      refine bV.iload_n G d_M_sumOf_4 rfl ?_
      refine bV.aload_n G d_M_sumOf_5 rfl ?_
      refine bV.getf G cl_M 0 8 rfl (by decide) bw_553 rfl d_M_sumOf_6 ?_
      refine bV.iload_n G d_M_sumOf_9 rfl ?_
      refine bV.ialoadN G 3 0 rfl rfl (by omega) (by omega) d_M_sumOf_10 ?_
      refine bV.topi (y := (nI (q + 4))) hps ?_
      refine bV.iconst (v := nI 4) G d_M_sumOf_11 (by decide) ?_
      refine bV.isubN G d_M_sumOf_12 (by omega) ?_
      refine bV.icmp_geN (tgt := 39) G d_M_sumOf_13 (by decide) (by omega) (by omega) (fun c13 => ?_) (fun c13 => ?_)
      · exfalso; omega
      · refine bV.iload_n G d_M_sumOf_16 rfl ?_
        refine bV.aload_n G d_M_sumOf_17 rfl ?_
        refine bV.getf G cl_M 0 9 rfl (by decide) bw_554 rfl d_M_sumOf_18 ?_
        refine bV.sipush (v := nI 700) G d_M_sumOf_21 (by decide) ?_
        refine bV.iload_n G d_M_sumOf_24 rfl ?_
        refine bV.imulN G d_M_sumOf_25 ?_
        refine bV.iload_n G d_M_sumOf_26 rfl ?_
        refine bV.iaddN G d_M_sumOf_27 ?_
        refine bV.ialoadN G 4 0 rfl rfl (by omega) (by omega) d_M_sumOf_28 ?_
        refine bV.topi (y := (nI (g i))) (hpb _ (by omega)) ?_
        refine bV.callSi G m_M_next bw_689 bw_688 (c_M_next (s := sumS g (nI 1) i) (b := nI (g i))) rfl rfl ⟨by decide, by decide⟩ ⟨by decide, by decide⟩ (Nat.le_of_ble_eq_true rfl) d_M_sumOf_29 (fun x9 ws9 h9 => ?_)
        obtain ⟨rfl, h9e⟩ := h9
        rw [h9e]
        try dsimp only
        refine bV.istore_n G (lv' := [(0, .ref (am 0)), (1, .int (nI (p))), (2, .int (nextS (sumS g (nI 1) i) (nI (g i)))), (3, .int (nI (i)))]) d_M_sumOf_32 (by decide) rfl rfl ?_
        refine bV.iincN G (lv' := [(0, .ref (am 0)), (1, .int (nI (p))), (2, .int (nextS (sumS g (nI 1) i) (nI (g i)))), (3, .int (nI (i + 1)))]) d_M_sumOf_33 rfl (by decide) rfl rfl ?_
        refine bV.goto (tgt := 4) G d_M_sumOf_36 (by decide) ?_
        exact ih (i + 1) (by omega)
  refine bV.iconst (v := nI 1) G d_M_sumOf_0 (by decide) ?_
  refine bV.istore_n G (lv' := [(0, .ref (am 0)), (1, .int (nI (p))), (2, .int (nI (1)))]) d_M_sumOf_1 (by decide) rfl rfl ?_
  refine bV.iconst (v := nI 0) G d_M_sumOf_2 (by decide) ?_
  refine bV.istore_n G (lv' := [(0, .ref (am 0)), (1, .int (nI (p))), (2, .int (nI (1))), (3, .int (nI (0)))]) d_M_sumOf_3 (by decide) rfl rfl ?_
  exact loop q 0 (by omega)
theorem d_M_byteAt_0 : decode b_M_byteAt 0 = .ok (.aload_n 0, 1) := by decide +kernel
theorem d_M_byteAt_1 : decode b_M_byteAt 1 = .ok (.iconst 2, 1) := by decide +kernel
theorem d_M_byteAt_2 : decode b_M_byteAt 2 = .ok (.invokevirtual 91, 3) := by decide +kernel
theorem d_M_byteAt_5 : decode b_M_byteAt 5 = .ok (.ifCond .ne 5, 3) := by decide +kernel
theorem d_M_byteAt_8 : decode b_M_byteAt 8 = .ok (.iconst 0, 1) := by decide +kernel
theorem d_M_byteAt_9 : decode b_M_byteAt 9 = .ok (.ireturn, 1) := by decide +kernel
theorem d_M_byteAt_10 : decode b_M_byteAt 10 = .ok (.aload_n 0, 1) := by decide +kernel
theorem d_M_byteAt_11 : decode b_M_byteAt 11 = .ok (.aload_n 0, 1) := by decide +kernel
theorem d_M_byteAt_12 : decode b_M_byteAt 12 = .ok (.iload_n 1, 1) := by decide +kernel
theorem d_M_byteAt_13 : decode b_M_byteAt 13 = .ok (.invokevirtual 109, 3) := by decide +kernel
theorem d_M_byteAt_16 : decode b_M_byteAt 16 = .ok (.ifCond .eq 11, 3) := by decide +kernel
theorem d_M_byteAt_19 : decode b_M_byteAt 19 = .ok (.iload_n 2, 1) := by decide +kernel
theorem d_M_byteAt_20 : decode b_M_byteAt 20 = .ok (.ifCond .lt 7, 3) := by decide +kernel
theorem d_M_byteAt_23 : decode b_M_byteAt 23 = .ok (.iconst 0, 1) := by decide +kernel
theorem d_M_byteAt_24 : decode b_M_byteAt 24 = .ok (.goto 4, 3) := by decide +kernel
theorem d_M_byteAt_27 : decode b_M_byteAt 27 = .ok (.iconst 1, 1) := by decide +kernel
theorem d_M_byteAt_28 : decode b_M_byteAt 28 = .ok (.putfield 48, 3) := by decide +kernel
theorem d_M_byteAt_31 : decode b_M_byteAt 31 = .ok (.aload_n 0, 1) := by decide +kernel
theorem d_M_byteAt_32 : decode b_M_byteAt 32 = .ok (.getfield 48, 3) := by decide +kernel
theorem d_M_byteAt_35 : decode b_M_byteAt 35 = .ok (.ifCond .eq 5, 3) := by decide +kernel
theorem d_M_byteAt_38 : decode b_M_byteAt 38 = .ok (.iconst 0, 1) := by decide +kernel
theorem d_M_byteAt_39 : decode b_M_byteAt 39 = .ok (.ireturn, 1) := by decide +kernel
theorem d_M_byteAt_40 : decode b_M_byteAt 40 = .ok (.aload_n 0, 1) := by decide +kernel
theorem d_M_byteAt_41 : decode b_M_byteAt 41 = .ok (.getfield 32, 3) := by decide +kernel
theorem d_M_byteAt_44 : decode b_M_byteAt 44 = .ok (.iload_n 1, 1) := by decide +kernel
theorem d_M_byteAt_45 : decode b_M_byteAt 45 = .ok (.baload, 1) := by decide +kernel
theorem d_M_byteAt_46 : decode b_M_byteAt 46 = .ok (.ifCond .eq 29, 3) := by decide +kernel
theorem d_M_byteAt_49 : decode b_M_byteAt 49 = .ok (.iload_n 2, 1) := by decide +kernel
theorem d_M_byteAt_50 : decode b_M_byteAt 50 = .ok (.aload_n 0, 1) := by decide +kernel
theorem d_M_byteAt_51 : decode b_M_byteAt 51 = .ok (.getfield 29, 3) := by decide +kernel
theorem d_M_byteAt_54 : decode b_M_byteAt 54 = .ok (.iload_n 1, 1) := by decide +kernel
theorem d_M_byteAt_55 : decode b_M_byteAt 55 = .ok (.iaload, 1) := by decide +kernel
theorem d_M_byteAt_56 : decode b_M_byteAt 56 = .ok (.if_icmp .ge 19, 3) := by decide +kernel
theorem d_M_byteAt_59 : decode b_M_byteAt 59 = .ok (.aload_n 0, 1) := by decide +kernel
theorem d_M_byteAt_60 : decode b_M_byteAt 60 = .ok (.getfield 13, 3) := by decide +kernel
theorem d_M_byteAt_63 : decode b_M_byteAt 63 = .ok (.aload_n 0, 1) := by decide +kernel
theorem d_M_byteAt_64 : decode b_M_byteAt 64 = .ok (.getfield 26, 3) := by decide +kernel
theorem d_M_byteAt_67 : decode b_M_byteAt 67 = .ok (.iload_n 1, 1) := by decide +kernel
theorem d_M_byteAt_68 : decode b_M_byteAt 68 = .ok (.iaload, 1) := by decide +kernel
theorem d_M_byteAt_69 : decode b_M_byteAt 69 = .ok (.iload_n 2, 1) := by decide +kernel
theorem d_M_byteAt_70 : decode b_M_byteAt 70 = .ok (.iadd, 1) := by decide +kernel
theorem d_M_byteAt_71 : decode b_M_byteAt 71 = .ok (.iaload, 1) := by decide +kernel
theorem d_M_byteAt_72 : decode b_M_byteAt 72 = .ok (.goto 4, 3) := by decide +kernel
theorem d_M_byteAt_75 : decode b_M_byteAt 75 = .ok (.iconst (-1), 1) := by decide +kernel
theorem d_M_byteAt_76 : decode b_M_byteAt 76 = .ok (.ireturn, 1) := by decide +kernel
set_option maxRecDepth 20000 in
set_option maxHeartbeats 4000000 in
theorem c_M_byteAt {D : va_G} {cI cZ cJ : ClassId} {am : Nat → Nat} {mp : Nat} {th : Nat} {cr : Bool} {fd : Nat} {fo : Nat → Int32} {n : Nat} {lo : Nat → Int32} {np : Nat} {ps : Nat → Int32} {pb : Nat → Int32} {ip : Nat → Int32} {nb : Nat} {fr : Nat → Int32} {ln : Nat → Int32} {tr : Nat → Int32} {nv : Nat} {ct : Nat → Int32} {rw : Nat → Int32} {dr : Nat → Int32} {en : Nat} {sw : Nat} {rest : va_W} {lg : Nat → Nat} {S : aS} (hRl : lg_R lo n lg) (hok : cr = false → logOk lg n S) {v u : Int32} : bC D bcl (tys3 cI cZ cJ) y_M_byteAt ({ frames := 5, cells := 0, slots := 0, locals := 108 }) (wM am cI cZ mp th cr fd fo n lo np ps pb ip nb fr ln tr nv ct rw dr en sw rest) [.ref (am 0), .int (v), .int (u)] (bI (fun x ws9 => (cr = true ∧ ∃ (nb1 nv1 en1 sw1 : Nat) (fr1 ln1 tr1 ct1 rw1 dr1 : Nat → Int32), ws9 = wM am cI cZ mp 2 cr fd fo n lo np ps pb ip nb1 fr1 ln1 tr1 nv1 ct1 rw1 dr1 en1 sw1 rest) ∨ (cr = false ∧ ¬ ((0 ≤ v ∧ v < nI (sNb S)) ∧ 0 ≤ u) ∧ ∃ (nb1 nv1 en1 sw1 : Nat) (fr1 ln1 tr1 ct1 rw1 dr1 : Nat → Int32), ws9 = wM am cI cZ mp 1 cr fd fo n lo np ps pb ip nb1 fr1 ln1 tr1 nv1 ct1 rw1 dr1 en1 sw1 rest) ∨ (cr = false ∧ ((0 ≤ v ∧ v < nI (sNb S)) ∧ 0 ≤ u) ∧ x = (if sTh S v.toNatClampNeg = true then (if u.toNatClampNeg < sLn S v.toNatClampNeg then nI (lg (sFr S v.toNatClampNeg + u.toNatClampNeg)) else (-1)) else (-1)) ∧ ∃ (nb1 nv1 en1 sw1 : Nat) (fr1 ln1 tr1 ct1 rw1 dr1 : Nat → Int32), ws9 = wM am cI cZ mp 0 cr fd fo n lo np ps pb ip nb1 fr1 ln1 tr1 nv1 ct1 rw1 dr1 en1 sw1 rest)) bno) := by
  refine bC.of (by decide) m_M_byteAt.1 (Nat.le_of_ble_eq_true rfl) ?_
  intro Γ G E0
  show bV D bcl Γ 3 (wM am cI cZ mp th cr fd fo n lo np ps pb ip nb fr ln tr nv ct rw dr en sw rest) 0 0 0 [(0, .ref (am 0)), (1, .int (v)), (2, .int (u))] []
  refine bV.aload_n G d_M_byteAt_0 rfl ?_
  refine bV.iconst (v := nI 2) G d_M_byteAt_1 (by decide) ?_
  refine bV.callVi G m_M_isReady bw_619 bw_s26 bw_617 (c_M_isReady (f := 2) hRl hok) 0 rfl rfl rfl rfl rfl ⟨by decide, by decide⟩ ⟨by decide, by decide⟩ (Nat.le_of_ble_eq_true rfl) d_M_byteAt_2 (fun x9 ws9 h9 => ?_)
  rcases h9 with ⟨hcr, rfl, h9e⟩ | ⟨hcr, rfl, fr1, ln1, tr1, ct1, rw1, dr1, sw1, hdv, h9e⟩
  · rw [h9e]
    try dsimp only
    refine bV.if_neB (tgt := 10) G d_M_byteAt_5 (by decide) (fun c5 => ?_) (fun c5 => ?_)
    · cases c5
    · refine bV.iconst (v := nI 0) G d_M_byteAt_8 (by decide) ?_
      exact bV.iretI G E0 rfl rfl (by decide) (by decide) d_M_byteAt_9 (Or.inl ⟨hcr, nb, nv, en, sw, fr, ln, tr, ct, rw, dr, rfl⟩)
  · rw [h9e]
    try dsimp only
    have hs := (hok hcr).s
    have hnb := hs.1
    have hnv := hs.2.1
    have h400 := hRl.1
    refine bV.if_neB (tgt := 10) G d_M_byteAt_5 (by decide) (fun c5 => ?_) (fun c5 => ?_)
    · refine bV.aload_n G d_M_byteAt_10 rfl ?_
      refine bV.aload_n G d_M_byteAt_11 rfl ?_
      refine bV.iload_n G d_M_byteAt_12 rfl ?_
      refine bV.callVi G m_M_isBlock bw_682 bw_s36 bw_680 (c_M_isBlock (v := v)) 0 rfl rfl rfl rfl rfl ⟨by decide, by decide⟩ ⟨by decide, by decide⟩ (Nat.le_of_ble_eq_true rfl) d_M_byteAt_13 (fun x9 ws9 h9 => ?_)
      obtain ⟨rfl, h9e⟩ := h9
      rw [h9e]
      try dsimp only
      refine bV.if_eqB (tgt := 27) G d_M_byteAt_16 (by decide) (fun c16 => ?_) (fun c16 => ?_)
      · have hg16 := of_decide_eq_false c16
        refine bV.iconst (v := nI 1) G d_M_byteAt_27 (by decide) ?_
        refine bV.putf G (ws' := (wM am cI cZ mp 1 cr fd fo n lo np ps pb ip (sNb S) fr1 ln1 tr1 (sNv S) ct1 rw1 dr1 n sw1 rest)) cl_M 0 0 rfl (by decide) bw_545 rfl rfl rfl (Nat.le_of_ble_eq_true rfl) d_M_byteAt_28 rfl ?_
        refine bV.aload_n G d_M_byteAt_31 rfl ?_
        refine bV.getf G cl_M 0 0 rfl (by decide) bw_545 rfl d_M_byteAt_32 ?_
        refine bV.if_eqN (tgt := 40) G d_M_byteAt_35 (by decide) (by omega) (fun c35 => ?_) (fun c35 => ?_)
        · exact absurd c35 (by decide)
        · refine bV.iconst (v := nI 0) G d_M_byteAt_38 (by decide) ?_
          exact bV.iretI G E0 rfl rfl (by decide) (by decide) d_M_byteAt_39 (Or.inr (Or.inl ⟨hcr, fun z => by first | exact hg16 z.1 | exact absurd c20 (Int32.not_lt.mpr z.2), (sNb S), (sNv S), n, sw1, fr1, ln1, tr1, ct1, rw1, dr1, rfl⟩))
      · have hg16 := of_decide_eq_true c16
        obtain ⟨j, hj, rfl⟩ := nI_btw hg16 (by omega)
        have hfl := hs.2.2.2.2.1 j hj
        refine bV.iload_n G d_M_byteAt_19 rfl ?_
        refine bV.if_lt (tgt := 27) G d_M_byteAt_20 (by decide) (fun c20 => ?_) (fun c20 => ?_)
        · refine bV.iconst (v := nI 1) G d_M_byteAt_27 (by decide) ?_
          refine bV.putf G (ws' := (wM am cI cZ mp 1 cr fd fo n lo np ps pb ip (sNb S) fr1 ln1 tr1 (sNv S) ct1 rw1 dr1 n sw1 rest)) cl_M 0 0 rfl (by decide) bw_545 rfl rfl rfl (Nat.le_of_ble_eq_true rfl) d_M_byteAt_28 rfl ?_
          refine bV.aload_n G d_M_byteAt_31 rfl ?_
          refine bV.getf G cl_M 0 0 rfl (by decide) bw_545 rfl d_M_byteAt_32 ?_
          refine bV.if_eqN (tgt := 40) G d_M_byteAt_35 (by decide) (by omega) (fun c35 => ?_) (fun c35 => ?_)
          · exact absurd c35 (by decide)
          · refine bV.iconst (v := nI 0) G d_M_byteAt_38 (by decide) ?_
            exact bV.iretI G E0 rfl rfl (by decide) (by decide) d_M_byteAt_39 (Or.inr (Or.inl ⟨hcr, fun z => by first | exact hg16 z.1 | exact absurd c20 (Int32.not_lt.mpr z.2), (sNb S), (sNv S), n, sw1, fr1, ln1, tr1, ct1, rw1, dr1, rfl⟩))
        · have hg20 := Int32.not_lt.mp c20
          obtain ⟨i, hi, rfl⟩ := nI_of c20
          refine bV.iconst (v := nI 0) G d_M_byteAt_23 (by decide) ?_
          refine bV.goto (tgt := 28) G d_M_byteAt_24 (by decide) ?_
          refine bV.putf G (ws' := (wM am cI cZ mp 0 cr fd fo n lo np ps pb ip (sNb S) fr1 ln1 tr1 (sNv S) ct1 rw1 dr1 n sw1 rest)) cl_M 0 0 rfl (by decide) bw_545 rfl rfl rfl (Nat.le_of_ble_eq_true rfl) d_M_byteAt_28 rfl ?_
          refine bV.aload_n G d_M_byteAt_31 rfl ?_
          refine bV.getf G cl_M 0 0 rfl (by decide) bw_545 rfl d_M_byteAt_32 ?_
          refine bV.if_eqN (tgt := 40) G d_M_byteAt_35 (by decide) (by omega) (fun c35 => ?_) (fun c35 => ?_)
          · refine bV.aload_n G d_M_byteAt_40 rfl ?_
            refine bV.getf G cl_M 0 14 rfl (by decide) bw_559 rfl d_M_byteAt_41 ?_
            refine bV.iload_n G d_M_byteAt_44 rfl ?_
            refine bV.zaloadN G 8 1 rfl rfl (by omega) (by omega) d_M_byteAt_45 ?_
            refine bV.topi (y := (bB (sTh S j))) (hdv.2.2.1 _ (by omega)) ?_
            refine bV.if_eqB (tgt := 75) G d_M_byteAt_46 (by decide) (fun c46 => ?_) (fun c46 => ?_)
            · refine bV.iconst (v := (-1)) G d_M_byteAt_75 (by decide) ?_
              exact bV.iretI G E0 rfl rfl (by decide) (by decide) d_M_byteAt_76 (Or.inr (Or.inr ⟨hcr, ⟨hg16, hg20⟩, by rw [nI_clamp (by omega), nI_clamp (by omega)]; first | rw [if_pos c46, if_neg (by omega)] | rw [if_neg (by rw [c46]; decide)], (sNb S), (sNv S), n, sw1, fr1, ln1, tr1, ct1, rw1, dr1, rfl⟩))
            · refine bV.iload_n G d_M_byteAt_49 rfl ?_
              refine bV.aload_n G d_M_byteAt_50 rfl ?_
              refine bV.getf G cl_M 0 13 rfl (by decide) bw_558 rfl d_M_byteAt_51 ?_
              refine bV.iload_n G d_M_byteAt_54 rfl ?_
              refine bV.ialoadN G 7 0 rfl rfl (by omega) (by omega) d_M_byteAt_55 ?_
              refine bV.topi (y := (nI (sLn S j))) (hdv.2.1 _ (by omega)) ?_
              refine bV.icmp_geN (tgt := 75) G d_M_byteAt_56 (by decide) (by omega) (by omega) (fun c56 => ?_) (fun c56 => ?_)
              · refine bV.iconst (v := (-1)) G d_M_byteAt_75 (by decide) ?_
                exact bV.iretI G E0 rfl rfl (by decide) (by decide) d_M_byteAt_76 (Or.inr (Or.inr ⟨hcr, ⟨hg16, hg20⟩, by rw [nI_clamp (by omega), nI_clamp (by omega)]; first | rw [if_pos c46, if_neg (by omega)] | rw [if_neg (by rw [c46]; decide)], (sNb S), (sNv S), n, sw1, fr1, ln1, tr1, ct1, rw1, dr1, rfl⟩))
              · refine bV.aload_n G d_M_byteAt_59 rfl ?_
                refine bV.getf G cl_M 0 6 rfl (by decide) bw_551 rfl d_M_byteAt_60 ?_
                refine bV.aload_n G d_M_byteAt_63 rfl ?_
                refine bV.getf G cl_M 0 12 rfl (by decide) bw_557 rfl d_M_byteAt_64 ?_
                refine bV.iload_n G d_M_byteAt_67 rfl ?_
                refine bV.ialoadN G 6 0 rfl rfl (by omega) (by omega) d_M_byteAt_68 ?_
                refine bV.topi (y := (nI (sFr S j))) (hdv.1 _ (by omega)) ?_
                refine bV.iload_n G d_M_byteAt_69 rfl ?_
                refine bV.iaddN G d_M_byteAt_70 ?_
                refine bV.ialoadN G 2 0 rfl rfl (by omega) (by omega) d_M_byteAt_71 ?_
                refine bV.topi (y := (nI (lg ((sFr S j) + i)))) (hRl.2.1 _ (by omega)) ?_
                refine bV.goto (tgt := 76) G d_M_byteAt_72 (by decide) ?_
                exact bV.iretI G E0 rfl rfl (by decide) (by decide) d_M_byteAt_76 (Or.inr (Or.inr ⟨hcr, ⟨hg16, hg20⟩, by rw [nI_clamp (by omega), nI_clamp (by omega)]; rw [if_pos c46, if_pos (by omega)], (sNb S), (sNv S), n, sw1, fr1, ln1, tr1, ct1, rw1, dr1, rfl⟩))
          · exact absurd c35 (by decide)
    · cases c5
theorem d_M_digest_0 : decode b_M_digest 0 = .ok (.aload_n 0, 1) := by decide +kernel
theorem d_M_digest_1 : decode b_M_digest 1 = .ok (.iconst 2, 1) := by decide +kernel
theorem d_M_digest_2 : decode b_M_digest 2 = .ok (.invokevirtual 91, 3) := by decide +kernel
theorem d_M_digest_5 : decode b_M_digest 5 = .ok (.ifCond .ne 5, 3) := by decide +kernel
theorem d_M_digest_8 : decode b_M_digest 8 = .ok (.iconst 0, 1) := by decide +kernel
theorem d_M_digest_9 : decode b_M_digest 9 = .ok (.ireturn, 1) := by decide +kernel
theorem d_M_digest_10 : decode b_M_digest 10 = .ok (.aload_n 0, 1) := by decide +kernel
theorem d_M_digest_11 : decode b_M_digest 11 = .ok (.aload_n 0, 1) := by decide +kernel
theorem d_M_digest_12 : decode b_M_digest 12 = .ok (.iload_n 1, 1) := by decide +kernel
theorem d_M_digest_13 : decode b_M_digest 13 = .ok (.invokevirtual 109, 3) := by decide +kernel
theorem d_M_digest_16 : decode b_M_digest 16 = .ok (.ifCond .eq 16, 3) := by decide +kernel
theorem d_M_digest_19 : decode b_M_digest 19 = .ok (.iload_n 2, 1) := by decide +kernel
theorem d_M_digest_20 : decode b_M_digest 20 = .ok (.ifCond .lt 12, 3) := by decide +kernel
theorem d_M_digest_23 : decode b_M_digest 23 = .ok (.iload_n 2, 1) := by decide +kernel
theorem d_M_digest_24 : decode b_M_digest 24 = .ok (.iconst 4, 1) := by decide +kernel
theorem d_M_digest_25 : decode b_M_digest 25 = .ok (.if_icmp .ge 7, 3) := by decide +kernel
theorem d_M_digest_28 : decode b_M_digest 28 = .ok (.iconst 0, 1) := by decide +kernel
theorem d_M_digest_29 : decode b_M_digest 29 = .ok (.goto 4, 3) := by decide +kernel
theorem d_M_digest_32 : decode b_M_digest 32 = .ok (.iconst 1, 1) := by decide +kernel
theorem d_M_digest_33 : decode b_M_digest 33 = .ok (.putfield 48, 3) := by decide +kernel
theorem d_M_digest_36 : decode b_M_digest 36 = .ok (.aload_n 0, 1) := by decide +kernel
theorem d_M_digest_37 : decode b_M_digest 37 = .ok (.getfield 48, 3) := by decide +kernel
theorem d_M_digest_40 : decode b_M_digest 40 = .ok (.ifCond .eq 5, 3) := by decide +kernel
theorem d_M_digest_43 : decode b_M_digest 43 = .ok (.iconst 0, 1) := by decide +kernel
theorem d_M_digest_44 : decode b_M_digest 44 = .ok (.ireturn, 1) := by decide +kernel
theorem d_M_digest_45 : decode b_M_digest 45 = .ok (.aload_n 0, 1) := by decide +kernel
theorem d_M_digest_46 : decode b_M_digest 46 = .ok (.getfield 32, 3) := by decide +kernel
theorem d_M_digest_49 : decode b_M_digest 49 = .ok (.iload_n 1, 1) := by decide +kernel
theorem d_M_digest_50 : decode b_M_digest 50 = .ok (.baload, 1) := by decide +kernel
theorem d_M_digest_51 : decode b_M_digest 51 = .ok (.ifCond .ne 5, 3) := by decide +kernel
theorem d_M_digest_54 : decode b_M_digest 54 = .ok (.iconst (-1), 1) := by decide +kernel
theorem d_M_digest_55 : decode b_M_digest 55 = .ok (.ireturn, 1) := by decide +kernel
theorem d_M_digest_56 : decode b_M_digest 56 = .ok (.iconst 1, 1) := by decide +kernel
theorem d_M_digest_57 : decode b_M_digest 57 = .ok (.istore_n 3, 1) := by decide +kernel
theorem d_M_digest_58 : decode b_M_digest 58 = .ok (.iconst 0, 1) := by decide +kernel
theorem d_M_digest_59 : decode b_M_digest 59 = .ok (.istore 4, 2) := by decide +kernel
theorem d_M_digest_61 : decode b_M_digest 61 = .ok (.iload 4, 2) := by decide +kernel
theorem d_M_digest_63 : decode b_M_digest 63 = .ok (.aload_n 0, 1) := by decide +kernel
theorem d_M_digest_64 : decode b_M_digest 64 = .ok (.getfield 29, 3) := by decide +kernel
theorem d_M_digest_67 : decode b_M_digest 67 = .ok (.iload_n 1, 1) := by decide +kernel
theorem d_M_digest_68 : decode b_M_digest 68 = .ok (.iaload, 1) := by decide +kernel
theorem d_M_digest_69 : decode b_M_digest 69 = .ok (.if_icmp .ge 28, 3) := by decide +kernel
theorem d_M_digest_72 : decode b_M_digest 72 = .ok (.iload_n 3, 1) := by decide +kernel
theorem d_M_digest_73 : decode b_M_digest 73 = .ok (.aload_n 0, 1) := by decide +kernel
theorem d_M_digest_74 : decode b_M_digest 74 = .ok (.getfield 13, 3) := by decide +kernel
theorem d_M_digest_77 : decode b_M_digest 77 = .ok (.aload_n 0, 1) := by decide +kernel
theorem d_M_digest_78 : decode b_M_digest 78 = .ok (.getfield 26, 3) := by decide +kernel
theorem d_M_digest_81 : decode b_M_digest 81 = .ok (.iload_n 1, 1) := by decide +kernel
theorem d_M_digest_82 : decode b_M_digest 82 = .ok (.iaload, 1) := by decide +kernel
theorem d_M_digest_83 : decode b_M_digest 83 = .ok (.iload 4, 2) := by decide +kernel
theorem d_M_digest_85 : decode b_M_digest 85 = .ok (.iadd, 1) := by decide +kernel
theorem d_M_digest_86 : decode b_M_digest 86 = .ok (.iaload, 1) := by decide +kernel
theorem d_M_digest_87 : decode b_M_digest 87 = .ok (.invokestatic 113, 3) := by decide +kernel
theorem d_M_digest_90 : decode b_M_digest 90 = .ok (.istore_n 3, 1) := by decide +kernel
theorem d_M_digest_91 : decode b_M_digest 91 = .ok (.iinc 4 1, 3) := by decide +kernel
theorem d_M_digest_94 : decode b_M_digest 94 = .ok (.goto (-33), 3) := by decide +kernel
theorem d_M_digest_97 : decode b_M_digest 97 = .ok (.iload_n 3, 1) := by decide +kernel
theorem d_M_digest_98 : decode b_M_digest 98 = .ok (.bipush 24, 2) := by decide +kernel
theorem d_M_digest_100 : decode b_M_digest 100 = .ok (.bipush 8, 2) := by decide +kernel
theorem d_M_digest_102 : decode b_M_digest 102 = .ok (.iload_n 2, 1) := by decide +kernel
theorem d_M_digest_103 : decode b_M_digest 103 = .ok (.imul, 1) := by decide +kernel
theorem d_M_digest_104 : decode b_M_digest 104 = .ok (.isub, 1) := by decide +kernel
theorem d_M_digest_105 : decode b_M_digest 105 = .ok (.ishr, 1) := by decide +kernel
theorem d_M_digest_106 : decode b_M_digest 106 = .ok (.sipush 255, 3) := by decide +kernel
theorem d_M_digest_109 : decode b_M_digest 109 = .ok (.iand, 1) := by decide +kernel
theorem d_M_digest_110 : decode b_M_digest 110 = .ok (.ireturn, 1) := by decide +kernel
set_option maxRecDepth 20000 in
set_option maxHeartbeats 4000000 in
theorem c_M_digest {D : va_G} {cI cZ cJ : ClassId} {am : Nat → Nat} {mp : Nat} {th : Nat} {cr : Bool} {fd : Nat} {fo : Nat → Int32} {n : Nat} {lo : Nat → Int32} {np : Nat} {ps : Nat → Int32} {pb : Nat → Int32} {ip : Nat → Int32} {nb : Nat} {fr : Nat → Int32} {ln : Nat → Int32} {tr : Nat → Int32} {nv : Nat} {ct : Nat → Int32} {rw : Nat → Int32} {dr : Nat → Int32} {en : Nat} {sw : Nat} {rest : va_W} {lg : Nat → Nat} {S : aS} (hRl : lg_R lo n lg) (hok : cr = false → logOk lg n S) {v u : Int32} : bC D bcl (tys3 cI cZ cJ) y_M_digest ({ frames := 5, cells := 0, slots := 0, locals := 108 }) (wM am cI cZ mp th cr fd fo n lo np ps pb ip nb fr ln tr nv ct rw dr en sw rest) [.ref (am 0), .int (v), .int (u)] (bI (fun x ws9 => (cr = true ∧ ∃ (nb1 nv1 en1 sw1 : Nat) (fr1 ln1 tr1 ct1 rw1 dr1 : Nat → Int32), ws9 = wM am cI cZ mp 2 cr fd fo n lo np ps pb ip nb1 fr1 ln1 tr1 nv1 ct1 rw1 dr1 en1 sw1 rest) ∨ (cr = false ∧ ¬ ((0 ≤ v ∧ v < nI (sNb S)) ∧ (0 ≤ u ∧ u < 4)) ∧ ∃ (nb1 nv1 en1 sw1 : Nat) (fr1 ln1 tr1 ct1 rw1 dr1 : Nat → Int32), ws9 = wM am cI cZ mp 1 cr fd fo n lo np ps pb ip nb1 fr1 ln1 tr1 nv1 ct1 rw1 dr1 en1 sw1 rest) ∨ (cr = false ∧ ((0 ≤ v ∧ v < nI (sNb S)) ∧ (0 ≤ u ∧ u < 4)) ∧ x = (if sTh S v.toNatClampNeg = true then byteS (sumS (lbS lg S v.toNatClampNeg) (nI 1) (sLn S v.toNatClampNeg)) u.toNatClampNeg else (-1)) ∧ ∃ (nb1 nv1 en1 sw1 : Nat) (fr1 ln1 tr1 ct1 rw1 dr1 : Nat → Int32), ws9 = wM am cI cZ mp 0 cr fd fo n lo np ps pb ip nb1 fr1 ln1 tr1 nv1 ct1 rw1 dr1 en1 sw1 rest)) bno) := by
  refine bC.of (by decide) m_M_digest.1 (Nat.le_of_ble_eq_true rfl) ?_
  intro Γ G E0
  show bV D bcl Γ 5 (wM am cI cZ mp th cr fd fo n lo np ps pb ip nb fr ln tr nv ct rw dr en sw rest) 0 0 0 [(0, .ref (am 0)), (1, .int (v)), (2, .int (u))] []
  have loop : ∀ (d : Nat) (fr1 ln1 tr1 ct1 rw1 dr1 : Nat → Int32) (sw1 : Nat) (j i k : Nat), cr = false → dvR S fr1 ln1 tr1 ct1 rw1 dr1 → v = nI j → u = nI i → j < sNb S → (0 ≤ v ∧ v < nI (sNb S)) → i < 4 → (0 ≤ u ∧ u < nI 4) → sTh S j = true → d + k = sLn S j → bV D bcl Γ 5 (wM am cI cZ mp 0 cr fd fo n lo np ps pb ip (sNb S) fr1 ln1 tr1 (sNv S) ct1 rw1 dr1 n sw1 rest) 0 0 61 [(0, .ref (am 0)), (1, .int (nI (j))), (2, .int (nI (i))), (3, .int (sumS (lbS lg S j) (nI 1) k)), (4, .int (nI (k)))] [] := by
    intro d
    induction d with
    | zero =>
      intro fr1 ln1 tr1 ct1 rw1 dr1 sw1 j i k hcr hdv hv hu hj hg16 hi hg25 c51 hd
      subst hv
      subst hu
      have hs := (hok hcr).s
      have hnb := hs.1
      have hnv := hs.2.1
      have h400 := hRl.1
      have hfl := hs.2.2.2.2.1 j hj
      refine bV.iload G d_M_digest_61 rfl ?_
      refine bV.aload_n G d_M_digest_63 rfl ?_
      refine bV.getf G cl_M 0 13 rfl (by decide) bw_558 rfl d_M_digest_64 ?_
      refine bV.iload_n G d_M_digest_67 rfl ?_
      refine bV.ialoadN G 7 0 rfl rfl (by omega) (by omega) d_M_digest_68 ?_
      refine bV.topi (y := (nI (sLn S j))) (hdv.2.1 _ (by omega)) ?_
      refine bV.icmp_geN (tgt := 97) G d_M_digest_69 (by decide) (by omega) (by omega) (fun c69 => ?_) (fun c69 => ?_)
      · refine bV.iload_n G d_M_digest_97 rfl ?_
        refine bV.bipush (v := nI 24) G d_M_digest_98 (by decide) ?_
        refine bV.bipush (v := nI 8) G d_M_digest_100 (by decide) ?_
        refine bV.iload_n G d_M_digest_102 rfl ?_
        refine bV.imulN G d_M_digest_103 ?_
        refine bV.isubN G d_M_digest_104 (by omega) ?_
        refine bV.ishr G d_M_digest_105 ?_
        refine bV.sipush (v := nI 255) G d_M_digest_106 (by decide) ?_
        refine bV.iand G d_M_digest_109 ?_
        refine bV.topi (y := (byteS (sumS (lbS lg S j) (nI 1) k) i)) (byteM (by omega)) ?_
        exact bV.iretI G E0 rfl rfl (by decide) (by decide) d_M_digest_110 (Or.inr (Or.inr ⟨hcr, ⟨hg16, hg25⟩, by rw [nI_clamp (by omega), nI_clamp (by omega)]; rw [if_pos c51, show sLn S j = k by omega], (sNb S), (sNv S), n, sw1, fr1, ln1, tr1, ct1, rw1, dr1, rfl⟩))
      · exfalso; omega
    | succ d ih =>
      intro fr1 ln1 tr1 ct1 rw1 dr1 sw1 j i k hcr hdv hv hu hj hg16 hi hg25 c51 hd
      subst hv
      subst hu
      have hs := (hok hcr).s
      have hnb := hs.1
      have hnv := hs.2.1
      have h400 := hRl.1
      have hfl := hs.2.2.2.2.1 j hj
      refine bV.iload G d_M_digest_61 rfl ?_
      refine bV.aload_n G d_M_digest_63 rfl ?_
      refine bV.getf G cl_M 0 13 rfl (by decide) bw_558 rfl d_M_digest_64 ?_
      refine bV.iload_n G d_M_digest_67 rfl ?_
      refine bV.ialoadN G 7 0 rfl rfl (by omega) (by omega) d_M_digest_68 ?_
      refine bV.topi (y := (nI (sLn S j))) (hdv.2.1 _ (by omega)) ?_
      refine bV.icmp_geN (tgt := 97) G d_M_digest_69 (by decide) (by omega) (by omega) (fun c69 => ?_) (fun c69 => ?_)
      · exfalso; omega
      · refine bV.iload_n G d_M_digest_72 rfl ?_
        refine bV.aload_n G d_M_digest_73 rfl ?_
        refine bV.getf G cl_M 0 6 rfl (by decide) bw_551 rfl d_M_digest_74 ?_
        refine bV.aload_n G d_M_digest_77 rfl ?_
        refine bV.getf G cl_M 0 12 rfl (by decide) bw_557 rfl d_M_digest_78 ?_
        refine bV.iload_n G d_M_digest_81 rfl ?_
        refine bV.ialoadN G 6 0 rfl rfl (by omega) (by omega) d_M_digest_82 ?_
        refine bV.topi (y := (nI (sFr S j))) (hdv.1 _ (by omega)) ?_
        refine bV.iload G d_M_digest_83 rfl ?_
        refine bV.iaddN G d_M_digest_85 ?_
        refine bV.ialoadN G 2 0 rfl rfl (by omega) (by omega) d_M_digest_86 ?_
        refine bV.topi (y := (nI (lg ((sFr S j) + k)))) (hRl.2.1 _ (by omega)) ?_
        refine bV.callSi G m_M_next bw_689 bw_688 (c_M_next (s := sumS (lbS lg S j) (nI 1) k) (b := nI (lg ((sFr S j) + k)))) rfl rfl ⟨by decide, by decide⟩ ⟨by decide, by decide⟩ (Nat.le_of_ble_eq_true rfl) d_M_digest_87 (fun x9 ws9 h9 => ?_)
        obtain ⟨rfl, h9e⟩ := h9
        rw [h9e]
        try dsimp only
        refine bV.istore_n G (lv' := [(0, .ref (am 0)), (1, .int (nI (j))), (2, .int (nI (i))), (3, .int (nextS (sumS (lbS lg S j) (nI 1) k) (nI (lg ((sFr S j) + k))))), (4, .int (nI (k)))]) d_M_digest_90 (by decide) rfl rfl ?_
        refine bV.iincN G (lv' := [(0, .ref (am 0)), (1, .int (nI (j))), (2, .int (nI (i))), (3, .int (nextS (sumS (lbS lg S j) (nI 1) k) (nI (lg ((sFr S j) + k))))), (4, .int (nI (k + 1)))]) d_M_digest_91 rfl (by decide) rfl rfl ?_
        refine bV.goto (tgt := 61) G d_M_digest_94 (by decide) ?_
        exact ih fr1 ln1 tr1 ct1 rw1 dr1 sw1 j i (k + 1) hcr hdv rfl rfl hj hg16 hi hg25 c51 (by omega)
  refine bV.aload_n G d_M_digest_0 rfl ?_
  refine bV.iconst (v := nI 2) G d_M_digest_1 (by decide) ?_
  refine bV.callVi G m_M_isReady bw_619 bw_s26 bw_617 (c_M_isReady (f := 2) hRl hok) 0 rfl rfl rfl rfl rfl ⟨by decide, by decide⟩ ⟨by decide, by decide⟩ (Nat.le_of_ble_eq_true rfl) d_M_digest_2 (fun x9 ws9 h9 => ?_)
  rcases h9 with ⟨hcr, rfl, h9e⟩ | ⟨hcr, rfl, fr1, ln1, tr1, ct1, rw1, dr1, sw1, hdv, h9e⟩
  · rw [h9e]
    try dsimp only
    refine bV.if_neB (tgt := 10) G d_M_digest_5 (by decide) (fun c5 => ?_) (fun c5 => ?_)
    · cases c5
    · refine bV.iconst (v := nI 0) G d_M_digest_8 (by decide) ?_
      exact bV.iretI G E0 rfl rfl (by decide) (by decide) d_M_digest_9 (Or.inl ⟨hcr, nb, nv, en, sw, fr, ln, tr, ct, rw, dr, rfl⟩)
  · rw [h9e]
    try dsimp only
    have hs := (hok hcr).s
    have hnb := hs.1
    have hnv := hs.2.1
    have h400 := hRl.1
    refine bV.if_neB (tgt := 10) G d_M_digest_5 (by decide) (fun c5 => ?_) (fun c5 => ?_)
    · refine bV.aload_n G d_M_digest_10 rfl ?_
      refine bV.aload_n G d_M_digest_11 rfl ?_
      refine bV.iload_n G d_M_digest_12 rfl ?_
      refine bV.callVi G m_M_isBlock bw_682 bw_s36 bw_680 (c_M_isBlock (v := v)) 0 rfl rfl rfl rfl rfl ⟨by decide, by decide⟩ ⟨by decide, by decide⟩ (Nat.le_of_ble_eq_true rfl) d_M_digest_13 (fun x9 ws9 h9 => ?_)
      obtain ⟨rfl, h9e⟩ := h9
      rw [h9e]
      try dsimp only
      refine bV.if_eqB (tgt := 32) G d_M_digest_16 (by decide) (fun c16 => ?_) (fun c16 => ?_)
      · have hg16 := of_decide_eq_false c16
        refine bV.iconst (v := nI 1) G d_M_digest_32 (by decide) ?_
        refine bV.putf G (ws' := (wM am cI cZ mp 1 cr fd fo n lo np ps pb ip (sNb S) fr1 ln1 tr1 (sNv S) ct1 rw1 dr1 n sw1 rest)) cl_M 0 0 rfl (by decide) bw_545 rfl rfl rfl (Nat.le_of_ble_eq_true rfl) d_M_digest_33 rfl ?_
        refine bV.aload_n G d_M_digest_36 rfl ?_
        refine bV.getf G cl_M 0 0 rfl (by decide) bw_545 rfl d_M_digest_37 ?_
        refine bV.if_eqN (tgt := 45) G d_M_digest_40 (by decide) (by omega) (fun c40 => ?_) (fun c40 => ?_)
        · exact absurd c40 (by decide)
        · refine bV.iconst (v := nI 0) G d_M_digest_43 (by decide) ?_
          exact bV.iretI G E0 rfl rfl (by decide) (by decide) d_M_digest_44 (Or.inr (Or.inl ⟨hcr, fun z => by first | exact hg16 z.1 | exact absurd c20 (Int32.not_lt.mpr z.2.1) | exact absurd c25 (Int32.not_le.mpr z.2.2), (sNb S), (sNv S), n, sw1, fr1, ln1, tr1, ct1, rw1, dr1, rfl⟩))
      · have hg16 := of_decide_eq_true c16
        obtain ⟨j, hj, rfl⟩ := nI_btw hg16 (by omega)
        have hfl := hs.2.2.2.2.1 j hj
        refine bV.iload_n G d_M_digest_19 rfl ?_
        refine bV.if_lt (tgt := 32) G d_M_digest_20 (by decide) (fun c20 => ?_) (fun c20 => ?_)
        · refine bV.iconst (v := nI 1) G d_M_digest_32 (by decide) ?_
          refine bV.putf G (ws' := (wM am cI cZ mp 1 cr fd fo n lo np ps pb ip (sNb S) fr1 ln1 tr1 (sNv S) ct1 rw1 dr1 n sw1 rest)) cl_M 0 0 rfl (by decide) bw_545 rfl rfl rfl (Nat.le_of_ble_eq_true rfl) d_M_digest_33 rfl ?_
          refine bV.aload_n G d_M_digest_36 rfl ?_
          refine bV.getf G cl_M 0 0 rfl (by decide) bw_545 rfl d_M_digest_37 ?_
          refine bV.if_eqN (tgt := 45) G d_M_digest_40 (by decide) (by omega) (fun c40 => ?_) (fun c40 => ?_)
          · exact absurd c40 (by decide)
          · refine bV.iconst (v := nI 0) G d_M_digest_43 (by decide) ?_
            exact bV.iretI G E0 rfl rfl (by decide) (by decide) d_M_digest_44 (Or.inr (Or.inl ⟨hcr, fun z => by first | exact hg16 z.1 | exact absurd c20 (Int32.not_lt.mpr z.2.1) | exact absurd c25 (Int32.not_le.mpr z.2.2), (sNb S), (sNv S), n, sw1, fr1, ln1, tr1, ct1, rw1, dr1, rfl⟩))
        · refine bV.iload_n G d_M_digest_23 rfl ?_
          refine bV.iconst (v := nI 4) G d_M_digest_24 (by decide) ?_
          refine bV.icmp_ge (tgt := 32) G d_M_digest_25 (by decide) (fun c25 => ?_) (fun c25 => ?_)
          · refine bV.iconst (v := nI 1) G d_M_digest_32 (by decide) ?_
            refine bV.putf G (ws' := (wM am cI cZ mp 1 cr fd fo n lo np ps pb ip (sNb S) fr1 ln1 tr1 (sNv S) ct1 rw1 dr1 n sw1 rest)) cl_M 0 0 rfl (by decide) bw_545 rfl rfl rfl (Nat.le_of_ble_eq_true rfl) d_M_digest_33 rfl ?_
            refine bV.aload_n G d_M_digest_36 rfl ?_
            refine bV.getf G cl_M 0 0 rfl (by decide) bw_545 rfl d_M_digest_37 ?_
            refine bV.if_eqN (tgt := 45) G d_M_digest_40 (by decide) (by omega) (fun c40 => ?_) (fun c40 => ?_)
            · exact absurd c40 (by decide)
            · refine bV.iconst (v := nI 0) G d_M_digest_43 (by decide) ?_
              exact bV.iretI G E0 rfl rfl (by decide) (by decide) d_M_digest_44 (Or.inr (Or.inl ⟨hcr, fun z => by first | exact hg16 z.1 | exact absurd c20 (Int32.not_lt.mpr z.2.1) | exact absurd c25 (Int32.not_le.mpr z.2.2), (sNb S), (sNv S), n, sw1, fr1, ln1, tr1, ct1, rw1, dr1, rfl⟩))
          · have hg25 : 0 ≤ u ∧ u < nI 4 := ⟨Int32.not_lt.mp c20, Int32.not_le.mp c25⟩
            obtain ⟨i, hi, rfl⟩ := nI_btw hg25 (by decide)
            refine bV.iconst (v := nI 0) G d_M_digest_28 (by decide) ?_
            refine bV.goto (tgt := 33) G d_M_digest_29 (by decide) ?_
            refine bV.putf G (ws' := (wM am cI cZ mp 0 cr fd fo n lo np ps pb ip (sNb S) fr1 ln1 tr1 (sNv S) ct1 rw1 dr1 n sw1 rest)) cl_M 0 0 rfl (by decide) bw_545 rfl rfl rfl (Nat.le_of_ble_eq_true rfl) d_M_digest_33 rfl ?_
            refine bV.aload_n G d_M_digest_36 rfl ?_
            refine bV.getf G cl_M 0 0 rfl (by decide) bw_545 rfl d_M_digest_37 ?_
            refine bV.if_eqN (tgt := 45) G d_M_digest_40 (by decide) (by omega) (fun c40 => ?_) (fun c40 => ?_)
            · refine bV.aload_n G d_M_digest_45 rfl ?_
              refine bV.getf G cl_M 0 14 rfl (by decide) bw_559 rfl d_M_digest_46 ?_
              refine bV.iload_n G d_M_digest_49 rfl ?_
              refine bV.zaloadN G 8 1 rfl rfl (by omega) (by omega) d_M_digest_50 ?_
              refine bV.topi (y := (bB (sTh S j))) (hdv.2.2.1 _ (by omega)) ?_
              refine bV.if_neB (tgt := 56) G d_M_digest_51 (by decide) (fun c51 => ?_) (fun c51 => ?_)
              · refine bV.iconst (v := nI 1) G d_M_digest_56 (by decide) ?_
                refine bV.istore_n G (lv' := [(0, .ref (am 0)), (1, .int (nI (j))), (2, .int (nI (i))), (3, .int (nI (1)))]) d_M_digest_57 (by decide) rfl rfl ?_
                refine bV.iconst (v := nI 0) G d_M_digest_58 (by decide) ?_
                refine bV.istore G (lv' := [(0, .ref (am 0)), (1, .int (nI (j))), (2, .int (nI (i))), (3, .int (nI (1))), (4, .int (nI (0)))]) d_M_digest_59 (by decide) rfl rfl ?_
                exact loop (sLn S j) fr1 ln1 tr1 ct1 rw1 dr1 sw1 j i 0 hcr hdv rfl rfl hj hg16 hi hg25 c51 (by omega)
              · refine bV.iconst (v := (-1)) G d_M_digest_54 (by decide) ?_
                exact bV.iretI G E0 rfl rfl (by decide) (by decide) d_M_digest_55 (Or.inr (Or.inr ⟨hcr, ⟨hg16, hg25⟩, by rw [nI_clamp (by omega), nI_clamp (by omega)]; rw [if_neg (by rw [c51]; decide)], (sNb S), (sNv S), n, sw1, fr1, ln1, tr1, ct1, rw1, dr1, rfl⟩))
            · exact absurd c40 (by decide)
    · cases c5
theorem d_M_holds_0 : decode b_M_holds 0 = .ok (.aload_n 0, 1) := by decide +kernel
theorem d_M_holds_1 : decode b_M_holds 1 = .ok (.iconst 2, 1) := by decide +kernel
theorem d_M_holds_2 : decode b_M_holds 2 = .ok (.invokevirtual 91, 3) := by decide +kernel
theorem d_M_holds_5 : decode b_M_holds 5 = .ok (.ifCond .ne 5, 3) := by decide +kernel
theorem d_M_holds_8 : decode b_M_holds 8 = .ok (.iconst 0, 1) := by decide +kernel
theorem d_M_holds_9 : decode b_M_holds 9 = .ok (.ireturn, 1) := by decide +kernel
theorem d_M_holds_10 : decode b_M_holds 10 = .ok (.aload_n 0, 1) := by decide +kernel
theorem d_M_holds_11 : decode b_M_holds 11 = .ok (.aload_n 0, 1) := by decide +kernel
theorem d_M_holds_12 : decode b_M_holds 12 = .ok (.iload_n 1, 1) := by decide +kernel
theorem d_M_holds_13 : decode b_M_holds 13 = .ok (.invokevirtual 106, 3) := by decide +kernel
theorem d_M_holds_16 : decode b_M_holds 16 = .ok (.ifCond .eq 15, 3) := by decide +kernel
theorem d_M_holds_19 : decode b_M_holds 19 = .ok (.aload_n 0, 1) := by decide +kernel
theorem d_M_holds_20 : decode b_M_holds 20 = .ok (.iload_n 2, 1) := by decide +kernel
theorem d_M_holds_21 : decode b_M_holds 21 = .ok (.invokevirtual 109, 3) := by decide +kernel
theorem d_M_holds_24 : decode b_M_holds 24 = .ok (.ifCond .eq 7, 3) := by decide +kernel
theorem d_M_holds_27 : decode b_M_holds 27 = .ok (.iconst 0, 1) := by decide +kernel
theorem d_M_holds_28 : decode b_M_holds 28 = .ok (.goto 4, 3) := by decide +kernel
theorem d_M_holds_31 : decode b_M_holds 31 = .ok (.iconst 1, 1) := by decide +kernel
theorem d_M_holds_32 : decode b_M_holds 32 = .ok (.putfield 48, 3) := by decide +kernel
theorem d_M_holds_35 : decode b_M_holds 35 = .ok (.iconst 0, 1) := by decide +kernel
theorem d_M_holds_36 : decode b_M_holds 36 = .ok (.istore_n 3, 1) := by decide +kernel
theorem d_M_holds_37 : decode b_M_holds 37 = .ok (.iconst 0, 1) := by decide +kernel
theorem d_M_holds_38 : decode b_M_holds 38 = .ok (.istore 4, 2) := by decide +kernel
theorem d_M_holds_40 : decode b_M_holds 40 = .ok (.aload_n 0, 1) := by decide +kernel
theorem d_M_holds_41 : decode b_M_holds 41 = .ok (.getfield 48, 3) := by decide +kernel
theorem d_M_holds_44 : decode b_M_holds 44 = .ok (.ifCond .ne 46, 3) := by decide +kernel
theorem d_M_holds_47 : decode b_M_holds 47 = .ok (.iload 4, 2) := by decide +kernel
theorem d_M_holds_49 : decode b_M_holds 49 = .ok (.aload_n 0, 1) := by decide +kernel
theorem d_M_holds_50 : decode b_M_holds 50 = .ok (.getfield 35, 3) := by decide +kernel
theorem d_M_holds_53 : decode b_M_holds 53 = .ok (.iload_n 1, 1) := by decide +kernel
theorem d_M_holds_54 : decode b_M_holds 54 = .ok (.iaload, 1) := by decide +kernel
theorem d_M_holds_55 : decode b_M_holds 55 = .ok (.if_icmp .ge 35, 3) := by decide +kernel
theorem d_M_holds_58 : decode b_M_holds 58 = .ok (.iload_n 3, 1) := by decide +kernel
theorem d_M_holds_59 : decode b_M_holds 59 = .ok (.ifCond .ne 19, 3) := by decide +kernel
theorem d_M_holds_62 : decode b_M_holds 62 = .ok (.aload_n 0, 1) := by decide +kernel
theorem d_M_holds_63 : decode b_M_holds 63 = .ok (.getfield 38, 3) := by decide +kernel
theorem d_M_holds_66 : decode b_M_holds 66 = .ok (.bipush 8, 2) := by decide +kernel
theorem d_M_holds_68 : decode b_M_holds 68 = .ok (.iload_n 1, 1) := by decide +kernel
theorem d_M_holds_69 : decode b_M_holds 69 = .ok (.imul, 1) := by decide +kernel
theorem d_M_holds_70 : decode b_M_holds 70 = .ok (.iload 4, 2) := by decide +kernel
theorem d_M_holds_72 : decode b_M_holds 72 = .ok (.iadd, 1) := by decide +kernel
theorem d_M_holds_73 : decode b_M_holds 73 = .ok (.iaload, 1) := by decide +kernel
theorem d_M_holds_74 : decode b_M_holds 74 = .ok (.iload_n 2, 1) := by decide +kernel
theorem d_M_holds_75 : decode b_M_holds 75 = .ok (.if_icmp .ne 7, 3) := by decide +kernel
theorem d_M_holds_78 : decode b_M_holds 78 = .ok (.iconst 1, 1) := by decide +kernel
theorem d_M_holds_79 : decode b_M_holds 79 = .ok (.goto 4, 3) := by decide +kernel
theorem d_M_holds_82 : decode b_M_holds 82 = .ok (.iconst 0, 1) := by decide +kernel
theorem d_M_holds_83 : decode b_M_holds 83 = .ok (.istore_n 3, 1) := by decide +kernel
theorem d_M_holds_84 : decode b_M_holds 84 = .ok (.iinc 4 1, 3) := by decide +kernel
theorem d_M_holds_87 : decode b_M_holds 87 = .ok (.goto (-47), 3) := by decide +kernel
theorem d_M_holds_90 : decode b_M_holds 90 = .ok (.iload_n 3, 1) := by decide +kernel
theorem d_M_holds_91 : decode b_M_holds 91 = .ok (.ireturn, 1) := by decide +kernel
set_option maxRecDepth 20000 in
set_option maxHeartbeats 4000000 in
theorem c_M_holds {D : va_G} {cI cZ cJ : ClassId} {am : Nat → Nat} {mp : Nat} {th : Nat} {cr : Bool} {fd : Nat} {fo : Nat → Int32} {n : Nat} {lo : Nat → Int32} {np : Nat} {ps : Nat → Int32} {pb : Nat → Int32} {ip : Nat → Int32} {nb : Nat} {fr : Nat → Int32} {ln : Nat → Int32} {tr : Nat → Int32} {nv : Nat} {ct : Nat → Int32} {rw : Nat → Int32} {dr : Nat → Int32} {en : Nat} {sw : Nat} {rest : va_W} {lg : Nat → Nat} {S : aS} (hRl : lg_R lo n lg) (hok : cr = false → logOk lg n S) {v u : Int32} : bC D bcl (tys3 cI cZ cJ) y_M_holds ({ frames := 5, cells := 0, slots := 0, locals := 108 }) (wM am cI cZ mp th cr fd fo n lo np ps pb ip nb fr ln tr nv ct rw dr en sw rest) [.ref (am 0), .int (v), .int (u)] (bI (fun x ws9 => (cr = true ∧ ∃ (nb1 nv1 en1 sw1 : Nat) (fr1 ln1 tr1 ct1 rw1 dr1 : Nat → Int32), ws9 = wM am cI cZ mp 2 cr fd fo n lo np ps pb ip nb1 fr1 ln1 tr1 nv1 ct1 rw1 dr1 en1 sw1 rest) ∨ (cr = false ∧ ¬ ((0 ≤ v ∧ v < nI (sNv S)) ∧ (0 ≤ u ∧ u < nI (sNb S))) ∧ ∃ (nb1 nv1 en1 sw1 : Nat) (fr1 ln1 tr1 ct1 rw1 dr1 : Nat → Int32), ws9 = wM am cI cZ mp 1 cr fd fo n lo np ps pb ip nb1 fr1 ln1 tr1 nv1 ct1 rw1 dr1 en1 sw1 rest) ∨ (cr = false ∧ ((0 ≤ v ∧ v < nI (sNv S)) ∧ (0 ≤ u ∧ u < nI (sNb S))) ∧ x = bB (dcd (∃ k, k < lvS S v.toNatClampNeg ∧ sRw S v.toNatClampNeg k = u.toNatClampNeg)) ∧ ∃ (nb1 nv1 en1 sw1 : Nat) (fr1 ln1 tr1 ct1 rw1 dr1 : Nat → Int32), ws9 = wM am cI cZ mp 0 cr fd fo n lo np ps pb ip nb1 fr1 ln1 tr1 nv1 ct1 rw1 dr1 en1 sw1 rest)) bno) := by
  refine bC.of (by decide) m_M_holds.1 (Nat.le_of_ble_eq_true rfl) ?_
  intro Γ G E0
  show bV D bcl Γ 5 (wM am cI cZ mp th cr fd fo n lo np ps pb ip nb fr ln tr nv ct rw dr en sw rest) 0 0 0 [(0, .ref (am 0)), (1, .int (v)), (2, .int (u))] []
  have loop : ∀ (d : Nat) (fr1 ln1 tr1 ct1 rw1 dr1 : Nat → Int32) (sw1 : Nat) (j b k : Nat) (hd : Bool), cr = false → dvR S fr1 ln1 tr1 ct1 rw1 dr1 → v = nI j → u = nI b → j < sNv S → (0 ≤ v ∧ v < nI (sNv S)) → b < sNb S → (0 ≤ u ∧ u < nI (sNb S)) → d + k = lvS S j → (hd = true ↔ ∃ k0, k0 < k ∧ sRw S j k0 = b) → bV D bcl Γ 5 (wM am cI cZ mp 0 cr fd fo n lo np ps pb ip (sNb S) fr1 ln1 tr1 (sNv S) ct1 rw1 dr1 n sw1 rest) 0 0 40 [(0, .ref (am 0)), (1, .int (nI (j))), (2, .int (nI (b))), (3, .int (bB (hd))), (4, .int (nI (k)))] [] := by
    intro d
    induction d with
    | zero =>
      intro fr1 ln1 tr1 ct1 rw1 dr1 sw1 j b k hd hcr hdv hv hu hj hg16 hb hg24 hd0 hh
      subst hv
      subst hu
      have hs := (hok hcr).s
      have hnb := hs.1
      have hnv := hs.2.1
      have h400 := hRl.1
      have hl8 := lvS_8 hs (Nat.le_of_lt hj)
      refine bV.aload_n G d_M_holds_40 rfl ?_
      refine bV.getf G cl_M 0 0 rfl (by decide) bw_545 rfl d_M_holds_41 ?_
      refine bV.if_neN (tgt := 90) G d_M_holds_44 (by decide) (by omega) (fun c44 => ?_) (fun c44 => ?_)
      · exact absurd c44 (by decide)
      · refine bV.iload G d_M_holds_47 rfl ?_
        refine bV.aload_n G d_M_holds_49 rfl ?_
        refine bV.getf G cl_M 0 16 rfl (by decide) bw_561 rfl d_M_holds_50 ?_
        refine bV.iload_n G d_M_holds_53 rfl ?_
        refine bV.ialoadN G 9 0 rfl rfl (by omega) (by omega) d_M_holds_54 ?_
        refine bV.topi (y := (nI (lvS S j))) (hdv.2.2.2.1 _ (by omega)) ?_
        refine bV.icmp_geN (tgt := 90) G d_M_holds_55 (by decide) (by omega) (by omega) (fun c55 => ?_) (fun c55 => ?_)
        · refine bV.iload_n G d_M_holds_90 rfl ?_
          exact bV.iretI G E0 rfl (bB_n _) (by decide) (by decide) d_M_holds_91 (Or.inr (Or.inr ⟨hcr, ⟨hg16, hg24⟩, by rw [nI_clamp (by omega), nI_clamp (by omega)]; exact congrArg bB (show hd = dcd _ by cases e : hd; exact (dcd_f (fun ⟨k0, z1, z2⟩ => by have z3 := hh.mpr ⟨k0, by omega, z2⟩; rw [e] at z3; cases z3)).symm; exact (dcd_t (by obtain ⟨k0, z1, z2⟩ := hh.mp e; exact ⟨k0, by omega, z2⟩)).symm), (sNb S), (sNv S), n, sw1, fr1, ln1, tr1, ct1, rw1, dr1, rfl⟩))
        · exfalso; omega
    | succ d ih =>
      intro fr1 ln1 tr1 ct1 rw1 dr1 sw1 j b k hd hcr hdv hv hu hj hg16 hb hg24 hd0 hh
      subst hv
      subst hu
      have hs := (hok hcr).s
      have hnb := hs.1
      have hnv := hs.2.1
      have h400 := hRl.1
      have hl8 := lvS_8 hs (Nat.le_of_lt hj)
      refine bV.aload_n G d_M_holds_40 rfl ?_
      refine bV.getf G cl_M 0 0 rfl (by decide) bw_545 rfl d_M_holds_41 ?_
      refine bV.if_neN (tgt := 90) G d_M_holds_44 (by decide) (by omega) (fun c44 => ?_) (fun c44 => ?_)
      · exact absurd c44 (by decide)
      · refine bV.iload G d_M_holds_47 rfl ?_
        refine bV.aload_n G d_M_holds_49 rfl ?_
        refine bV.getf G cl_M 0 16 rfl (by decide) bw_561 rfl d_M_holds_50 ?_
        refine bV.iload_n G d_M_holds_53 rfl ?_
        refine bV.ialoadN G 9 0 rfl rfl (by omega) (by omega) d_M_holds_54 ?_
        refine bV.topi (y := (nI (lvS S j))) (hdv.2.2.2.1 _ (by omega)) ?_
        refine bV.icmp_geN (tgt := 90) G d_M_holds_55 (by decide) (by omega) (by omega) (fun c55 => ?_) (fun c55 => ?_)
        · exfalso; omega
        · refine bV.iload_n G d_M_holds_58 rfl ?_
          refine bV.if_neB (tgt := 78) G d_M_holds_59 (by decide) (fun c59 => ?_) (fun c59 => ?_)
          · refine bV.iconst (v := bB true) G d_M_holds_78 (by decide) ?_
            refine bV.goto (tgt := 83) G d_M_holds_79 (by decide) ?_
            refine bV.istore_n G (lv' := [(0, .ref (am 0)), (1, .int (nI (j))), (2, .int (nI (b))), (3, .int (bB (true))), (4, .int (nI (k)))]) d_M_holds_83 (by decide) rfl rfl ?_
            refine bV.iincN G (lv' := [(0, .ref (am 0)), (1, .int (nI (j))), (2, .int (nI (b))), (3, .int (bB (true))), (4, .int (nI (k + 1)))]) d_M_holds_84 rfl (by decide) rfl rfl ?_
            refine bV.goto (tgt := 40) G d_M_holds_87 (by decide) ?_
            exact ih fr1 ln1 tr1 ct1 rw1 dr1 sw1 j b (k + 1) true hcr hdv rfl rfl hj hg16 hb hg24 (by omega) ⟨fun _ => by first | exact ⟨k, by omega, c75⟩ | (obtain ⟨k0, z1, z2⟩ := hh.mp c59; exact ⟨k0, by omega, z2⟩), fun _ => rfl⟩
          · have hrb := rwS_b hs (Nat.le_of_lt hj) (show k < lvS S j by omega)
            refine bV.aload_n G d_M_holds_62 rfl ?_
            refine bV.getf G cl_M 0 17 rfl (by decide) bw_562 rfl d_M_holds_63 ?_
            refine bV.bipush (v := nI 8) G d_M_holds_66 (by decide) ?_
            refine bV.iload_n G d_M_holds_68 rfl ?_
            refine bV.imulN G d_M_holds_69 ?_
            refine bV.iload G d_M_holds_70 rfl ?_
            refine bV.iaddN G d_M_holds_72 ?_
            refine bV.ialoadN G 10 0 rfl rfl (by omega) (by omega) d_M_holds_73 ?_
            refine bV.topi (y := (nI (sRw S j k))) (hdv.2.2.2.2.1 j k (by omega) (by omega)) ?_
            refine bV.iload_n G d_M_holds_74 rfl ?_
            refine bV.icmp_neN (tgt := 82) G d_M_holds_75 (by decide) (by omega) (by omega) (fun c75 => ?_) (fun c75 => ?_)
            · refine bV.iconst (v := bB false) G d_M_holds_82 (by decide) ?_
              refine bV.istore_n G (lv' := [(0, .ref (am 0)), (1, .int (nI (j))), (2, .int (nI (b))), (3, .int (bB (false))), (4, .int (nI (k)))]) d_M_holds_83 (by decide) rfl rfl ?_
              refine bV.iincN G (lv' := [(0, .ref (am 0)), (1, .int (nI (j))), (2, .int (nI (b))), (3, .int (bB (false))), (4, .int (nI (k + 1)))]) d_M_holds_84 rfl (by decide) rfl rfl ?_
              refine bV.goto (tgt := 40) G d_M_holds_87 (by decide) ?_
              exact ih fr1 ln1 tr1 ct1 rw1 dr1 sw1 j b (k + 1) false hcr hdv rfl rfl hj hg16 hb hg24 (by omega) ⟨fun z => (by cases z), fun ⟨k0, z1, z2⟩ => by rcases Nat.lt_or_ge k0 k with y | y; exact absurd (hh.mpr ⟨k0, y, z2⟩) (by rw [c59]; decide); obtain rfl : k0 = k := (by omega); exact absurd z2 c75⟩
            · refine bV.iconst (v := bB true) G d_M_holds_78 (by decide) ?_
              refine bV.goto (tgt := 83) G d_M_holds_79 (by decide) ?_
              refine bV.istore_n G (lv' := [(0, .ref (am 0)), (1, .int (nI (j))), (2, .int (nI (b))), (3, .int (bB (true))), (4, .int (nI (k)))]) d_M_holds_83 (by decide) rfl rfl ?_
              refine bV.iincN G (lv' := [(0, .ref (am 0)), (1, .int (nI (j))), (2, .int (nI (b))), (3, .int (bB (true))), (4, .int (nI (k + 1)))]) d_M_holds_84 rfl (by decide) rfl rfl ?_
              refine bV.goto (tgt := 40) G d_M_holds_87 (by decide) ?_
              exact ih fr1 ln1 tr1 ct1 rw1 dr1 sw1 j b (k + 1) true hcr hdv rfl rfl hj hg16 hb hg24 (by omega) ⟨fun _ => by first | exact ⟨k, by omega, c75⟩ | (obtain ⟨k0, z1, z2⟩ := hh.mp c59; exact ⟨k0, by omega, z2⟩), fun _ => rfl⟩
  refine bV.aload_n G d_M_holds_0 rfl ?_
  refine bV.iconst (v := nI 2) G d_M_holds_1 (by decide) ?_
  refine bV.callVi G m_M_isReady bw_619 bw_s26 bw_617 (c_M_isReady (f := 2) hRl hok) 0 rfl rfl rfl rfl rfl ⟨by decide, by decide⟩ ⟨by decide, by decide⟩ (Nat.le_of_ble_eq_true rfl) d_M_holds_2 (fun x9 ws9 h9 => ?_)
  rcases h9 with ⟨hcr, rfl, h9e⟩ | ⟨hcr, rfl, fr1, ln1, tr1, ct1, rw1, dr1, sw1, hdv, h9e⟩
  · rw [h9e]
    try dsimp only
    refine bV.if_neB (tgt := 10) G d_M_holds_5 (by decide) (fun c5 => ?_) (fun c5 => ?_)
    · cases c5
    · refine bV.iconst (v := nI 0) G d_M_holds_8 (by decide) ?_
      refine bV.topi (x := nI 0) (y := bB false) (by decide) ?_
      exact bV.iretI G E0 rfl (bB_n _) (by decide) (by decide) d_M_holds_9 (Or.inl ⟨hcr, nb, nv, en, sw, fr, ln, tr, ct, rw, dr, rfl⟩)
  · rw [h9e]
    try dsimp only
    have hs := (hok hcr).s
    have hnb := hs.1
    have hnv := hs.2.1
    have h400 := hRl.1
    refine bV.if_neB (tgt := 10) G d_M_holds_5 (by decide) (fun c5 => ?_) (fun c5 => ?_)
    · refine bV.aload_n G d_M_holds_10 rfl ?_
      refine bV.aload_n G d_M_holds_11 rfl ?_
      refine bV.iload_n G d_M_holds_12 rfl ?_
      refine bV.callVi G m_M_isVersion bw_674 bw_s35 bw_672 (c_M_isVersion (v := v)) 0 rfl rfl rfl rfl rfl ⟨by decide, by decide⟩ ⟨by decide, by decide⟩ (Nat.le_of_ble_eq_true rfl) d_M_holds_13 (fun x9 ws9 h9 => ?_)
      obtain ⟨rfl, h9e⟩ := h9
      rw [h9e]
      try dsimp only
      refine bV.if_eqB (tgt := 31) G d_M_holds_16 (by decide) (fun c16 => ?_) (fun c16 => ?_)
      · have hg16 := of_decide_eq_false c16
        refine bV.iconst (v := nI 1) G d_M_holds_31 (by decide) ?_
        refine bV.putf G (ws' := (wM am cI cZ mp 1 cr fd fo n lo np ps pb ip (sNb S) fr1 ln1 tr1 (sNv S) ct1 rw1 dr1 n sw1 rest)) cl_M 0 0 rfl (by decide) bw_545 rfl rfl rfl (Nat.le_of_ble_eq_true rfl) d_M_holds_32 rfl ?_
        refine bV.iconst (v := bB false) G d_M_holds_35 (by decide) ?_
        refine bV.istore_n G (lv' := [(0, .ref (am 0)), (1, .int (v)), (2, .int (u)), (3, .int (bB (false)))]) d_M_holds_36 (by decide) rfl rfl ?_
        refine bV.iconst (v := nI 0) G d_M_holds_37 (by decide) ?_
        refine bV.istore G (lv' := [(0, .ref (am 0)), (1, .int (v)), (2, .int (u)), (3, .int (bB (false))), (4, .int (nI (0)))]) d_M_holds_38 (by decide) rfl rfl ?_
        refine bV.aload_n G d_M_holds_40 rfl ?_
        refine bV.getf G cl_M 0 0 rfl (by decide) bw_545 rfl d_M_holds_41 ?_
        refine bV.if_neN (tgt := 90) G d_M_holds_44 (by decide) (by omega) (fun c44 => ?_) (fun c44 => ?_)
        · refine bV.iload_n G d_M_holds_90 rfl ?_
          exact bV.iretI G E0 rfl (bB_n _) (by decide) (by decide) d_M_holds_91 (Or.inr (Or.inl ⟨hcr, fun z => by first | exact hg16 z.1 | exact hg24 z.2, (sNb S), (sNv S), n, sw1, fr1, ln1, tr1, ct1, rw1, dr1, rfl⟩))
        · exact absurd c44 (by decide)
      · have hg16 := of_decide_eq_true c16
        obtain ⟨j, hj, rfl⟩ := nI_btw hg16 (by omega)
        refine bV.aload_n G d_M_holds_19 rfl ?_
        refine bV.iload_n G d_M_holds_20 rfl ?_
        refine bV.callVi G m_M_isBlock bw_682 bw_s36 bw_680 (c_M_isBlock (v := u)) 0 rfl rfl rfl rfl rfl ⟨by decide, by decide⟩ ⟨by decide, by decide⟩ (Nat.le_of_ble_eq_true rfl) d_M_holds_21 (fun x9 ws9 h9 => ?_)
        obtain ⟨rfl, h9e⟩ := h9
        rw [h9e]
        try dsimp only
        refine bV.if_eqB (tgt := 31) G d_M_holds_24 (by decide) (fun c24 => ?_) (fun c24 => ?_)
        · have hg24 := of_decide_eq_false c24
          refine bV.iconst (v := nI 1) G d_M_holds_31 (by decide) ?_
          refine bV.putf G (ws' := (wM am cI cZ mp 1 cr fd fo n lo np ps pb ip (sNb S) fr1 ln1 tr1 (sNv S) ct1 rw1 dr1 n sw1 rest)) cl_M 0 0 rfl (by decide) bw_545 rfl rfl rfl (Nat.le_of_ble_eq_true rfl) d_M_holds_32 rfl ?_
          refine bV.iconst (v := bB false) G d_M_holds_35 (by decide) ?_
          refine bV.istore_n G (lv' := [(0, .ref (am 0)), (1, .int (nI (j))), (2, .int (u)), (3, .int (bB (false)))]) d_M_holds_36 (by decide) rfl rfl ?_
          refine bV.iconst (v := nI 0) G d_M_holds_37 (by decide) ?_
          refine bV.istore G (lv' := [(0, .ref (am 0)), (1, .int (nI (j))), (2, .int (u)), (3, .int (bB (false))), (4, .int (nI (0)))]) d_M_holds_38 (by decide) rfl rfl ?_
          refine bV.aload_n G d_M_holds_40 rfl ?_
          refine bV.getf G cl_M 0 0 rfl (by decide) bw_545 rfl d_M_holds_41 ?_
          refine bV.if_neN (tgt := 90) G d_M_holds_44 (by decide) (by omega) (fun c44 => ?_) (fun c44 => ?_)
          · refine bV.iload_n G d_M_holds_90 rfl ?_
            exact bV.iretI G E0 rfl (bB_n _) (by decide) (by decide) d_M_holds_91 (Or.inr (Or.inl ⟨hcr, fun z => by first | exact hg16 z.1 | exact hg24 z.2, (sNb S), (sNv S), n, sw1, fr1, ln1, tr1, ct1, rw1, dr1, rfl⟩))
          · exact absurd c44 (by decide)
        · have hg24 := of_decide_eq_true c24
          obtain ⟨b, hb, rfl⟩ := nI_btw hg24 (by omega)
          refine bV.iconst (v := nI 0) G d_M_holds_27 (by decide) ?_
          refine bV.goto (tgt := 32) G d_M_holds_28 (by decide) ?_
          refine bV.putf G (ws' := (wM am cI cZ mp 0 cr fd fo n lo np ps pb ip (sNb S) fr1 ln1 tr1 (sNv S) ct1 rw1 dr1 n sw1 rest)) cl_M 0 0 rfl (by decide) bw_545 rfl rfl rfl (Nat.le_of_ble_eq_true rfl) d_M_holds_32 rfl ?_
          refine bV.iconst (v := bB false) G d_M_holds_35 (by decide) ?_
          refine bV.istore_n G (lv' := [(0, .ref (am 0)), (1, .int (nI (j))), (2, .int (nI (b))), (3, .int (bB (false)))]) d_M_holds_36 (by decide) rfl rfl ?_
          refine bV.iconst (v := nI 0) G d_M_holds_37 (by decide) ?_
          refine bV.istore G (lv' := [(0, .ref (am 0)), (1, .int (nI (j))), (2, .int (nI (b))), (3, .int (bB (false))), (4, .int (nI (0)))]) d_M_holds_38 (by decide) rfl rfl ?_
          exact loop (lvS S j) fr1 ln1 tr1 ct1 rw1 dr1 sw1 j b 0 false hcr hdv rfl rfl hj hg16 hb hg24 (by omega) ⟨fun z => (by cases z), fun ⟨k0, z1, _⟩ => absurd z1 (Nat.not_lt_zero _)⟩
    · cases c5
theorem d_M_root_0 : decode b_M_root 0 = .ok (.aload_n 0, 1) := by decide +kernel
theorem d_M_root_1 : decode b_M_root 1 = .ok (.iconst 2, 1) := by decide +kernel
theorem d_M_root_2 : decode b_M_root 2 = .ok (.invokevirtual 91, 3) := by decide +kernel
theorem d_M_root_5 : decode b_M_root 5 = .ok (.ifCond .ne 5, 3) := by decide +kernel
theorem d_M_root_8 : decode b_M_root 8 = .ok (.iconst 0, 1) := by decide +kernel
theorem d_M_root_9 : decode b_M_root 9 = .ok (.ireturn, 1) := by decide +kernel
theorem d_M_root_10 : decode b_M_root 10 = .ok (.aload_n 0, 1) := by decide +kernel
theorem d_M_root_11 : decode b_M_root 11 = .ok (.aload_n 0, 1) := by decide +kernel
theorem d_M_root_12 : decode b_M_root 12 = .ok (.iload_n 1, 1) := by decide +kernel
theorem d_M_root_13 : decode b_M_root 13 = .ok (.invokevirtual 106, 3) := by decide +kernel
theorem d_M_root_16 : decode b_M_root 16 = .ok (.ifCond .eq 7, 3) := by decide +kernel
theorem d_M_root_19 : decode b_M_root 19 = .ok (.iconst 0, 1) := by decide +kernel
theorem d_M_root_20 : decode b_M_root 20 = .ok (.goto 4, 3) := by decide +kernel
theorem d_M_root_23 : decode b_M_root 23 = .ok (.iconst 1, 1) := by decide +kernel
theorem d_M_root_24 : decode b_M_root 24 = .ok (.putfield 48, 3) := by decide +kernel
theorem d_M_root_27 : decode b_M_root 27 = .ok (.aload_n 0, 1) := by decide +kernel
theorem d_M_root_28 : decode b_M_root 28 = .ok (.getfield 48, 3) := by decide +kernel
theorem d_M_root_31 : decode b_M_root 31 = .ok (.ifCond .eq 5, 3) := by decide +kernel
theorem d_M_root_34 : decode b_M_root 34 = .ok (.iconst 0, 1) := by decide +kernel
theorem d_M_root_35 : decode b_M_root 35 = .ok (.ireturn, 1) := by decide +kernel
theorem d_M_root_36 : decode b_M_root 36 = .ok (.iconst 1, 1) := by decide +kernel
theorem d_M_root_37 : decode b_M_root 37 = .ok (.istore_n 2, 1) := by decide +kernel
theorem d_M_root_38 : decode b_M_root 38 = .ok (.iconst 0, 1) := by decide +kernel
theorem d_M_root_39 : decode b_M_root 39 = .ok (.istore_n 3, 1) := by decide +kernel
theorem d_M_root_40 : decode b_M_root 40 = .ok (.iload_n 3, 1) := by decide +kernel
theorem d_M_root_41 : decode b_M_root 41 = .ok (.aload_n 0, 1) := by decide +kernel
theorem d_M_root_42 : decode b_M_root 42 = .ok (.getfield 35, 3) := by decide +kernel
theorem d_M_root_45 : decode b_M_root 45 = .ok (.iload_n 1, 1) := by decide +kernel
theorem d_M_root_46 : decode b_M_root 46 = .ok (.iaload, 1) := by decide +kernel
theorem d_M_root_47 : decode b_M_root 47 = .ok (.if_icmp .ge 63, 3) := by decide +kernel
theorem d_M_root_50 : decode b_M_root 50 = .ok (.aload_n 0, 1) := by decide +kernel
theorem d_M_root_51 : decode b_M_root 51 = .ok (.getfield 38, 3) := by decide +kernel
theorem d_M_root_54 : decode b_M_root 54 = .ok (.bipush 8, 2) := by decide +kernel
theorem d_M_root_56 : decode b_M_root 56 = .ok (.iload_n 1, 1) := by decide +kernel
theorem d_M_root_57 : decode b_M_root 57 = .ok (.imul, 1) := by decide +kernel
theorem d_M_root_58 : decode b_M_root 58 = .ok (.iload_n 3, 1) := by decide +kernel
theorem d_M_root_59 : decode b_M_root 59 = .ok (.iadd, 1) := by decide +kernel
theorem d_M_root_60 : decode b_M_root 60 = .ok (.iaload, 1) := by decide +kernel
theorem d_M_root_61 : decode b_M_root 61 = .ok (.istore 4, 2) := by decide +kernel
theorem d_M_root_63 : decode b_M_root 63 = .ok (.iconst 0, 1) := by decide +kernel
theorem d_M_root_64 : decode b_M_root 64 = .ok (.istore 5, 2) := by decide +kernel
theorem d_M_root_66 : decode b_M_root 66 = .ok (.iload 5, 2) := by decide +kernel
theorem d_M_root_68 : decode b_M_root 68 = .ok (.aload_n 0, 1) := by decide +kernel
theorem d_M_root_69 : decode b_M_root 69 = .ok (.getfield 29, 3) := by decide +kernel
theorem d_M_root_72 : decode b_M_root 72 = .ok (.iload 4, 2) := by decide +kernel
theorem d_M_root_74 : decode b_M_root 74 = .ok (.iaload, 1) := by decide +kernel
theorem d_M_root_75 : decode b_M_root 75 = .ok (.if_icmp .ge 29, 3) := by decide +kernel
theorem d_M_root_78 : decode b_M_root 78 = .ok (.iload_n 2, 1) := by decide +kernel
theorem d_M_root_79 : decode b_M_root 79 = .ok (.aload_n 0, 1) := by decide +kernel
theorem d_M_root_80 : decode b_M_root 80 = .ok (.getfield 13, 3) := by decide +kernel
theorem d_M_root_83 : decode b_M_root 83 = .ok (.aload_n 0, 1) := by decide +kernel
theorem d_M_root_84 : decode b_M_root 84 = .ok (.getfield 26, 3) := by decide +kernel
theorem d_M_root_87 : decode b_M_root 87 = .ok (.iload 4, 2) := by decide +kernel
theorem d_M_root_89 : decode b_M_root 89 = .ok (.iaload, 1) := by decide +kernel
theorem d_M_root_90 : decode b_M_root 90 = .ok (.iload 5, 2) := by decide +kernel
theorem d_M_root_92 : decode b_M_root 92 = .ok (.iadd, 1) := by decide +kernel
theorem d_M_root_93 : decode b_M_root 93 = .ok (.iaload, 1) := by decide +kernel
theorem d_M_root_94 : decode b_M_root 94 = .ok (.invokestatic 113, 3) := by decide +kernel
theorem d_M_root_97 : decode b_M_root 97 = .ok (.istore_n 2, 1) := by decide +kernel
theorem d_M_root_98 : decode b_M_root 98 = .ok (.iinc 5 1, 3) := by decide +kernel
theorem d_M_root_101 : decode b_M_root 101 = .ok (.goto (-35), 3) := by decide +kernel
theorem d_M_root_104 : decode b_M_root 104 = .ok (.iinc 3 1, 3) := by decide +kernel
theorem d_M_root_107 : decode b_M_root 107 = .ok (.goto (-67), 3) := by decide +kernel
theorem d_M_root_110 : decode b_M_root 110 = .ok (.iload_n 2, 1) := by decide +kernel
theorem d_M_root_111 : decode b_M_root 111 = .ok (.ireturn, 1) := by decide +kernel
set_option maxRecDepth 20000 in
set_option maxHeartbeats 4000000 in
theorem c_M_root {D : va_G} {cI cZ cJ : ClassId} {am : Nat → Nat} {mp : Nat} {th : Nat} {cr : Bool} {fd : Nat} {fo : Nat → Int32} {n : Nat} {lo : Nat → Int32} {np : Nat} {ps : Nat → Int32} {pb : Nat → Int32} {ip : Nat → Int32} {nb : Nat} {fr : Nat → Int32} {ln : Nat → Int32} {tr : Nat → Int32} {nv : Nat} {ct : Nat → Int32} {rw : Nat → Int32} {dr : Nat → Int32} {en : Nat} {sw : Nat} {rest : va_W} {lg : Nat → Nat} {S : aS} (hRl : lg_R lo n lg) (hok : cr = false → logOk lg n S) {v : Int32} : bC D bcl (tys3 cI cZ cJ) y_M_root ({ frames := 5, cells := 0, slots := 0, locals := 108 }) (wM am cI cZ mp th cr fd fo n lo np ps pb ip nb fr ln tr nv ct rw dr en sw rest) [.ref (am 0), .int (v)] (bI (fun x ws9 => (cr = true ∧ ∃ (nb1 nv1 en1 sw1 : Nat) (fr1 ln1 tr1 ct1 rw1 dr1 : Nat → Int32), ws9 = wM am cI cZ mp 2 cr fd fo n lo np ps pb ip nb1 fr1 ln1 tr1 nv1 ct1 rw1 dr1 en1 sw1 rest) ∨ (cr = false ∧ ¬ (0 ≤ v ∧ v < nI (sNv S)) ∧ ∃ (nb1 nv1 en1 sw1 : Nat) (fr1 ln1 tr1 ct1 rw1 dr1 : Nat → Int32), ws9 = wM am cI cZ mp 1 cr fd fo n lo np ps pb ip nb1 fr1 ln1 tr1 nv1 ct1 rw1 dr1 en1 sw1 rest) ∨ (cr = false ∧ (0 ≤ v ∧ v < nI (sNv S)) ∧ x = rootS (sRw S v.toNatClampNeg) (sLn S) (lbS lg S) (lvS S v.toNatClampNeg) ∧ ∃ (nb1 nv1 en1 sw1 : Nat) (fr1 ln1 tr1 ct1 rw1 dr1 : Nat → Int32), ws9 = wM am cI cZ mp 0 cr fd fo n lo np ps pb ip nb1 fr1 ln1 tr1 nv1 ct1 rw1 dr1 en1 sw1 rest)) bno) := by
  refine bC.of (by decide) m_M_root.1 (Nat.le_of_ble_eq_true rfl) ?_
  intro Γ G E0
  show bV D bcl Γ 6 (wM am cI cZ mp th cr fd fo n lo np ps pb ip nb fr ln tr nv ct rw dr en sw rest) 0 0 0 [(0, .ref (am 0)), (1, .int (v))] []
  have inner : ∀ (d : Nat) (fr1 ln1 tr1 ct1 rw1 dr1 : Nat → Int32) (sw1 : Nat) (j k i : Nat), bV D bcl Γ 6 (wM am cI cZ mp 0 cr fd fo n lo np ps pb ip (sNb S) fr1 ln1 tr1 (sNv S) ct1 rw1 dr1 n sw1 rest) 0 0 104 [(0, .ref (am 0)), (1, .int (nI j)), (2, .int (rootS (sRw S j) (sLn S) (lbS lg S) (k + 1))), (3, .int (nI k))] [] → cr = false → dvR S fr1 ln1 tr1 ct1 rw1 dr1 → j < sNv S → k < lvS S j → d + i = sLn S (sRw S j k) → bV D bcl Γ 6 (wM am cI cZ mp 0 cr fd fo n lo np ps pb ip (sNb S) fr1 ln1 tr1 (sNv S) ct1 rw1 dr1 n sw1 rest) 0 0 66 [(0, .ref (am 0)), (1, .int (nI (j))), (2, .int (sumS (lbS lg S (sRw S j k)) (rootS (sRw S j) (sLn S) (lbS lg S) k) i)), (3, .int (nI (k))), (4, .int (nI (sRw S j k))), (5, .int (nI (i)))] [] := by
    intro d
    induction d with
    | zero =>
      intro fr1 ln1 tr1 ct1 rw1 dr1 sw1 j k i cont hcr hdv hj hk hd
      have hs := (hok hcr).s
      have hnb := hs.1
      have hnv := hs.2.1
      have h400 := hRl.1
      have hl8 := lvS_8 hs (Nat.le_of_lt hj)
      have hrb := rwS_b hs (Nat.le_of_lt hj) hk
      have hfl := hs.2.2.2.2.1 (sRw S j k) hrb
      refine bV.iload G d_M_root_66 rfl ?_
      refine bV.aload_n G d_M_root_68 rfl ?_
      refine bV.getf G cl_M 0 13 rfl (by decide) bw_558 rfl d_M_root_69 ?_
      refine bV.iload G d_M_root_72 rfl ?_
      refine bV.ialoadN G 7 0 rfl rfl (by omega) (by omega) d_M_root_74 ?_
      refine bV.topi (y := (nI (sLn S (sRw S j k)))) (hdv.2.1 _ (by omega)) ?_
      refine bV.icmp_geN (tgt := 104) G d_M_root_75 (by decide) (by omega) (by omega) (fun c75 => ?_) (fun c75 => ?_)
      · refine bV.ltake (lv' := [(0, .ref (am 0)), (1, .int (nI (j))), (2, .int (sumS (lbS lg S (sRw S j k)) (rootS (sRw S j) (sLn S) (lbS lg S) k) i)), (3, .int (nI (k)))]) (ex := [(4, .int (nI (sRw S j k))), (5, .int (nI (i)))]) rfl ?_
        have e : i = sLn S (sRw S j k) := (by omega)
        rw [e]
        exact cont
      · exfalso; omega
    | succ d ih =>
      intro fr1 ln1 tr1 ct1 rw1 dr1 sw1 j k i cont hcr hdv hj hk hd
      have hs := (hok hcr).s
      have hnb := hs.1
      have hnv := hs.2.1
      have h400 := hRl.1
      have hl8 := lvS_8 hs (Nat.le_of_lt hj)
      have hrb := rwS_b hs (Nat.le_of_lt hj) hk
      have hfl := hs.2.2.2.2.1 (sRw S j k) hrb
      refine bV.iload G d_M_root_66 rfl ?_
      refine bV.aload_n G d_M_root_68 rfl ?_
      refine bV.getf G cl_M 0 13 rfl (by decide) bw_558 rfl d_M_root_69 ?_
      refine bV.iload G d_M_root_72 rfl ?_
      refine bV.ialoadN G 7 0 rfl rfl (by omega) (by omega) d_M_root_74 ?_
      refine bV.topi (y := (nI (sLn S (sRw S j k)))) (hdv.2.1 _ (by omega)) ?_
      refine bV.icmp_geN (tgt := 104) G d_M_root_75 (by decide) (by omega) (by omega) (fun c75 => ?_) (fun c75 => ?_)
      · exfalso; omega
      · refine bV.iload_n G d_M_root_78 rfl ?_
        refine bV.aload_n G d_M_root_79 rfl ?_
        refine bV.getf G cl_M 0 6 rfl (by decide) bw_551 rfl d_M_root_80 ?_
        refine bV.aload_n G d_M_root_83 rfl ?_
        refine bV.getf G cl_M 0 12 rfl (by decide) bw_557 rfl d_M_root_84 ?_
        refine bV.iload G d_M_root_87 rfl ?_
        refine bV.ialoadN G 6 0 rfl rfl (by omega) (by omega) d_M_root_89 ?_
        refine bV.topi (y := (nI (sFr S (sRw S j k)))) (hdv.1 _ (by omega)) ?_
        refine bV.iload G d_M_root_90 rfl ?_
        refine bV.iaddN G d_M_root_92 ?_
        refine bV.ialoadN G 2 0 rfl rfl (by omega) (by omega) d_M_root_93 ?_
        refine bV.topi (y := (nI (lg ((sFr S (sRw S j k)) + i)))) (hRl.2.1 _ (by omega)) ?_
        refine bV.callSi G m_M_next bw_689 bw_688 (c_M_next (s := sumS (lbS lg S (sRw S j k)) (rootS (sRw S j) (sLn S) (lbS lg S) k) i) (b := nI (lg ((sFr S (sRw S j k)) + i)))) rfl rfl ⟨by decide, by decide⟩ ⟨by decide, by decide⟩ (Nat.le_of_ble_eq_true rfl) d_M_root_94 (fun x9 ws9 h9 => ?_)
        obtain ⟨rfl, h9e⟩ := h9
        rw [h9e]
        try dsimp only
        refine bV.istore_n G (lv' := [(0, .ref (am 0)), (1, .int (nI (j))), (2, .int (nextS (sumS (lbS lg S (sRw S j k)) (rootS (sRw S j) (sLn S) (lbS lg S) k) i) (nI (lg ((sFr S (sRw S j k)) + i))))), (3, .int (nI (k))), (4, .int (nI (sRw S j k))), (5, .int (nI (i)))]) d_M_root_97 (by decide) rfl rfl ?_
        refine bV.iincN G (lv' := [(0, .ref (am 0)), (1, .int (nI (j))), (2, .int (nextS (sumS (lbS lg S (sRw S j k)) (rootS (sRw S j) (sLn S) (lbS lg S) k) i) (nI (lg ((sFr S (sRw S j k)) + i))))), (3, .int (nI (k))), (4, .int (nI (sRw S j k))), (5, .int (nI (i + 1)))]) d_M_root_98 rfl (by decide) rfl rfl ?_
        refine bV.goto (tgt := 66) G d_M_root_101 (by decide) ?_
        exact ih fr1 ln1 tr1 ct1 rw1 dr1 sw1 j k (i + 1) cont hcr hdv hj hk (by omega)
  have loop : ∀ (d : Nat) (fr1 ln1 tr1 ct1 rw1 dr1 : Nat → Int32) (sw1 : Nat) (j k : Nat), cr = false → dvR S fr1 ln1 tr1 ct1 rw1 dr1 → v = nI j → j < sNv S → (0 ≤ v ∧ v < nI (sNv S)) → d + k = lvS S j → bV D bcl Γ 6 (wM am cI cZ mp 0 cr fd fo n lo np ps pb ip (sNb S) fr1 ln1 tr1 (sNv S) ct1 rw1 dr1 n sw1 rest) 0 0 40 [(0, .ref (am 0)), (1, .int (nI (j))), (2, .int (rootS (sRw S j) (sLn S) (lbS lg S) k)), (3, .int (nI (k)))] [] := by
    intro d
    induction d with
    | zero =>
      intro fr1 ln1 tr1 ct1 rw1 dr1 sw1 j k hcr hdv hv hj hg16 hd
      subst hv
      have hs := (hok hcr).s
      have hnb := hs.1
      have hnv := hs.2.1
      have h400 := hRl.1
      have hl8 := lvS_8 hs (Nat.le_of_lt hj)
      refine bV.iload_n G d_M_root_40 rfl ?_
      refine bV.aload_n G d_M_root_41 rfl ?_
      refine bV.getf G cl_M 0 16 rfl (by decide) bw_561 rfl d_M_root_42 ?_
      refine bV.iload_n G d_M_root_45 rfl ?_
      refine bV.ialoadN G 9 0 rfl rfl (by omega) (by omega) d_M_root_46 ?_
      refine bV.topi (y := (nI (lvS S j))) (hdv.2.2.2.1 _ (by omega)) ?_
      refine bV.icmp_geN (tgt := 110) G d_M_root_47 (by decide) (by omega) (by omega) (fun c47 => ?_) (fun c47 => ?_)
      · refine bV.iload_n G d_M_root_110 rfl ?_
        exact bV.iretI G E0 rfl rfl (by decide) (by decide) d_M_root_111 (Or.inr (Or.inr ⟨hcr, hg16, by rw [nI_clamp (by omega), show lvS S j = k by omega], (sNb S), (sNv S), n, sw1, fr1, ln1, tr1, ct1, rw1, dr1, rfl⟩))
      · exfalso; omega
    | succ d ih =>
      intro fr1 ln1 tr1 ct1 rw1 dr1 sw1 j k hcr hdv hv hj hg16 hd
      subst hv
      have hs := (hok hcr).s
      have hnb := hs.1
      have hnv := hs.2.1
      have h400 := hRl.1
      have hl8 := lvS_8 hs (Nat.le_of_lt hj)
      refine bV.iload_n G d_M_root_40 rfl ?_
      refine bV.aload_n G d_M_root_41 rfl ?_
      refine bV.getf G cl_M 0 16 rfl (by decide) bw_561 rfl d_M_root_42 ?_
      refine bV.iload_n G d_M_root_45 rfl ?_
      refine bV.ialoadN G 9 0 rfl rfl (by omega) (by omega) d_M_root_46 ?_
      refine bV.topi (y := (nI (lvS S j))) (hdv.2.2.2.1 _ (by omega)) ?_
      refine bV.icmp_geN (tgt := 110) G d_M_root_47 (by decide) (by omega) (by omega) (fun c47 => ?_) (fun c47 => ?_)
      · exfalso; omega
      · refine bV.aload_n G d_M_root_50 rfl ?_
        refine bV.getf G cl_M 0 17 rfl (by decide) bw_562 rfl d_M_root_51 ?_
        refine bV.bipush (v := nI 8) G d_M_root_54 (by decide) ?_
        refine bV.iload_n G d_M_root_56 rfl ?_
        refine bV.imulN G d_M_root_57 ?_
        refine bV.iload_n G d_M_root_58 rfl ?_
        refine bV.iaddN G d_M_root_59 ?_
        refine bV.ialoadN G 10 0 rfl rfl (by omega) (by omega) d_M_root_60 ?_
        refine bV.topi (y := (nI (sRw S j k))) (hdv.2.2.2.2.1 j k (by omega) (by omega)) ?_
        have hrb := rwS_b hs (Nat.le_of_lt hj) (show k < lvS S j by omega)
        have hfl := hs.2.2.2.2.1 (sRw S j k) hrb
        refine bV.istore G (lv' := [(0, .ref (am 0)), (1, .int (nI (j))), (2, .int (rootS (sRw S j) (sLn S) (lbS lg S) k)), (3, .int (nI (k))), (4, .int (nI (sRw S j k)))]) d_M_root_61 (by decide) rfl rfl ?_
        refine bV.iconst (v := nI 0) G d_M_root_63 (by decide) ?_
        refine bV.istore G (lv' := [(0, .ref (am 0)), (1, .int (nI (j))), (2, .int (rootS (sRw S j) (sLn S) (lbS lg S) k)), (3, .int (nI (k))), (4, .int (nI (sRw S j k))), (5, .int (nI (0)))]) d_M_root_64 (by decide) rfl rfl ?_
        refine inner (sLn S (sRw S j k)) fr1 ln1 tr1 ct1 rw1 dr1 sw1 j k 0 ?_ hcr hdv (by omega) (by omega) (by omega)
        refine bV.iincN G (lv' := [(0, .ref (am 0)), (1, .int (nI (j))), (2, .int (rootS (sRw S j) (sLn S) (lbS lg S) (k + 1))), (3, .int (nI (k + 1)))]) d_M_root_104 rfl (by decide) rfl rfl ?_
        refine bV.goto (tgt := 40) G d_M_root_107 (by decide) ?_
        exact ih fr1 ln1 tr1 ct1 rw1 dr1 sw1 j (k + 1) hcr hdv rfl hj hg16 (by omega)
  refine bV.aload_n G d_M_root_0 rfl ?_
  refine bV.iconst (v := nI 2) G d_M_root_1 (by decide) ?_
  refine bV.callVi G m_M_isReady bw_619 bw_s26 bw_617 (c_M_isReady (f := 2) hRl hok) 0 rfl rfl rfl rfl rfl ⟨by decide, by decide⟩ ⟨by decide, by decide⟩ (Nat.le_of_ble_eq_true rfl) d_M_root_2 (fun x9 ws9 h9 => ?_)
  rcases h9 with ⟨hcr, rfl, h9e⟩ | ⟨hcr, rfl, fr1, ln1, tr1, ct1, rw1, dr1, sw1, hdv, h9e⟩
  · rw [h9e]
    try dsimp only
    refine bV.if_neB (tgt := 10) G d_M_root_5 (by decide) (fun c5 => ?_) (fun c5 => ?_)
    · cases c5
    · refine bV.iconst (v := nI 0) G d_M_root_8 (by decide) ?_
      exact bV.iretI G E0 rfl rfl (by decide) (by decide) d_M_root_9 (Or.inl ⟨hcr, nb, nv, en, sw, fr, ln, tr, ct, rw, dr, rfl⟩)
  · rw [h9e]
    try dsimp only
    have hs := (hok hcr).s
    have hnb := hs.1
    have hnv := hs.2.1
    have h400 := hRl.1
    refine bV.if_neB (tgt := 10) G d_M_root_5 (by decide) (fun c5 => ?_) (fun c5 => ?_)
    · refine bV.aload_n G d_M_root_10 rfl ?_
      refine bV.aload_n G d_M_root_11 rfl ?_
      refine bV.iload_n G d_M_root_12 rfl ?_
      refine bV.callVi G m_M_isVersion bw_674 bw_s35 bw_672 (c_M_isVersion (v := v)) 0 rfl rfl rfl rfl rfl ⟨by decide, by decide⟩ ⟨by decide, by decide⟩ (Nat.le_of_ble_eq_true rfl) d_M_root_13 (fun x9 ws9 h9 => ?_)
      obtain ⟨rfl, h9e⟩ := h9
      rw [h9e]
      try dsimp only
      refine bV.if_eqB (tgt := 23) G d_M_root_16 (by decide) (fun c16 => ?_) (fun c16 => ?_)
      · have hg16 := of_decide_eq_false c16
        refine bV.iconst (v := nI 1) G d_M_root_23 (by decide) ?_
        refine bV.putf G (ws' := (wM am cI cZ mp 1 cr fd fo n lo np ps pb ip (sNb S) fr1 ln1 tr1 (sNv S) ct1 rw1 dr1 n sw1 rest)) cl_M 0 0 rfl (by decide) bw_545 rfl rfl rfl (Nat.le_of_ble_eq_true rfl) d_M_root_24 rfl ?_
        refine bV.aload_n G d_M_root_27 rfl ?_
        refine bV.getf G cl_M 0 0 rfl (by decide) bw_545 rfl d_M_root_28 ?_
        refine bV.if_eqN (tgt := 36) G d_M_root_31 (by decide) (by omega) (fun c31 => ?_) (fun c31 => ?_)
        · exact absurd c31 (by decide)
        · refine bV.iconst (v := nI 0) G d_M_root_34 (by decide) ?_
          exact bV.iretI G E0 rfl rfl (by decide) (by decide) d_M_root_35 (Or.inr (Or.inl ⟨hcr, hg16, (sNb S), (sNv S), n, sw1, fr1, ln1, tr1, ct1, rw1, dr1, rfl⟩))
      · have hg16 := of_decide_eq_true c16
        obtain ⟨j, hj, rfl⟩ := nI_btw hg16 (by omega)
        refine bV.iconst (v := nI 0) G d_M_root_19 (by decide) ?_
        refine bV.goto (tgt := 24) G d_M_root_20 (by decide) ?_
        refine bV.putf G (ws' := (wM am cI cZ mp 0 cr fd fo n lo np ps pb ip (sNb S) fr1 ln1 tr1 (sNv S) ct1 rw1 dr1 n sw1 rest)) cl_M 0 0 rfl (by decide) bw_545 rfl rfl rfl (Nat.le_of_ble_eq_true rfl) d_M_root_24 rfl ?_
        refine bV.aload_n G d_M_root_27 rfl ?_
        refine bV.getf G cl_M 0 0 rfl (by decide) bw_545 rfl d_M_root_28 ?_
        refine bV.if_eqN (tgt := 36) G d_M_root_31 (by decide) (by omega) (fun c31 => ?_) (fun c31 => ?_)
        · refine bV.iconst (v := nI 1) G d_M_root_36 (by decide) ?_
          refine bV.istore_n G (lv' := [(0, .ref (am 0)), (1, .int (nI (j))), (2, .int (nI (1)))]) d_M_root_37 (by decide) rfl rfl ?_
          refine bV.iconst (v := nI 0) G d_M_root_38 (by decide) ?_
          refine bV.istore_n G (lv' := [(0, .ref (am 0)), (1, .int (nI (j))), (2, .int (nI (1))), (3, .int (nI (0)))]) d_M_root_39 (by decide) rfl rfl ?_
          exact loop (lvS S j) fr1 ln1 tr1 ct1 rw1 dr1 sw1 j 0 hcr hdv rfl hj hg16 (by omega)
        · exact absurd c31 (by decide)
    · cases c5
theorem d_M_out_0 : decode b_M_out 0 = .ok (.aload_n 0, 1) := by decide +kernel
theorem d_M_out_1 : decode b_M_out 1 = .ok (.iconst 2, 1) := by decide +kernel
theorem d_M_out_2 : decode b_M_out 2 = .ok (.invokevirtual 91, 3) := by decide +kernel
theorem d_M_out_5 : decode b_M_out 5 = .ok (.ifCond .ne 5, 3) := by decide +kernel
theorem d_M_out_8 : decode b_M_out 8 = .ok (.iconst 0, 1) := by decide +kernel
theorem d_M_out_9 : decode b_M_out 9 = .ok (.ireturn, 1) := by decide +kernel
theorem d_M_out_10 : decode b_M_out 10 = .ok (.aload_n 0, 1) := by decide +kernel
theorem d_M_out_11 : decode b_M_out 11 = .ok (.aload_n 0, 1) := by decide +kernel
theorem d_M_out_12 : decode b_M_out 12 = .ok (.iload_n 1, 1) := by decide +kernel
theorem d_M_out_13 : decode b_M_out 13 = .ok (.invokevirtual 106, 3) := by decide +kernel
theorem d_M_out_16 : decode b_M_out 16 = .ok (.ifCond .eq 11, 3) := by decide +kernel
theorem d_M_out_19 : decode b_M_out 19 = .ok (.iload_n 2, 1) := by decide +kernel
theorem d_M_out_20 : decode b_M_out 20 = .ok (.ifCond .lt 7, 3) := by decide +kernel
theorem d_M_out_23 : decode b_M_out 23 = .ok (.iconst 0, 1) := by decide +kernel
theorem d_M_out_24 : decode b_M_out 24 = .ok (.goto 4, 3) := by decide +kernel
theorem d_M_out_27 : decode b_M_out 27 = .ok (.iconst 1, 1) := by decide +kernel
theorem d_M_out_28 : decode b_M_out 28 = .ok (.putfield 48, 3) := by decide +kernel
theorem d_M_out_31 : decode b_M_out 31 = .ok (.aload_n 0, 1) := by decide +kernel
theorem d_M_out_32 : decode b_M_out 32 = .ok (.getfield 48, 3) := by decide +kernel
theorem d_M_out_35 : decode b_M_out 35 = .ok (.ifCond .eq 5, 3) := by decide +kernel
theorem d_M_out_38 : decode b_M_out 38 = .ok (.iconst 0, 1) := by decide +kernel
theorem d_M_out_39 : decode b_M_out 39 = .ok (.ireturn, 1) := by decide +kernel
theorem d_M_out_40 : decode b_M_out 40 = .ok (.iload_n 2, 1) := by decide +kernel
theorem d_M_out_41 : decode b_M_out 41 = .ok (.istore_n 3, 1) := by decide +kernel
theorem d_M_out_42 : decode b_M_out 42 = .ok (.iconst 0, 1) := by decide +kernel
theorem d_M_out_43 : decode b_M_out 43 = .ok (.istore 4, 2) := by decide +kernel
theorem d_M_out_45 : decode b_M_out 45 = .ok (.iload 4, 2) := by decide +kernel
theorem d_M_out_47 : decode b_M_out 47 = .ok (.aload_n 0, 1) := by decide +kernel
theorem d_M_out_48 : decode b_M_out 48 = .ok (.getfield 35, 3) := by decide +kernel
theorem d_M_out_51 : decode b_M_out 51 = .ok (.iload_n 1, 1) := by decide +kernel
theorem d_M_out_52 : decode b_M_out 52 = .ok (.iaload, 1) := by decide +kernel
theorem d_M_out_53 : decode b_M_out 53 = .ok (.if_icmp .ge 59, 3) := by decide +kernel
theorem d_M_out_56 : decode b_M_out 56 = .ok (.aload_n 0, 1) := by decide +kernel
theorem d_M_out_57 : decode b_M_out 57 = .ok (.getfield 38, 3) := by decide +kernel
theorem d_M_out_60 : decode b_M_out 60 = .ok (.bipush 8, 2) := by decide +kernel
theorem d_M_out_62 : decode b_M_out 62 = .ok (.iload_n 1, 1) := by decide +kernel
theorem d_M_out_63 : decode b_M_out 63 = .ok (.imul, 1) := by decide +kernel
theorem d_M_out_64 : decode b_M_out 64 = .ok (.iload 4, 2) := by decide +kernel
theorem d_M_out_66 : decode b_M_out 66 = .ok (.iadd, 1) := by decide +kernel
theorem d_M_out_67 : decode b_M_out 67 = .ok (.iaload, 1) := by decide +kernel
theorem d_M_out_68 : decode b_M_out 68 = .ok (.istore 5, 2) := by decide +kernel
theorem d_M_out_70 : decode b_M_out 70 = .ok (.iload_n 3, 1) := by decide +kernel
theorem d_M_out_71 : decode b_M_out 71 = .ok (.aload_n 0, 1) := by decide +kernel
theorem d_M_out_72 : decode b_M_out 72 = .ok (.getfield 29, 3) := by decide +kernel
theorem d_M_out_75 : decode b_M_out 75 = .ok (.iload 5, 2) := by decide +kernel
theorem d_M_out_77 : decode b_M_out 77 = .ok (.iaload, 1) := by decide +kernel
theorem d_M_out_78 : decode b_M_out 78 = .ok (.if_icmp .ge 18, 3) := by decide +kernel
theorem d_M_out_81 : decode b_M_out 81 = .ok (.aload_n 0, 1) := by decide +kernel
theorem d_M_out_82 : decode b_M_out 82 = .ok (.getfield 13, 3) := by decide +kernel
theorem d_M_out_85 : decode b_M_out 85 = .ok (.aload_n 0, 1) := by decide +kernel
theorem d_M_out_86 : decode b_M_out 86 = .ok (.getfield 26, 3) := by decide +kernel
theorem d_M_out_89 : decode b_M_out 89 = .ok (.iload 5, 2) := by decide +kernel
theorem d_M_out_91 : decode b_M_out 91 = .ok (.iaload, 1) := by decide +kernel
theorem d_M_out_92 : decode b_M_out 92 = .ok (.iload_n 3, 1) := by decide +kernel
theorem d_M_out_93 : decode b_M_out 93 = .ok (.iadd, 1) := by decide +kernel
theorem d_M_out_94 : decode b_M_out 94 = .ok (.iaload, 1) := by decide +kernel
theorem d_M_out_95 : decode b_M_out 95 = .ok (.ireturn, 1) := by decide +kernel
theorem d_M_out_96 : decode b_M_out 96 = .ok (.iload_n 3, 1) := by decide +kernel
theorem d_M_out_97 : decode b_M_out 97 = .ok (.aload_n 0, 1) := by decide +kernel
theorem d_M_out_98 : decode b_M_out 98 = .ok (.getfield 29, 3) := by decide +kernel
theorem d_M_out_101 : decode b_M_out 101 = .ok (.iload 5, 2) := by decide +kernel
theorem d_M_out_103 : decode b_M_out 103 = .ok (.iaload, 1) := by decide +kernel
theorem d_M_out_104 : decode b_M_out 104 = .ok (.isub, 1) := by decide +kernel
theorem d_M_out_105 : decode b_M_out 105 = .ok (.istore_n 3, 1) := by decide +kernel
theorem d_M_out_106 : decode b_M_out 106 = .ok (.iinc 4 1, 3) := by decide +kernel
theorem d_M_out_109 : decode b_M_out 109 = .ok (.goto (-64), 3) := by decide +kernel
theorem d_M_out_112 : decode b_M_out 112 = .ok (.iconst (-1), 1) := by decide +kernel
theorem d_M_out_113 : decode b_M_out 113 = .ok (.ireturn, 1) := by decide +kernel
set_option maxRecDepth 20000 in
set_option maxHeartbeats 4000000 in
theorem c_M_out {D : va_G} {cI cZ cJ : ClassId} {am : Nat → Nat} {mp : Nat} {th : Nat} {cr : Bool} {fd : Nat} {fo : Nat → Int32} {n : Nat} {lo : Nat → Int32} {np : Nat} {ps : Nat → Int32} {pb : Nat → Int32} {ip : Nat → Int32} {nb : Nat} {fr : Nat → Int32} {ln : Nat → Int32} {tr : Nat → Int32} {nv : Nat} {ct : Nat → Int32} {rw : Nat → Int32} {dr : Nat → Int32} {en : Nat} {sw : Nat} {rest : va_W} {lg : Nat → Nat} {S : aS} (hRl : lg_R lo n lg) (hok : cr = false → logOk lg n S) {v u : Int32} : bC D bcl (tys3 cI cZ cJ) y_M_out ({ frames := 5, cells := 0, slots := 0, locals := 108 }) (wM am cI cZ mp th cr fd fo n lo np ps pb ip nb fr ln tr nv ct rw dr en sw rest) [.ref (am 0), .int (v), .int (u)] (bI (fun x ws9 => (cr = true ∧ ∃ (nb1 nv1 en1 sw1 : Nat) (fr1 ln1 tr1 ct1 rw1 dr1 : Nat → Int32), ws9 = wM am cI cZ mp 2 cr fd fo n lo np ps pb ip nb1 fr1 ln1 tr1 nv1 ct1 rw1 dr1 en1 sw1 rest) ∨ (cr = false ∧ ¬ ((0 ≤ v ∧ v < nI (sNv S)) ∧ 0 ≤ u) ∧ ∃ (nb1 nv1 en1 sw1 : Nat) (fr1 ln1 tr1 ct1 rw1 dr1 : Nat → Int32), ws9 = wM am cI cZ mp 1 cr fd fo n lo np ps pb ip nb1 fr1 ln1 tr1 nv1 ct1 rw1 dr1 en1 sw1 rest) ∨ (cr = false ∧ ((0 ≤ v ∧ v < nI (sNv S)) ∧ 0 ≤ u) ∧ x = outS (sRw S v.toNatClampNeg) (sLn S) (lbS lg S) (lvS S v.toNatClampNeg) 0 u.toNatClampNeg ∧ ∃ (nb1 nv1 en1 sw1 : Nat) (fr1 ln1 tr1 ct1 rw1 dr1 : Nat → Int32), ws9 = wM am cI cZ mp 0 cr fd fo n lo np ps pb ip nb1 fr1 ln1 tr1 nv1 ct1 rw1 dr1 en1 sw1 rest)) bno) := by
  refine bC.of (by decide) m_M_out.1 (Nat.le_of_ble_eq_true rfl) ?_
  intro Γ G E0
  show bV D bcl Γ 6 (wM am cI cZ mp th cr fd fo n lo np ps pb ip nb fr ln tr nv ct rw dr en sw rest) 0 0 0 [(0, .ref (am 0)), (1, .int (v)), (2, .int (u))] []
  have loop : ∀ (d : Nat) (fr1 ln1 tr1 ct1 rw1 dr1 : Nat → Int32) (sw1 : Nat) (j i e k : Nat), cr = false → dvR S fr1 ln1 tr1 ct1 rw1 dr1 → v = nI j → u = nI i → j < sNv S → (0 ≤ v ∧ v < nI (sNv S)) → i < 2 ^ 31 → e < 2 ^ 31 → 0 ≤ u → d + k = lvS S j → outS (sRw S j) (sLn S) (lbS lg S) (lvS S j) 0 i = outS (sRw S j) (sLn S) (lbS lg S) d k e → bV D bcl Γ 6 (wM am cI cZ mp 0 cr fd fo n lo np ps pb ip (sNb S) fr1 ln1 tr1 (sNv S) ct1 rw1 dr1 n sw1 rest) 0 0 45 [(0, .ref (am 0)), (1, .int (nI (j))), (2, .int (nI (i))), (3, .int (nI (e))), (4, .int (nI (k)))] [] := by
    intro d
    induction d with
    | zero =>
      intro fr1 ln1 tr1 ct1 rw1 dr1 sw1 j i e k hcr hdv hv hu hj hg16 hi he hg20 hd hout
      subst hv
      subst hu
      have hs := (hok hcr).s
      have hnb := hs.1
      have hnv := hs.2.1
      have h400 := hRl.1
      have hl8 := lvS_8 hs (Nat.le_of_lt hj)
      refine bV.iload G d_M_out_45 rfl ?_
      refine bV.aload_n G d_M_out_47 rfl ?_
      refine bV.getf G cl_M 0 16 rfl (by decide) bw_561 rfl d_M_out_48 ?_
      refine bV.iload_n G d_M_out_51 rfl ?_
      refine bV.ialoadN G 9 0 rfl rfl (by omega) (by omega) d_M_out_52 ?_
      refine bV.topi (y := (nI (lvS S j))) (hdv.2.2.2.1 _ (by omega)) ?_
      refine bV.icmp_geN (tgt := 112) G d_M_out_53 (by decide) (by omega) (by omega) (fun c53 => ?_) (fun c53 => ?_)
      · refine bV.iconst (v := (-1)) G d_M_out_112 (by decide) ?_
        exact bV.iretI G E0 rfl rfl (by decide) (by decide) d_M_out_113 (Or.inr (Or.inr ⟨hcr, ⟨hg16, hg20⟩, by rw [nI_clamp (by omega), nI_clamp (by omega)]; rw [hout]; rfl, (sNb S), (sNv S), n, sw1, fr1, ln1, tr1, ct1, rw1, dr1, rfl⟩))
      · exfalso; omega
    | succ d ih =>
      intro fr1 ln1 tr1 ct1 rw1 dr1 sw1 j i e k hcr hdv hv hu hj hg16 hi he hg20 hd hout
      subst hv
      subst hu
      have hs := (hok hcr).s
      have hnb := hs.1
      have hnv := hs.2.1
      have h400 := hRl.1
      have hl8 := lvS_8 hs (Nat.le_of_lt hj)
      refine bV.iload G d_M_out_45 rfl ?_
      refine bV.aload_n G d_M_out_47 rfl ?_
      refine bV.getf G cl_M 0 16 rfl (by decide) bw_561 rfl d_M_out_48 ?_
      refine bV.iload_n G d_M_out_51 rfl ?_
      refine bV.ialoadN G 9 0 rfl rfl (by omega) (by omega) d_M_out_52 ?_
      refine bV.topi (y := (nI (lvS S j))) (hdv.2.2.2.1 _ (by omega)) ?_
      refine bV.icmp_geN (tgt := 112) G d_M_out_53 (by decide) (by omega) (by omega) (fun c53 => ?_) (fun c53 => ?_)
      · exfalso; omega
      · refine bV.aload_n G d_M_out_56 rfl ?_
        refine bV.getf G cl_M 0 17 rfl (by decide) bw_562 rfl d_M_out_57 ?_
        refine bV.bipush (v := nI 8) G d_M_out_60 (by decide) ?_
        refine bV.iload_n G d_M_out_62 rfl ?_
        refine bV.imulN G d_M_out_63 ?_
        refine bV.iload G d_M_out_64 rfl ?_
        refine bV.iaddN G d_M_out_66 ?_
        refine bV.ialoadN G 10 0 rfl rfl (by omega) (by omega) d_M_out_67 ?_
        refine bV.topi (y := (nI (sRw S j k))) (hdv.2.2.2.2.1 j k (by omega) (by omega)) ?_
        have hrb := rwS_b hs (Nat.le_of_lt hj) (show k < lvS S j by omega)
        have hfl := hs.2.2.2.2.1 (sRw S j k) hrb
        refine bV.istore G (lv' := [(0, .ref (am 0)), (1, .int (nI (j))), (2, .int (nI (i))), (3, .int (nI (e))), (4, .int (nI (k))), (5, .int (nI (sRw S j k)))]) d_M_out_68 (by decide) rfl rfl ?_
        refine bV.iload_n G d_M_out_70 rfl ?_
        refine bV.aload_n G d_M_out_71 rfl ?_
        refine bV.getf G cl_M 0 13 rfl (by decide) bw_558 rfl d_M_out_72 ?_
        refine bV.iload G d_M_out_75 rfl ?_
        refine bV.ialoadN G 7 0 rfl rfl (by omega) (by omega) d_M_out_77 ?_
        refine bV.topi (y := (nI (sLn S (sRw S j k)))) (hdv.2.1 _ (by omega)) ?_
        refine bV.icmp_geN (tgt := 96) G d_M_out_78 (by decide) (by omega) (by omega) (fun c78 => ?_) (fun c78 => ?_)
        · refine bV.iload_n G d_M_out_96 rfl ?_
          refine bV.aload_n G d_M_out_97 rfl ?_
          refine bV.getf G cl_M 0 13 rfl (by decide) bw_558 rfl d_M_out_98 ?_
          refine bV.iload G d_M_out_101 rfl ?_
          refine bV.ialoadN G 7 0 rfl rfl (by omega) (by omega) d_M_out_103 ?_
          refine bV.topi (y := (nI (sLn S (sRw S j k)))) (hdv.2.1 _ (by omega)) ?_
          refine bV.isubN G d_M_out_104 (by omega) ?_
          refine bV.istore_n G (lv' := [(0, .ref (am 0)), (1, .int (nI (j))), (2, .int (nI (i))), (3, .int (nI (e - (sLn S (sRw S j k))))), (4, .int (nI (k))), (5, .int (nI (sRw S j k)))]) d_M_out_105 (by decide) rfl rfl ?_
          refine bV.iincN G (lv' := [(0, .ref (am 0)), (1, .int (nI (j))), (2, .int (nI (i))), (3, .int (nI (e - (sLn S (sRw S j k))))), (4, .int (nI (k + 1))), (5, .int (nI (sRw S j k)))]) d_M_out_106 rfl (by decide) rfl rfl ?_
          refine bV.goto (tgt := 45) G d_M_out_109 (by decide) ?_
          refine bV.ltake (lv' := [(0, .ref (am 0)), (1, .int (nI (j))), (2, .int (nI (i))), (3, .int (nI (e - (sLn S (sRw S j k))))), (4, .int (nI (k + 1)))]) (ex := [(5, .int (nI (sRw S j k)))]) rfl ?_
          exact ih fr1 ln1 tr1 ct1 rw1 dr1 sw1 j i (e - sLn S (sRw S j k)) (k + 1) hcr hdv rfl rfl hj hg16 hi (by omega) hg20 (by omega) (hout.trans (if_neg (by omega)))
        · refine bV.aload_n G d_M_out_81 rfl ?_
          refine bV.getf G cl_M 0 6 rfl (by decide) bw_551 rfl d_M_out_82 ?_
          refine bV.aload_n G d_M_out_85 rfl ?_
          refine bV.getf G cl_M 0 12 rfl (by decide) bw_557 rfl d_M_out_86 ?_
          refine bV.iload G d_M_out_89 rfl ?_
          refine bV.ialoadN G 6 0 rfl rfl (by omega) (by omega) d_M_out_91 ?_
          refine bV.topi (y := (nI (sFr S (sRw S j k)))) (hdv.1 _ (by omega)) ?_
          refine bV.iload_n G d_M_out_92 rfl ?_
          refine bV.iaddN G d_M_out_93 ?_
          refine bV.ialoadN G 2 0 rfl rfl (by omega) (by omega) d_M_out_94 ?_
          refine bV.topi (y := (nI (lg ((sFr S (sRw S j k)) + e)))) (hRl.2.1 _ (by omega)) ?_
          exact bV.iretI G E0 rfl rfl (by decide) (by decide) d_M_out_95 (Or.inr (Or.inr ⟨hcr, ⟨hg16, hg20⟩, by rw [nI_clamp (by omega), nI_clamp (by omega)]; rw [hout]; exact (if_pos (Nat.lt_of_not_le c78)).symm, (sNb S), (sNv S), n, sw1, fr1, ln1, tr1, ct1, rw1, dr1, rfl⟩))
  refine bV.aload_n G d_M_out_0 rfl ?_
  refine bV.iconst (v := nI 2) G d_M_out_1 (by decide) ?_
  refine bV.callVi G m_M_isReady bw_619 bw_s26 bw_617 (c_M_isReady (f := 2) hRl hok) 0 rfl rfl rfl rfl rfl ⟨by decide, by decide⟩ ⟨by decide, by decide⟩ (Nat.le_of_ble_eq_true rfl) d_M_out_2 (fun x9 ws9 h9 => ?_)
  rcases h9 with ⟨hcr, rfl, h9e⟩ | ⟨hcr, rfl, fr1, ln1, tr1, ct1, rw1, dr1, sw1, hdv, h9e⟩
  · rw [h9e]
    try dsimp only
    refine bV.if_neB (tgt := 10) G d_M_out_5 (by decide) (fun c5 => ?_) (fun c5 => ?_)
    · cases c5
    · refine bV.iconst (v := nI 0) G d_M_out_8 (by decide) ?_
      exact bV.iretI G E0 rfl rfl (by decide) (by decide) d_M_out_9 (Or.inl ⟨hcr, nb, nv, en, sw, fr, ln, tr, ct, rw, dr, rfl⟩)
  · rw [h9e]
    try dsimp only
    have hs := (hok hcr).s
    have hnb := hs.1
    have hnv := hs.2.1
    have h400 := hRl.1
    refine bV.if_neB (tgt := 10) G d_M_out_5 (by decide) (fun c5 => ?_) (fun c5 => ?_)
    · refine bV.aload_n G d_M_out_10 rfl ?_
      refine bV.aload_n G d_M_out_11 rfl ?_
      refine bV.iload_n G d_M_out_12 rfl ?_
      refine bV.callVi G m_M_isVersion bw_674 bw_s35 bw_672 (c_M_isVersion (v := v)) 0 rfl rfl rfl rfl rfl ⟨by decide, by decide⟩ ⟨by decide, by decide⟩ (Nat.le_of_ble_eq_true rfl) d_M_out_13 (fun x9 ws9 h9 => ?_)
      obtain ⟨rfl, h9e⟩ := h9
      rw [h9e]
      try dsimp only
      refine bV.if_eqB (tgt := 27) G d_M_out_16 (by decide) (fun c16 => ?_) (fun c16 => ?_)
      · have hg16 := of_decide_eq_false c16
        refine bV.iconst (v := nI 1) G d_M_out_27 (by decide) ?_
        refine bV.putf G (ws' := (wM am cI cZ mp 1 cr fd fo n lo np ps pb ip (sNb S) fr1 ln1 tr1 (sNv S) ct1 rw1 dr1 n sw1 rest)) cl_M 0 0 rfl (by decide) bw_545 rfl rfl rfl (Nat.le_of_ble_eq_true rfl) d_M_out_28 rfl ?_
        refine bV.aload_n G d_M_out_31 rfl ?_
        refine bV.getf G cl_M 0 0 rfl (by decide) bw_545 rfl d_M_out_32 ?_
        refine bV.if_eqN (tgt := 40) G d_M_out_35 (by decide) (by omega) (fun c35 => ?_) (fun c35 => ?_)
        · exact absurd c35 (by decide)
        · refine bV.iconst (v := nI 0) G d_M_out_38 (by decide) ?_
          exact bV.iretI G E0 rfl rfl (by decide) (by decide) d_M_out_39 (Or.inr (Or.inl ⟨hcr, fun z => by first | exact hg16 z.1 | exact absurd c20 (Int32.not_lt.mpr z.2), (sNb S), (sNv S), n, sw1, fr1, ln1, tr1, ct1, rw1, dr1, rfl⟩))
      · have hg16 := of_decide_eq_true c16
        obtain ⟨j, hj, rfl⟩ := nI_btw hg16 (by omega)
        refine bV.iload_n G d_M_out_19 rfl ?_
        refine bV.if_lt (tgt := 27) G d_M_out_20 (by decide) (fun c20 => ?_) (fun c20 => ?_)
        · refine bV.iconst (v := nI 1) G d_M_out_27 (by decide) ?_
          refine bV.putf G (ws' := (wM am cI cZ mp 1 cr fd fo n lo np ps pb ip (sNb S) fr1 ln1 tr1 (sNv S) ct1 rw1 dr1 n sw1 rest)) cl_M 0 0 rfl (by decide) bw_545 rfl rfl rfl (Nat.le_of_ble_eq_true rfl) d_M_out_28 rfl ?_
          refine bV.aload_n G d_M_out_31 rfl ?_
          refine bV.getf G cl_M 0 0 rfl (by decide) bw_545 rfl d_M_out_32 ?_
          refine bV.if_eqN (tgt := 40) G d_M_out_35 (by decide) (by omega) (fun c35 => ?_) (fun c35 => ?_)
          · exact absurd c35 (by decide)
          · refine bV.iconst (v := nI 0) G d_M_out_38 (by decide) ?_
            exact bV.iretI G E0 rfl rfl (by decide) (by decide) d_M_out_39 (Or.inr (Or.inl ⟨hcr, fun z => by first | exact hg16 z.1 | exact absurd c20 (Int32.not_lt.mpr z.2), (sNb S), (sNv S), n, sw1, fr1, ln1, tr1, ct1, rw1, dr1, rfl⟩))
        · have hg20 := Int32.not_lt.mp c20
          obtain ⟨i, hi, rfl⟩ := nI_of c20
          refine bV.iconst (v := nI 0) G d_M_out_23 (by decide) ?_
          refine bV.goto (tgt := 28) G d_M_out_24 (by decide) ?_
          refine bV.putf G (ws' := (wM am cI cZ mp 0 cr fd fo n lo np ps pb ip (sNb S) fr1 ln1 tr1 (sNv S) ct1 rw1 dr1 n sw1 rest)) cl_M 0 0 rfl (by decide) bw_545 rfl rfl rfl (Nat.le_of_ble_eq_true rfl) d_M_out_28 rfl ?_
          refine bV.aload_n G d_M_out_31 rfl ?_
          refine bV.getf G cl_M 0 0 rfl (by decide) bw_545 rfl d_M_out_32 ?_
          refine bV.if_eqN (tgt := 40) G d_M_out_35 (by decide) (by omega) (fun c35 => ?_) (fun c35 => ?_)
          · refine bV.iload_n G d_M_out_40 rfl ?_
            refine bV.istore_n G (lv' := [(0, .ref (am 0)), (1, .int (nI (j))), (2, .int (nI (i))), (3, .int (nI (i)))]) d_M_out_41 (by decide) rfl rfl ?_
            refine bV.iconst (v := nI 0) G d_M_out_42 (by decide) ?_
            refine bV.istore G (lv' := [(0, .ref (am 0)), (1, .int (nI (j))), (2, .int (nI (i))), (3, .int (nI (i))), (4, .int (nI (0)))]) d_M_out_43 (by decide) rfl rfl ?_
            exact loop (lvS S j) fr1 ln1 tr1 ct1 rw1 dr1 sw1 j i i 0 hcr hdv rfl rfl hj hg16 hi hi hg20 (by omega) rfl
          · exact absurd c35 (by decide)
    · cases c5
theorem d_M_packByte_0 : decode b_M_packByte 0 = .ok (.aload_n 0, 1) := by decide +kernel
theorem d_M_packByte_1 : decode b_M_packByte 1 = .ok (.iconst 2, 1) := by decide +kernel
theorem d_M_packByte_2 : decode b_M_packByte 2 = .ok (.invokevirtual 91, 3) := by decide +kernel
theorem d_M_packByte_5 : decode b_M_packByte 5 = .ok (.ifCond .ne 5, 3) := by decide +kernel
theorem d_M_packByte_8 : decode b_M_packByte 8 = .ok (.iconst 0, 1) := by decide +kernel
theorem d_M_packByte_9 : decode b_M_packByte 9 = .ok (.ireturn, 1) := by decide +kernel
theorem d_M_packByte_10 : decode b_M_packByte 10 = .ok (.aload_n 0, 1) := by decide +kernel
theorem d_M_packByte_11 : decode b_M_packByte 11 = .ok (.aload_n 0, 1) := by decide +kernel
theorem d_M_packByte_12 : decode b_M_packByte 12 = .ok (.iload_n 1, 1) := by decide +kernel
theorem d_M_packByte_13 : decode b_M_packByte 13 = .ok (.iload_n 2, 1) := by decide +kernel
theorem d_M_packByte_14 : decode b_M_packByte 14 = .ok (.invokevirtual 126, 3) := by decide +kernel
theorem d_M_packByte_17 : decode b_M_packByte 17 = .ok (.ifCond .eq 7, 3) := by decide +kernel
theorem d_M_packByte_20 : decode b_M_packByte 20 = .ok (.iconst 0, 1) := by decide +kernel
theorem d_M_packByte_21 : decode b_M_packByte 21 = .ok (.goto 4, 3) := by decide +kernel
theorem d_M_packByte_24 : decode b_M_packByte 24 = .ok (.iconst 1, 1) := by decide +kernel
theorem d_M_packByte_25 : decode b_M_packByte 25 = .ok (.putfield 48, 3) := by decide +kernel
theorem d_M_packByte_28 : decode b_M_packByte 28 = .ok (.aload_n 0, 1) := by decide +kernel
theorem d_M_packByte_29 : decode b_M_packByte 29 = .ok (.getfield 48, 3) := by decide +kernel
theorem d_M_packByte_32 : decode b_M_packByte 32 = .ok (.ifCond .ne 18, 3) := by decide +kernel
theorem d_M_packByte_35 : decode b_M_packByte 35 = .ok (.aload_n 0, 1) := by decide +kernel
theorem d_M_packByte_36 : decode b_M_packByte 36 = .ok (.getfield 19, 3) := by decide +kernel
theorem d_M_packByte_39 : decode b_M_packByte 39 = .ok (.sipush 700, 3) := by decide +kernel
theorem d_M_packByte_42 : decode b_M_packByte 42 = .ok (.iload_n 1, 1) := by decide +kernel
theorem d_M_packByte_43 : decode b_M_packByte 43 = .ok (.imul, 1) := by decide +kernel
theorem d_M_packByte_44 : decode b_M_packByte 44 = .ok (.iload_n 2, 1) := by decide +kernel
theorem d_M_packByte_45 : decode b_M_packByte 45 = .ok (.iadd, 1) := by decide +kernel
theorem d_M_packByte_46 : decode b_M_packByte 46 = .ok (.iaload, 1) := by decide +kernel
theorem d_M_packByte_47 : decode b_M_packByte 47 = .ok (.goto 4, 3) := by decide +kernel
theorem d_M_packByte_50 : decode b_M_packByte 50 = .ok (.iconst 0, 1) := by decide +kernel
theorem d_M_packByte_51 : decode b_M_packByte 51 = .ok (.ireturn, 1) := by decide +kernel
set_option maxRecDepth 20000 in
set_option maxHeartbeats 4000000 in
theorem c_M_packByte {D : va_G} {cI cZ cJ : ClassId} {am : Nat → Nat} {mp : Nat} {th : Nat} {cr : Bool} {fd : Nat} {fo : Nat → Int32} {n : Nat} {lo : Nat → Int32} {np : Nat} {ps : Nat → Int32} {pb : Nat → Int32} {ip : Nat → Int32} {nb : Nat} {fr : Nat → Int32} {ln : Nat → Int32} {tr : Nat → Int32} {nv : Nat} {ct : Nat → Int32} {rw : Nat → Int32} {dr : Nat → Int32} {en : Nat} {sw : Nat} {rest : va_W} {lg : Nat → Nat} {S : aS} (hRl : lg_R lo n lg) (hok : cr = false → logOk lg n S) {ql : Nat → Nat} {qa : Nat → Nat → Nat} {mk : Nat → Bool} (hQ : okQ mp np ql qa mk) (hqR : qR np ql qa ps pb) {v u : Int32} : bC D bcl (tys3 cI cZ cJ) y_M_packByte ({ frames := 5, cells := 0, slots := 0, locals := 108 }) (wM am cI cZ mp th cr fd fo n lo np ps pb ip nb fr ln tr nv ct rw dr en sw rest) [.ref (am 0), .int (v), .int (u)] (bI (fun x ws9 => (cr = true ∧ ∃ (nb1 nv1 en1 sw1 : Nat) (fr1 ln1 tr1 ct1 rw1 dr1 : Nat → Int32), ws9 = wM am cI cZ mp 2 cr fd fo n lo np ps pb ip nb1 fr1 ln1 tr1 nv1 ct1 rw1 dr1 en1 sw1 rest) ∨ (cr = false ∧ ¬ ((0 ≤ v ∧ v < nI np) ∧ 0 ≤ u ∧ u < nI (ql v.toNatClampNeg)) ∧ ∃ (nb1 nv1 en1 sw1 : Nat) (fr1 ln1 tr1 ct1 rw1 dr1 : Nat → Int32), ws9 = wM am cI cZ mp 1 cr fd fo n lo np ps pb ip nb1 fr1 ln1 tr1 nv1 ct1 rw1 dr1 en1 sw1 rest) ∨ (cr = false ∧ ((0 ≤ v ∧ v < nI np) ∧ 0 ≤ u ∧ u < nI (ql v.toNatClampNeg)) ∧ x = nI (qa v.toNatClampNeg u.toNatClampNeg) ∧ ∃ (nb1 nv1 en1 sw1 : Nat) (fr1 ln1 tr1 ct1 rw1 dr1 : Nat → Int32), ws9 = wM am cI cZ mp 0 cr fd fo n lo np ps pb ip nb1 fr1 ln1 tr1 nv1 ct1 rw1 dr1 en1 sw1 rest)) bno) := by
  refine bC.of (by decide) m_M_packByte.1 (Nat.le_of_ble_eq_true rfl) ?_
  intro Γ G E0
  show bV D bcl Γ 3 (wM am cI cZ mp th cr fd fo n lo np ps pb ip nb fr ln tr nv ct rw dr en sw rest) 0 0 0 [(0, .ref (am 0)), (1, .int (v)), (2, .int (u))] []
  refine bV.aload_n G d_M_packByte_0 rfl ?_
  refine bV.iconst (v := nI 2) G d_M_packByte_1 (by decide) ?_
  refine bV.callVi G m_M_isReady bw_619 bw_s26 bw_617 (c_M_isReady (f := 2) hRl hok) 0 rfl rfl rfl rfl rfl ⟨by decide, by decide⟩ ⟨by decide, by decide⟩ (Nat.le_of_ble_eq_true rfl) d_M_packByte_2 (fun x9 ws9 h9 => ?_)
  rcases h9 with ⟨hcr, rfl, h9e⟩ | ⟨hcr, rfl, fr1, ln1, tr1, ct1, rw1, dr1, sw1, hdv, h9e⟩
  · rw [h9e]
    try dsimp only
    refine bV.if_neB (tgt := 10) G d_M_packByte_5 (by decide) (fun c5 => ?_) (fun c5 => ?_)
    · cases c5
    · refine bV.iconst (v := nI 0) G d_M_packByte_8 (by decide) ?_
      exact bV.iretI G E0 rfl rfl (by decide) (by decide) d_M_packByte_9 (Or.inl ⟨hcr, nb, nv, en, sw, fr, ln, tr, ct, rw, dr, rfl⟩)
  · rw [h9e]
    try dsimp only
    have hs := (hok hcr).s
    have hnb := hs.1
    have hnv := hs.2.1
    have h400 := hRl.1
    refine bV.if_neB (tgt := 10) G d_M_packByte_5 (by decide) (fun c5 => ?_) (fun c5 => ?_)
    · refine bV.aload_n G d_M_packByte_10 rfl ?_
      refine bV.aload_n G d_M_packByte_11 rfl ?_
      refine bV.iload_n G d_M_packByte_12 rfl ?_
      refine bV.iload_n G d_M_packByte_13 rfl ?_
      refine bV.callVi G m_M_isPackByte bw_722 bw_s39 bw_720 (c_M_isPackByte (v := v) (u := u) (ql := ql) hqR.1 (fun p hp => okQ_le hQ (Nat.le_of_lt hp)) (Nat.le_trans hQ.1 hQ.2.1)) 0 rfl rfl rfl rfl rfl ⟨by decide, by decide⟩ ⟨by decide, by decide⟩ (Nat.le_of_ble_eq_true rfl) d_M_packByte_14 (fun x9 ws9 h9 => ?_)
      obtain ⟨rfl, h9e⟩ := h9
      rw [h9e]
      try dsimp only
      refine bV.if_eqB (tgt := 24) G d_M_packByte_17 (by decide) (fun c17 => ?_) (fun c17 => ?_)
      · have hg17 := of_decide_eq_false c17
        refine bV.iconst (v := nI 1) G d_M_packByte_24 (by decide) ?_
        refine bV.putf G (ws' := (wM am cI cZ mp 1 cr fd fo n lo np ps pb ip (sNb S) fr1 ln1 tr1 (sNv S) ct1 rw1 dr1 n sw1 rest)) cl_M 0 0 rfl (by decide) bw_545 rfl rfl rfl (Nat.le_of_ble_eq_true rfl) d_M_packByte_25 rfl ?_
        refine bV.aload_n G d_M_packByte_28 rfl ?_
        refine bV.getf G cl_M 0 0 rfl (by decide) bw_545 rfl d_M_packByte_29 ?_
        refine bV.if_neN (tgt := 50) G d_M_packByte_32 (by decide) (by omega) (fun c32 => ?_) (fun c32 => ?_)
        · refine bV.iconst (v := nI 0) G d_M_packByte_50 (by decide) ?_
          exact bV.iretI G E0 rfl rfl (by decide) (by decide) d_M_packByte_51 (Or.inr (Or.inl ⟨hcr, hg17, (sNb S), (sNv S), n, sw1, fr1, ln1, tr1, ct1, rw1, dr1, rfl⟩))
        · exact absurd c32 (by decide)
      · have hg17 := of_decide_eq_true c17
        have hq1 := hQ.1
        have hq2 := hQ.2.1
        obtain ⟨j, hj, rfl⟩ := nI_btw hg17.1 (by omega)
        have hl9 := okQ_le hQ (Nat.le_of_lt hj)
        have hg8 : 0 ≤ u ∧ u < nI (ql j) := ⟨hg17.2.1, by have z3 := hg17.2.2; rw [nI_clamp (by omega)] at z3; exact z3⟩
        obtain ⟨i, hi, rfl⟩ := nI_btw hg8 (by omega)
        refine bV.iconst (v := nI 0) G d_M_packByte_20 (by decide) ?_
        refine bV.goto (tgt := 25) G d_M_packByte_21 (by decide) ?_
        refine bV.putf G (ws' := (wM am cI cZ mp 0 cr fd fo n lo np ps pb ip (sNb S) fr1 ln1 tr1 (sNv S) ct1 rw1 dr1 n sw1 rest)) cl_M 0 0 rfl (by decide) bw_545 rfl rfl rfl (Nat.le_of_ble_eq_true rfl) d_M_packByte_25 rfl ?_
        refine bV.aload_n G d_M_packByte_28 rfl ?_
        refine bV.getf G cl_M 0 0 rfl (by decide) bw_545 rfl d_M_packByte_29 ?_
        refine bV.if_neN (tgt := 50) G d_M_packByte_32 (by decide) (by omega) (fun c32 => ?_) (fun c32 => ?_)
        · exact absurd c32 (by decide)
        · refine bV.aload_n G d_M_packByte_35 rfl ?_
          refine bV.getf G cl_M 0 9 rfl (by decide) bw_554 rfl d_M_packByte_36 ?_
          refine bV.sipush (v := nI 700) G d_M_packByte_39 (by decide) ?_
          refine bV.iload_n G d_M_packByte_42 rfl ?_
          refine bV.imulN G d_M_packByte_43 ?_
          refine bV.iload_n G d_M_packByte_44 rfl ?_
          refine bV.iaddN G d_M_packByte_45 ?_
          refine bV.ialoadN G 4 0 rfl rfl (by omega) (by omega) d_M_packByte_46 ?_
          refine bV.topi (y := (nI (qa j i))) (hqR.2 j i (by omega) (by omega)) ?_
          refine bV.goto (tgt := 51) G d_M_packByte_47 (by decide) ?_
          exact bV.iretI G E0 rfl rfl (by decide) (by decide) d_M_packByte_51 (Or.inr (Or.inr ⟨hcr, hg17, by rw [nI_clamp (by omega), nI_clamp (by omega)], (sNb S), (sNv S), n, sw1, fr1, ln1, tr1, ct1, rw1, dr1, rfl⟩))
    · cases c5
theorem d_M_badAt_0 : decode b_M_badAt 0 = .ok (.aload_n 0, 1) := by decide +kernel
theorem d_M_badAt_1 : decode b_M_badAt 1 = .ok (.iconst 1, 1) := by decide +kernel
theorem d_M_badAt_2 : decode b_M_badAt 2 = .ok (.invokevirtual 91, 3) := by decide +kernel
theorem d_M_badAt_5 : decode b_M_badAt 5 = .ok (.ifCond .ne 5, 3) := by decide +kernel
theorem d_M_badAt_8 : decode b_M_badAt 8 = .ok (.iconst 0, 1) := by decide +kernel
theorem d_M_badAt_9 : decode b_M_badAt 9 = .ok (.ireturn, 1) := by decide +kernel
theorem d_M_badAt_10 : decode b_M_badAt 10 = .ok (.iconst 0, 1) := by decide +kernel
theorem d_M_badAt_11 : decode b_M_badAt 11 = .ok (.istore_n 1, 1) := by decide +kernel
theorem d_M_badAt_12 : decode b_M_badAt 12 = .ok (.iload_n 1, 1) := by decide +kernel
theorem d_M_badAt_13 : decode b_M_badAt 13 = .ok (.aload_n 0, 1) := by decide +kernel
theorem d_M_badAt_14 : decode b_M_badAt 14 = .ok (.getfield 117, 3) := by decide +kernel
theorem d_M_badAt_17 : decode b_M_badAt 17 = .ok (.if_icmp .ge 67, 3) := by decide +kernel
theorem d_M_badAt_20 : decode b_M_badAt 20 = .ok (.aload_n 0, 1) := by decide +kernel
theorem d_M_badAt_21 : decode b_M_badAt 21 = .ok (.iload_n 1, 1) := by decide +kernel
theorem d_M_badAt_22 : decode b_M_badAt 22 = .ok (.invokevirtual 123, 3) := by decide +kernel
theorem d_M_badAt_25 : decode b_M_badAt 25 = .ok (.istore_n 2, 1) := by decide +kernel
theorem d_M_badAt_26 : decode b_M_badAt 26 = .ok (.iconst 0, 1) := by decide +kernel
theorem d_M_badAt_27 : decode b_M_badAt 27 = .ok (.istore_n 3, 1) := by decide +kernel
theorem d_M_badAt_28 : decode b_M_badAt 28 = .ok (.iload_n 3, 1) := by decide +kernel
theorem d_M_badAt_29 : decode b_M_badAt 29 = .ok (.iconst 4, 1) := by decide +kernel
theorem d_M_badAt_30 : decode b_M_badAt 30 = .ok (.if_icmp .ge 48, 3) := by decide +kernel
theorem d_M_badAt_33 : decode b_M_badAt 33 = .ok (.aload_n 0, 1) := by decide +kernel
theorem d_M_badAt_34 : decode b_M_badAt 34 = .ok (.getfield 19, 3) := by decide +kernel
theorem d_M_badAt_37 : decode b_M_badAt 37 = .ok (.sipush 700, 3) := by decide +kernel
theorem d_M_badAt_40 : decode b_M_badAt 40 = .ok (.iload_n 1, 1) := by decide +kernel
theorem d_M_badAt_41 : decode b_M_badAt 41 = .ok (.imul, 1) := by decide +kernel
theorem d_M_badAt_42 : decode b_M_badAt 42 = .ok (.aload_n 0, 1) := by decide +kernel
theorem d_M_badAt_43 : decode b_M_badAt 43 = .ok (.getfield 16, 3) := by decide +kernel
theorem d_M_badAt_46 : decode b_M_badAt 46 = .ok (.iload_n 1, 1) := by decide +kernel
theorem d_M_badAt_47 : decode b_M_badAt 47 = .ok (.iaload, 1) := by decide +kernel
theorem d_M_badAt_48 : decode b_M_badAt 48 = .ok (.iadd, 1) := by decide +kernel
theorem d_M_badAt_49 : decode b_M_badAt 49 = .ok (.iconst 4, 1) := by decide +kernel
theorem d_M_badAt_50 : decode b_M_badAt 50 = .ok (.isub, 1) := by decide +kernel
theorem d_M_badAt_51 : decode b_M_badAt 51 = .ok (.iload_n 3, 1) := by decide +kernel
theorem d_M_badAt_52 : decode b_M_badAt 52 = .ok (.iadd, 1) := by decide +kernel
theorem d_M_badAt_53 : decode b_M_badAt 53 = .ok (.iaload, 1) := by decide +kernel
theorem d_M_badAt_54 : decode b_M_badAt 54 = .ok (.iload_n 2, 1) := by decide +kernel
theorem d_M_badAt_55 : decode b_M_badAt 55 = .ok (.bipush 24, 2) := by decide +kernel
theorem d_M_badAt_57 : decode b_M_badAt 57 = .ok (.bipush 8, 2) := by decide +kernel
theorem d_M_badAt_59 : decode b_M_badAt 59 = .ok (.iload_n 3, 1) := by decide +kernel
theorem d_M_badAt_60 : decode b_M_badAt 60 = .ok (.imul, 1) := by decide +kernel
theorem d_M_badAt_61 : decode b_M_badAt 61 = .ok (.isub, 1) := by decide +kernel
theorem d_M_badAt_62 : decode b_M_badAt 62 = .ok (.ishr, 1) := by decide +kernel
theorem d_M_badAt_63 : decode b_M_badAt 63 = .ok (.sipush 255, 3) := by decide +kernel
theorem d_M_badAt_66 : decode b_M_badAt 66 = .ok (.iand, 1) := by decide +kernel
theorem d_M_badAt_67 : decode b_M_badAt 67 = .ok (.if_icmp .eq 5, 3) := by decide +kernel
theorem d_M_badAt_70 : decode b_M_badAt 70 = .ok (.iload_n 1, 1) := by decide +kernel
theorem d_M_badAt_71 : decode b_M_badAt 71 = .ok (.ireturn, 1) := by decide +kernel
theorem d_M_badAt_72 : decode b_M_badAt 72 = .ok (.iinc 3 1, 3) := by decide +kernel
theorem d_M_badAt_75 : decode b_M_badAt 75 = .ok (.goto (-47), 3) := by decide +kernel
theorem d_M_badAt_78 : decode b_M_badAt 78 = .ok (.iinc 1 1, 3) := by decide +kernel
theorem d_M_badAt_81 : decode b_M_badAt 81 = .ok (.goto (-69), 3) := by decide +kernel
theorem d_M_badAt_84 : decode b_M_badAt 84 = .ok (.iconst (-1), 1) := by decide +kernel
theorem d_M_badAt_85 : decode b_M_badAt 85 = .ok (.ireturn, 1) := by decide +kernel
set_option maxRecDepth 20000 in
set_option maxHeartbeats 4000000 in
theorem c_M_badAt {D : va_G} {cI cZ cJ : ClassId} {am : Nat → Nat} {mp : Nat} {th : Nat} {cr : Bool} {fd : Nat} {fo : Nat → Int32} {n : Nat} {lo : Nat → Int32} {np : Nat} {ps : Nat → Int32} {pb : Nat → Int32} {ip : Nat → Int32} {nb : Nat} {fr : Nat → Int32} {ln : Nat → Int32} {tr : Nat → Int32} {nv : Nat} {ct : Nat → Int32} {rw : Nat → Int32} {dr : Nat → Int32} {en : Nat} {sw : Nat} {rest : va_W} {lg : Nat → Nat} {S : aS} (hRl : lg_R lo n lg) (hok : cr = false → logOk lg n S) {ql : Nat → Nat} {qa : Nat → Nat → Nat} {mk : Nat → Bool} (hQ : okQ mp np ql qa mk) (hqR : qR np ql qa ps pb) : bC D bcl (tys3 cI cZ cJ) y_M_badAt ({ frames := 5, cells := 0, slots := 0, locals := 108 }) (wM am cI cZ mp th cr fd fo n lo np ps pb ip nb fr ln tr nv ct rw dr en sw rest) [.ref (am 0)] (bI (fun x ws9 => (cr = true ∧ ∃ (nb1 nv1 en1 sw1 : Nat) (fr1 ln1 tr1 ct1 rw1 dr1 : Nat → Int32), ws9 = wM am cI cZ mp 1 cr fd fo n lo np ps pb ip nb1 fr1 ln1 tr1 nv1 ct1 rw1 dr1 en1 sw1 rest) ∨ (cr = false ∧ (((∃ p, p < np ∧ x = nI p ∧ badP ql qa p ∧ ∀ p0, p0 < p → ¬ badP ql qa p0) ∨ (x = -1 ∧ ∀ p, p < np → ¬ badP ql qa p)) ∧ ∃ (nb1 nv1 en1 sw1 : Nat) (fr1 ln1 tr1 ct1 rw1 dr1 : Nat → Int32), ws9 = wM am cI cZ mp 0 cr fd fo n lo np ps pb ip nb1 fr1 ln1 tr1 nv1 ct1 rw1 dr1 en1 sw1 rest))) bno) := by
  refine bC.of (by decide) m_M_badAt.1 (Nat.le_of_ble_eq_true rfl) ?_
  intro Γ G E0
  show bV D bcl Γ 4 (wM am cI cZ mp th cr fd fo n lo np ps pb ip nb fr ln tr nv ct rw dr en sw rest) 0 0 0 [(0, .ref (am 0))] []
  have inner : ∀ (d : Nat) (fr1 ln1 tr1 ct1 rw1 dr1 : Nat → Int32) (sw1 : Nat) (p i : Nat), (¬ badP ql qa p → bV D bcl Γ 4 (wM am cI cZ mp 0 cr fd fo n lo np ps pb ip (sNb S) fr1 ln1 tr1 (sNv S) ct1 rw1 dr1 n sw1 rest) 0 0 78 [(0, .ref (am 0)), (1, .int (nI p))] []) → cr = false → dvR S fr1 ln1 tr1 ct1 rw1 dr1 → p < np → (∀ p0, p0 < p → ¬ badP ql qa p0) → d + i = 4 → (∀ i0, i0 < i → nI (qa p (ql p - 4 + i0)) = byteS (sumS (qa p) (nI 1) (ql p - 4)) i0) → bV D bcl Γ 4 (wM am cI cZ mp 0 cr fd fo n lo np ps pb ip (sNb S) fr1 ln1 tr1 (sNv S) ct1 rw1 dr1 n sw1 rest) 0 0 28 [(0, .ref (am 0)), (1, .int (nI (p))), (2, .int (sumS (qa p) (nI 1) (ql p - 4))), (3, .int (nI (i)))] [] := by
    intro d
    induction d with
    | zero =>
      intro fr1 ln1 tr1 ct1 rw1 dr1 sw1 p i cont hcr hdv hp hn hd hi
      have hs := (hok hcr).s
      have hnb := hs.1
      have hnv := hs.2.1
      have h400 := hRl.1
      have hq1 := hQ.1
      have hq2 := hQ.2.1
      have hl9 := okQ_le hQ (Nat.le_of_lt hp)
      have hl4 := hQ.2.2.2.2.1 p hp
      refine bV.iload_n G d_M_badAt_28 rfl ?_
      refine bV.iconst (v := nI 4) G d_M_badAt_29 (by decide) ?_
      refine bV.icmp_geN (tgt := 78) G d_M_badAt_30 (by decide) (by omega) (by omega) (fun c30 => ?_) (fun c30 => ?_)
      · refine bV.ltake (lv' := [(0, .ref (am 0)), (1, .int (nI (p)))]) (ex := [(2, .int (sumS (qa p) (nI 1) (ql p - 4))), (3, .int (nI (i)))]) rfl ?_
        exact cont (fun ⟨i0, z1, z2⟩ => z2 (hi i0 (by omega)))
      · exfalso; omega
    | succ d ih =>
      intro fr1 ln1 tr1 ct1 rw1 dr1 sw1 p i cont hcr hdv hp hn hd hi
      have hs := (hok hcr).s
      have hnb := hs.1
      have hnv := hs.2.1
      have h400 := hRl.1
      have hq1 := hQ.1
      have hq2 := hQ.2.1
      have hl9 := okQ_le hQ (Nat.le_of_lt hp)
      have hl4 := hQ.2.2.2.2.1 p hp
      refine bV.iload_n G d_M_badAt_28 rfl ?_
      refine bV.iconst (v := nI 4) G d_M_badAt_29 (by decide) ?_
      refine bV.icmp_geN (tgt := 78) G d_M_badAt_30 (by decide) (by omega) (by omega) (fun c30 => ?_) (fun c30 => ?_)
      · exfalso; omega
      · refine bV.aload_n G d_M_badAt_33 rfl ?_
        refine bV.getf G cl_M 0 9 rfl (by decide) bw_554 rfl d_M_badAt_34 ?_
        refine bV.sipush (v := nI 700) G d_M_badAt_37 (by decide) ?_
        refine bV.iload_n G d_M_badAt_40 rfl ?_
        refine bV.imulN G d_M_badAt_41 ?_
        refine bV.aload_n G d_M_badAt_42 rfl ?_
        refine bV.getf G cl_M 0 8 rfl (by decide) bw_553 rfl d_M_badAt_43 ?_
        refine bV.iload_n G d_M_badAt_46 rfl ?_
        refine bV.ialoadN G 3 0 rfl rfl (by omega) (by omega) d_M_badAt_47 ?_
        refine bV.topi (y := (nI (ql p))) (hqR.1 _ (by omega)) ?_
        refine bV.iaddN G d_M_badAt_48 ?_
        refine bV.iconst (v := nI 4) G d_M_badAt_49 (by decide) ?_
        refine bV.isubN G d_M_badAt_50 (by omega) ?_
        refine bV.iload_n G d_M_badAt_51 rfl ?_
        refine bV.iaddN G d_M_badAt_52 ?_
        refine bV.ialoadN G 4 0 rfl rfl (by omega) (by omega) d_M_badAt_53 ?_
        refine bV.topi (y := (nI (qa p (ql p - 4 + i)))) (by rw [show 700 * p + ql p - 4 + i = 700 * p + (ql p - 4 + i) by omega]; exact hqR.2 p _ (by omega) (by omega)) ?_
        refine bV.iload_n G d_M_badAt_54 rfl ?_
        refine bV.bipush (v := nI 24) G d_M_badAt_55 (by decide) ?_
        refine bV.bipush (v := nI 8) G d_M_badAt_57 (by decide) ?_
        refine bV.iload_n G d_M_badAt_59 rfl ?_
        refine bV.imulN G d_M_badAt_60 ?_
        refine bV.isubN G d_M_badAt_61 (by omega) ?_
        refine bV.ishr G d_M_badAt_62 ?_
        refine bV.sipush (v := nI 255) G d_M_badAt_63 (by decide) ?_
        refine bV.iand G d_M_badAt_66 ?_
        refine bV.topi (y := (byteS (sumS (qa p) (nI 1) (ql p - 4)) i)) (byteM (by omega)) ?_
        refine bV.icmp_eq (tgt := 72) G d_M_badAt_67 (by decide) (fun c67 => ?_) (fun c67 => ?_)
        · refine bV.iincN G (lv' := [(0, .ref (am 0)), (1, .int (nI (p))), (2, .int (sumS (qa p) (nI 1) (ql p - 4))), (3, .int (nI (i + 1)))]) d_M_badAt_72 rfl (by decide) rfl rfl ?_
          refine bV.goto (tgt := 28) G d_M_badAt_75 (by decide) ?_
          exact ih fr1 ln1 tr1 ct1 rw1 dr1 sw1 p (i + 1) cont hcr hdv hp hn (by omega) (fun i0 h => by rcases Nat.lt_or_ge i0 i with z | z; exact hi i0 z; rw [show i0 = i by omega]; exact c67)
        · refine bV.iload_n G d_M_badAt_70 rfl ?_
          exact bV.iretI G E0 rfl rfl (by decide) (by decide) d_M_badAt_71 (Or.inr ⟨hcr, Or.inl ⟨p, by omega, rfl, ⟨i, by omega, c67⟩, hn⟩, (sNb S), (sNv S), n, sw1, fr1, ln1, tr1, ct1, rw1, dr1, rfl⟩)
  have loop : ∀ (d : Nat) (fr1 ln1 tr1 ct1 rw1 dr1 : Nat → Int32) (sw1 : Nat) (p : Nat), cr = false → dvR S fr1 ln1 tr1 ct1 rw1 dr1 → d + p = np → (∀ p0, p0 < p → ¬ badP ql qa p0) → bV D bcl Γ 4 (wM am cI cZ mp 0 cr fd fo n lo np ps pb ip (sNb S) fr1 ln1 tr1 (sNv S) ct1 rw1 dr1 n sw1 rest) 0 0 12 [(0, .ref (am 0)), (1, .int (nI (p)))] [] := by
    intro d
    induction d with
    | zero =>
      intro fr1 ln1 tr1 ct1 rw1 dr1 sw1 p hcr hdv hd hn
      have hs := (hok hcr).s
      have hnb := hs.1
      have hnv := hs.2.1
      have h400 := hRl.1
      have hq1 := hQ.1
      have hq2 := hQ.2.1
      refine bV.iload_n G d_M_badAt_12 rfl ?_
      refine bV.aload_n G d_M_badAt_13 rfl ?_
      refine bV.getf G cl_M 0 7 rfl (by decide) bw_552 rfl d_M_badAt_14 ?_
      refine bV.icmp_geN (tgt := 84) G d_M_badAt_17 (by decide) (by omega) (by omega) (fun c17 => ?_) (fun c17 => ?_)
      · refine bV.iconst (v := (-1)) G d_M_badAt_84 (by decide) ?_
        exact bV.iretI G E0 rfl rfl (by decide) (by decide) d_M_badAt_85 (Or.inr ⟨hcr, Or.inr ⟨rfl, fun p1 h => hn p1 (by omega)⟩, (sNb S), (sNv S), n, sw1, fr1, ln1, tr1, ct1, rw1, dr1, rfl⟩)
      · exfalso; omega
    | succ d ih =>
      intro fr1 ln1 tr1 ct1 rw1 dr1 sw1 p hcr hdv hd hn
      have hs := (hok hcr).s
      have hnb := hs.1
      have hnv := hs.2.1
      have h400 := hRl.1
      have hq1 := hQ.1
      have hq2 := hQ.2.1
      refine bV.iload_n G d_M_badAt_12 rfl ?_
      refine bV.aload_n G d_M_badAt_13 rfl ?_
      refine bV.getf G cl_M 0 7 rfl (by decide) bw_552 rfl d_M_badAt_14 ?_
      refine bV.icmp_geN (tgt := 84) G d_M_badAt_17 (by decide) (by omega) (by omega) (fun c17 => ?_) (fun c17 => ?_)
      · exfalso; omega
      · have hl9 := okQ_le hQ (show p ≤ np by omega)
        have hl4 := hQ.2.2.2.2.1 p (by omega)
        refine bV.aload_n G d_M_badAt_20 rfl ?_
        refine bV.iload_n G d_M_badAt_21 rfl ?_
        refine bV.callVi G m_M_sumOf bw_714 bw_s38 bw_712 (c_M_sumOf (p := p) (q := ql p - 4) (g := qa p) (by rw [hqR.1 p (by omega)]; exact congrArg nI (by omega)) (by omega) (fun i hi => hqR.2 p i (by omega) (by omega)) (by omega)) 0 rfl rfl rfl rfl rfl ⟨by decide, by decide⟩ ⟨by decide, by decide⟩ (Nat.le_of_ble_eq_true rfl) d_M_badAt_22 (fun x9 ws9 h9 => ?_)
        obtain ⟨rfl, h9e⟩ := h9
        rw [h9e]
        try dsimp only
        refine bV.istore_n G (lv' := [(0, .ref (am 0)), (1, .int (nI (p))), (2, .int (sumS (qa p) (nI 1) (ql p - 4)))]) d_M_badAt_25 (by decide) rfl rfl ?_
        refine bV.iconst (v := nI 0) G d_M_badAt_26 (by decide) ?_
        refine bV.istore_n G (lv' := [(0, .ref (am 0)), (1, .int (nI (p))), (2, .int (sumS (qa p) (nI 1) (ql p - 4))), (3, .int (nI (0)))]) d_M_badAt_27 (by decide) rfl rfl ?_
        refine inner 4 fr1 ln1 tr1 ct1 rw1 dr1 sw1 p 0 (fun hnb => ?_) hcr hdv (by omega) hn (by omega) (fun i0 h => absurd h (Nat.not_lt_zero _))
        refine bV.iincN G (lv' := [(0, .ref (am 0)), (1, .int (nI (p + 1)))]) d_M_badAt_78 rfl (by decide) rfl rfl ?_
        refine bV.goto (tgt := 12) G d_M_badAt_81 (by decide) ?_
        exact ih fr1 ln1 tr1 ct1 rw1 dr1 sw1 (p + 1) hcr hdv (by omega) (fun p0 h => by rcases Nat.lt_or_ge p0 p with z | z; exact hn p0 z; rw [show p0 = p by omega]; exact hnb)
  refine bV.aload_n G d_M_badAt_0 rfl ?_
  refine bV.iconst (v := nI 1) G d_M_badAt_1 (by decide) ?_
  refine bV.callVi G m_M_isReady bw_619 bw_s26 bw_617 (c_M_isReady (f := 1) hRl hok) 0 rfl rfl rfl rfl rfl ⟨by decide, by decide⟩ ⟨by decide, by decide⟩ (Nat.le_of_ble_eq_true rfl) d_M_badAt_2 (fun x9 ws9 h9 => ?_)
  rcases h9 with ⟨hcr, rfl, h9e⟩ | ⟨hcr, rfl, fr1, ln1, tr1, ct1, rw1, dr1, sw1, hdv, h9e⟩
  · rw [h9e]
    try dsimp only
    refine bV.if_neB (tgt := 10) G d_M_badAt_5 (by decide) (fun c5 => ?_) (fun c5 => ?_)
    · cases c5
    · refine bV.iconst (v := nI 0) G d_M_badAt_8 (by decide) ?_
      exact bV.iretI G E0 rfl rfl (by decide) (by decide) d_M_badAt_9 (Or.inl ⟨hcr, nb, nv, en, sw, fr, ln, tr, ct, rw, dr, rfl⟩)
  · rw [h9e]
    try dsimp only
    have hs := (hok hcr).s
    have hnb := hs.1
    have hnv := hs.2.1
    have h400 := hRl.1
    refine bV.if_neB (tgt := 10) G d_M_badAt_5 (by decide) (fun c5 => ?_) (fun c5 => ?_)
    · refine bV.iconst (v := nI 0) G d_M_badAt_10 (by decide) ?_
      refine bV.istore_n G (lv' := [(0, .ref (am 0)), (1, .int (nI (0)))]) d_M_badAt_11 (by decide) rfl rfl ?_
      exact loop np fr1 ln1 tr1 ct1 rw1 dr1 sw1 0 hcr hdv (by omega) (fun p0 h => absurd h (Nat.not_lt_zero _))
    · cases c5
