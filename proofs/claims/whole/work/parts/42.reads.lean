/-! ===== the store: reads ===== -/
noncomputable def dcd (P : Prop) : Bool := @decide P (Classical.propDecidable P)
theorem dcd_t {P : Prop} (h : P) : dcd P = true := @decide_eq_true P (Classical.propDecidable P) h
theorem dcd_f {P : Prop} (h : ¬ P) : dcd P = false := @decide_eq_false P (Classical.propDecidable P) h
theorem nI_btw {v : Int32} {n : Nat} (h : 0 ≤ v ∧ v < nI n) (hn : n < 2 ^ 31) : ∃ j : Nat, j < n ∧ v = nI j := by
  obtain ⟨j, hj, rfl⟩ := nI_of (Int32.not_lt.mpr h.1)
  exact ⟨j, (nI_ltI hj hn).mp h.2, rfl⟩
def lenV (md : Nat → Bool) (vl : Nat → Nat) (v : Nat) : Nat := if (decide (v < 12) && md v) = true then 0 else vl v
theorem lenV_le (md : Nat → Bool) (vl : Nat → Nat) (v : Nat) : lenV md vl v ≤ vl v := by
  unfold lenV
  split <;> omega
def eqF (mt : Nat → Bool) (bl : Nat → Nat) (ba : Nat → Nat → Nat) (nb j : Nat) : Prop := mt j = true ∧ bl j = bl nb ∧ ∀ i, i < bl nb → ba j i = ba nb i
def cntU (f : Nat → Bool) : Nat → Nat
  | 0 => 0
  | n + 1 => cntU f n + (if f n = true then 1 else 0)
theorem cntU_t {f : Nat → Bool} {n : Nat} (h : f n = true) : cntU f (n + 1) = cntU f n + 1 := by
  show cntU f n + (if f n = true then 1 else 0) = cntU f n + 1
  rw [if_pos h]
theorem cntU_f {f : Nat → Bool} {n : Nat} (h : f n = false) : cntU f (n + 1) = cntU f n := by
  show cntU f n + (if f n = true then 1 else 0) = cntU f n
  rw [h]; rfl
theorem cntU_le {f : Nat → Bool} : ∀ n, cntU f n ≤ n := by
  intro n
  induction n with
  | zero => exact Nat.le_refl _
  | succ n ih =>
    show cntU f n + (if f n = true then 1 else 0) ≤ n + 1
    split <;> omega
def unp (mt mk : Nat → Bool) : Nat → Bool := fun j => mt j && !mk j
def badP (ql : Nat → Nat) (qa : Nat → Nat → Nat) (p : Nat) : Prop := ∃ i, i < 4 ∧ nI (qa p (ql p - 4 + i)) ≠ byteS (sumS (qa p) (nI 1) (ql p - 4)) i
def rootS (row : Nat → Nat) (bl : Nat → Nat) (ba : Nat → Nat → Nat) : Nat → Int32
  | 0 => nI 1
  | k + 1 => sumS (ba (row k)) (rootS row bl ba k) (bl (row k))
def outS (row : Nat → Nat) (bl : Nat → Nat) (ba : Nat → Nat → Nat) : Nat → Nat → Nat → Int32
  | 0, _, _ => -1
  | r + 1, k, i => if i < bl (row k) then nI (ba (row k) i) else outS row bl ba r (k + 1) (i - bl (row k))
theorem d_S_lengthOfVersion_0 : decode b_S_lengthOfVersion 0 = .ok (.aload_n 0, 1) := by decide +kernel
theorem d_S_lengthOfVersion_1 : decode b_S_lengthOfVersion 1 = .ok (.getfield 43, 3) := by decide +kernel
theorem d_S_lengthOfVersion_4 : decode b_S_lengthOfVersion 4 = .ok (.iload_n 1, 1) := by decide +kernel
theorem d_S_lengthOfVersion_5 : decode b_S_lengthOfVersion 5 = .ok (.invokevirtual 141, 3) := by decide +kernel
theorem d_S_lengthOfVersion_8 : decode b_S_lengthOfVersion 8 = .ok (.ifCond .eq 7, 3) := by decide +kernel
theorem d_S_lengthOfVersion_11 : decode b_S_lengthOfVersion 11 = .ok (.iconst 0, 1) := by decide +kernel
theorem d_S_lengthOfVersion_12 : decode b_S_lengthOfVersion 12 = .ok (.goto 11, 3) := by decide +kernel
theorem d_S_lengthOfVersion_15 : decode b_S_lengthOfVersion 15 = .ok (.aload_n 0, 1) := by decide +kernel
theorem d_S_lengthOfVersion_16 : decode b_S_lengthOfVersion 16 = .ok (.getfield 40, 3) := by decide +kernel
theorem d_S_lengthOfVersion_19 : decode b_S_lengthOfVersion 19 = .ok (.iload_n 1, 1) := by decide +kernel
theorem d_S_lengthOfVersion_20 : decode b_S_lengthOfVersion 20 = .ok (.invokevirtual 110, 3) := by decide +kernel
theorem d_S_lengthOfVersion_23 : decode b_S_lengthOfVersion 23 = .ok (.ireturn, 1) := by decide +kernel
set_option maxRecDepth 20000 in
set_option maxHeartbeats 4000000 in
theorem c_S_lengthOfVersion {D : va_G} {cI cZ cJ : ClassId} {ad : Nat → Nat} {mp : Nat} {lf : Nat → Int32} {n : Nat} {Pb : pc_C} {gt gp gh : Nat → Int32} {Pv : pc_C} {gd : Nat → Int32} {Pq : pc_C} {cr : Bool} {rest : va_W} {nv : Nat} {vl : Nat → Nat} {va : Nat → Nat → Nat} {md : Nat → Bool} (hRv : pc_R 104 13 Pv (nv, vl, va)) (hRd : mk_R 12 gd md) {v : Nat} (hv : v ≤ nv) : bC D bcl (tys3 cI cZ cJ) y_S_lengthOfVersion ({ frames := 1, cells := 0, slots := 0, locals := 23 }) (wS ad cI cZ mp lf n Pb gt gp gh Pv gd Pq cr rest) [.ref (ad 0), .int (nI (v))] (bI (fun x ws9 => x = nI (lenV md vl v) ∧ ws9 = wS ad cI cZ mp lf n Pb gt gp gh Pv gd Pq cr rest) bno) := by
  have fv : nv < 13 := hRv.2.1
  refine bC.of (by decide) m_S_lengthOfVersion.1 (Nat.le_of_ble_eq_true rfl) ?_
  intro Γ G E0
  show bV D bcl Γ 2 (wS ad cI cZ mp lf n Pb gt gp gh Pv gd Pq cr rest) 0 0 0 [(0, .ref (ad 0)), (1, .int (nI (v)))] []
  refine bV.aload_n G d_S_lengthOfVersion_0 rfl ?_
  refine bV.getf G cl_S 0 6 rfl (by decide) bw_79 rfl d_S_lengthOfVersion_1 ?_
  refine bV.iload_n G d_S_lengthOfVersion_4 rfl ?_
  refine bV.callVi G m_K_isOn bw_212 bw_213 bw_211 (c_K_isOn wS_d hRd (j := v) (by omega)) 15 rfl rfl rfl rfl rfl ⟨by decide, by decide⟩ ⟨by decide, by decide⟩ (Nat.le_of_ble_eq_true rfl) d_S_lengthOfVersion_5 (fun x9 ws9 h9 => ?_)
  obtain ⟨rfl, h9e⟩ := h9
  rw [h9e]
  try dsimp only
  refine bV.if_eqB (tgt := 15) G d_S_lengthOfVersion_8 (by decide) (fun c8 => ?_) (fun c8 => ?_)
  · refine bV.aload_n G d_S_lengthOfVersion_15 rfl ?_
    refine bV.getf G cl_S 0 5 rfl (by decide) bw_78 rfl d_S_lengthOfVersion_16 ?_
    refine bV.iload_n G d_S_lengthOfVersion_19 rfl ?_
    refine bV.callVi G m_P_length bw_189 bw_190 bw_321 (c_P_length wS_v hRv (j := v) (by first | omega | exact Nat.le_refl _)) 12 rfl rfl rfl rfl rfl ⟨by decide, by decide⟩ ⟨by decide, by decide⟩ (Nat.le_of_ble_eq_true rfl) d_S_lengthOfVersion_20 (fun x9 ws9 h9 => ?_)
    obtain ⟨rfl, h9e⟩ := h9
    rw [h9e]
    try dsimp only
    exact bV.iretI G E0 rfl rfl (by decide) (by decide) d_S_lengthOfVersion_23 ⟨by unfold lenV; rw [if_neg (by rw [c8]; decide)], rfl⟩
  · refine bV.iconst (v := nI 0) G d_S_lengthOfVersion_11 (by decide) ?_
    refine bV.goto (tgt := 23) G d_S_lengthOfVersion_12 (by decide) ?_
    exact bV.iretI G E0 rfl rfl (by decide) (by decide) d_S_lengthOfVersion_23 ⟨by unfold lenV; rw [if_pos c8], rfl⟩
theorem d_S_hasBlock_0 : decode b_S_hasBlock 0 = .ok (.aload_n 0, 1) := by decide +kernel
theorem d_S_hasBlock_1 : decode b_S_hasBlock 1 = .ok (.iload_n 1, 1) := by decide +kernel
theorem d_S_hasBlock_2 : decode b_S_hasBlock 2 = .ok (.invokevirtual 104, 3) := by decide +kernel
theorem d_S_hasBlock_5 : decode b_S_hasBlock 5 = .ok (.istore_n 3, 1) := by decide +kernel
theorem d_S_hasBlock_6 : decode b_S_hasBlock 6 = .ok (.iconst 0, 1) := by decide +kernel
theorem d_S_hasBlock_7 : decode b_S_hasBlock 7 = .ok (.istore 4, 2) := by decide +kernel
theorem d_S_hasBlock_9 : decode b_S_hasBlock 9 = .ok (.iload 4, 2) := by decide +kernel
theorem d_S_hasBlock_11 : decode b_S_hasBlock 11 = .ok (.iload_n 3, 1) := by decide +kernel
theorem d_S_hasBlock_12 : decode b_S_hasBlock 12 = .ok (.if_icmp .ge 25, 3) := by decide +kernel
theorem d_S_hasBlock_15 : decode b_S_hasBlock 15 = .ok (.aload_n 0, 1) := by decide +kernel
theorem d_S_hasBlock_16 : decode b_S_hasBlock 16 = .ok (.getfield 40, 3) := by decide +kernel
theorem d_S_hasBlock_19 : decode b_S_hasBlock 19 = .ok (.iload_n 1, 1) := by decide +kernel
theorem d_S_hasBlock_20 : decode b_S_hasBlock 20 = .ok (.iload 4, 2) := by decide +kernel
theorem d_S_hasBlock_22 : decode b_S_hasBlock 22 = .ok (.invokevirtual 107, 3) := by decide +kernel
theorem d_S_hasBlock_25 : decode b_S_hasBlock 25 = .ok (.iload_n 2, 1) := by decide +kernel
theorem d_S_hasBlock_26 : decode b_S_hasBlock 26 = .ok (.if_icmp .ne 5, 3) := by decide +kernel
theorem d_S_hasBlock_29 : decode b_S_hasBlock 29 = .ok (.iconst 1, 1) := by decide +kernel
theorem d_S_hasBlock_30 : decode b_S_hasBlock 30 = .ok (.ireturn, 1) := by decide +kernel
theorem d_S_hasBlock_31 : decode b_S_hasBlock 31 = .ok (.iinc 4 1, 3) := by decide +kernel
theorem d_S_hasBlock_34 : decode b_S_hasBlock 34 = .ok (.goto (-25), 3) := by decide +kernel
theorem d_S_hasBlock_37 : decode b_S_hasBlock 37 = .ok (.iconst 0, 1) := by decide +kernel
theorem d_S_hasBlock_38 : decode b_S_hasBlock 38 = .ok (.ireturn, 1) := by decide +kernel
set_option maxRecDepth 20000 in
set_option maxHeartbeats 4000000 in
theorem c_S_hasBlock {D : va_G} {cI cZ cJ : ClassId} {ad : Nat → Nat} {mp : Nat} {lf : Nat → Int32} {n : Nat} {Pb : pc_C} {gt gp gh : Nat → Int32} {Pv : pc_C} {gd : Nat → Int32} {Pq : pc_C} {cr : Bool} {rest : va_W} {nv : Nat} {vl : Nat → Nat} {va : Nat → Nat → Nat} {md : Nat → Bool} (hRv : pc_R 104 13 Pv (nv, vl, va)) (hRd : mk_R 12 gd md) {v b : Nat} (hv : v ≤ nv) (hb : b < 2 ^ 31) : bC D bcl (tys3 cI cZ cJ) y_S_hasBlock ({ frames := 2, cells := 0, slots := 0, locals := 46 }) (wS ad cI cZ mp lf n Pb gt gp gh Pv gd Pq cr rest) [.ref (ad 0), .int (nI (v)), .int (nI (b))] (bI (fun x ws9 => x = bB (dcd (∃ k, k < lenV md vl v ∧ va v k = b)) ∧ ws9 = wS ad cI cZ mp lf n Pb gt gp gh Pv gd Pq cr rest) bno) := by
  have fv : nv < 13 := hRv.2.1
  have hlv := lenV_le md vl v
  have hl9 : vl v ≤ 104 := pc_R_len (A := (nv, vl, va)) hRv hv
  refine bC.of (by decide) m_S_hasBlock.1 (Nat.le_of_ble_eq_true rfl) ?_
  intro Γ G E0
  show bV D bcl Γ 5 (wS ad cI cZ mp lf n Pb gt gp gh Pv gd Pq cr rest) 0 0 0 [(0, .ref (ad 0)), (1, .int (nI (v))), (2, .int (nI (b)))] []
  have loop : ∀ (d : Nat) (k : Nat), d + k = lenV md vl v → (∀ k0, k0 < k → va v k0 ≠ b) → bV D bcl Γ 5 (wS ad cI cZ mp lf n Pb gt gp gh Pv gd Pq cr rest) 0 0 9 [(0, .ref (ad 0)), (1, .int (nI (v))), (2, .int (nI (b))), (3, .int (nI (lenV md vl v))), (4, .int (nI (k)))] [] := by
    intro d
    induction d with
    | zero =>
      intro k hd hk
      refine bV.iload G d_S_hasBlock_9 rfl ?_
      refine bV.iload_n G d_S_hasBlock_11 rfl ?_
      refine bV.icmp_geN (tgt := 37) G d_S_hasBlock_12 (by decide) (by omega) (by omega) (fun c12 => ?_) (fun c12 => ?_)
      · refine bV.iconst (v := nI 0) G d_S_hasBlock_37 (by decide) ?_
        refine bV.topi (x := nI 0) (y := bB false) (by decide) ?_
        exact bV.iretI G E0 rfl (bB_n _) (by decide) (by decide) d_S_hasBlock_38 ⟨by rw [dcd_f (fun ⟨k0, z1, z2⟩ => hk k0 (by omega) z2)], rfl⟩
      · exfalso; omega
    | succ d ih =>
      intro k hd hk
      refine bV.iload G d_S_hasBlock_9 rfl ?_
      refine bV.iload_n G d_S_hasBlock_11 rfl ?_
      refine bV.icmp_geN (tgt := 37) G d_S_hasBlock_12 (by decide) (by omega) (by omega) (fun c12 => ?_) (fun c12 => ?_)
      · exfalso; omega
      · refine bV.aload_n G d_S_hasBlock_15 rfl ?_
        refine bV.getf G cl_S 0 5 rfl (by decide) bw_78 rfl d_S_hasBlock_16 ?_
        refine bV.iload_n G d_S_hasBlock_19 rfl ?_
        refine bV.iload G d_S_hasBlock_20 rfl ?_
        refine bV.callVi G m_P_at bw_221 bw_222 bw_322 (c_P_at wS_v hRv (j := v) (i := k) (by first | omega | exact Nat.le_refl _) (by omega)) 12 rfl rfl rfl rfl rfl ⟨by decide, by decide⟩ ⟨by decide, by decide⟩ (Nat.le_of_ble_eq_true rfl) d_S_hasBlock_22 (fun x9 ws9 h9 => ?_)
        obtain ⟨rfl, h9e⟩ := h9
        rw [h9e]
        try dsimp only
        rw [if_pos (by omega)]
        have hval : va v k < 2 ^ 31 := pc_R_val (A := (nv, vl, va)) hRv (j := v) (i := k) hv (by show k < vl v; omega)
        refine bV.iload_n G d_S_hasBlock_25 rfl ?_
        refine bV.icmp_neN (tgt := 31) G d_S_hasBlock_26 (by decide) (by omega) (by omega) (fun c26 => ?_) (fun c26 => ?_)
        · refine bV.iincN G (lv' := [(0, .ref (ad 0)), (1, .int (nI (v))), (2, .int (nI (b))), (3, .int (nI (lenV md vl v))), (4, .int (nI (k + 1)))]) d_S_hasBlock_31 rfl (by decide) rfl rfl ?_
          refine bV.goto (tgt := 9) G d_S_hasBlock_34 (by decide) ?_
          exact ih (k + 1) (by omega) (fun k0 h => by rcases Nat.lt_or_ge k0 k with z | z; exact hk k0 z; rw [show k0 = k by omega]; exact c26)
        · refine bV.iconst (v := nI 1) G d_S_hasBlock_29 (by decide) ?_
          refine bV.topi (x := nI 1) (y := bB true) (by decide) ?_
          exact bV.iretI G E0 rfl (bB_n _) (by decide) (by decide) d_S_hasBlock_30 ⟨by rw [dcd_t ⟨k, by omega, c26⟩], rfl⟩
  refine bV.aload_n G d_S_hasBlock_0 rfl ?_
  refine bV.iload_n G d_S_hasBlock_1 rfl ?_
  refine bV.callVi G m_S_lengthOfVersion bw_319 bw_s9 bw_317 (c_S_lengthOfVersion hRv hRd (v := v) (by omega)) 0 rfl rfl rfl rfl rfl ⟨by decide, by decide⟩ ⟨by decide, by decide⟩ (Nat.le_of_ble_eq_true rfl) d_S_hasBlock_2 (fun x9 ws9 h9 => ?_)
  obtain ⟨rfl, h9e⟩ := h9
  rw [h9e]
  try dsimp only
  refine bV.istore_n G (lv' := [(0, .ref (ad 0)), (1, .int (nI (v))), (2, .int (nI (b))), (3, .int (nI (lenV md vl v)))]) d_S_hasBlock_5 (by decide) rfl rfl ?_
  refine bV.iconst (v := nI 0) G d_S_hasBlock_6 (by decide) ?_
  refine bV.istore G (lv' := [(0, .ref (ad 0)), (1, .int (nI (v))), (2, .int (nI (b))), (3, .int (nI (lenV md vl v))), (4, .int (nI (0)))]) d_S_hasBlock_7 (by decide) rfl rfl ?_
  exact loop (lenV md vl v) 0 (by omega) (fun k0 h => absurd h (Nat.not_lt_zero _))
theorem d_S_equalOfFed_0 : decode b_S_equalOfFed 0 = .ok (.iconst 0, 1) := by decide +kernel
theorem d_S_equalOfFed_1 : decode b_S_equalOfFed 1 = .ok (.istore_n 1, 1) := by decide +kernel
theorem d_S_equalOfFed_2 : decode b_S_equalOfFed 2 = .ok (.iload_n 1, 1) := by decide +kernel
theorem d_S_equalOfFed_3 : decode b_S_equalOfFed 3 = .ok (.aload_n 0, 1) := by decide +kernel
theorem d_S_equalOfFed_4 : decode b_S_equalOfFed 4 = .ok (.getfield 21, 3) := by decide +kernel
theorem d_S_equalOfFed_7 : decode b_S_equalOfFed 7 = .ok (.invokevirtual 123, 3) := by decide +kernel
theorem d_S_equalOfFed_10 : decode b_S_equalOfFed 10 = .ok (.if_icmp .ge 33, 3) := by decide +kernel
theorem d_S_equalOfFed_13 : decode b_S_equalOfFed 13 = .ok (.aload_n 0, 1) := by decide +kernel
theorem d_S_equalOfFed_14 : decode b_S_equalOfFed 14 = .ok (.getfield 30, 3) := by decide +kernel
theorem d_S_equalOfFed_17 : decode b_S_equalOfFed 17 = .ok (.iload_n 1, 1) := by decide +kernel
theorem d_S_equalOfFed_18 : decode b_S_equalOfFed 18 = .ok (.invokevirtual 141, 3) := by decide +kernel
theorem d_S_equalOfFed_21 : decode b_S_equalOfFed 21 = .ok (.ifCond .eq 16, 3) := by decide +kernel
theorem d_S_equalOfFed_24 : decode b_S_equalOfFed 24 = .ok (.aload_n 0, 1) := by decide +kernel
theorem d_S_equalOfFed_25 : decode b_S_equalOfFed 25 = .ok (.getfield 21, 3) := by decide +kernel
theorem d_S_equalOfFed_28 : decode b_S_equalOfFed 28 = .ok (.iload_n 1, 1) := by decide +kernel
theorem d_S_equalOfFed_29 : decode b_S_equalOfFed 29 = .ok (.invokevirtual 213, 3) := by decide +kernel
theorem d_S_equalOfFed_32 : decode b_S_equalOfFed 32 = .ok (.ifCond .eq 5, 3) := by decide +kernel
theorem d_S_equalOfFed_35 : decode b_S_equalOfFed 35 = .ok (.iload_n 1, 1) := by decide +kernel
theorem d_S_equalOfFed_36 : decode b_S_equalOfFed 36 = .ok (.ireturn, 1) := by decide +kernel
theorem d_S_equalOfFed_37 : decode b_S_equalOfFed 37 = .ok (.iinc 1 1, 3) := by decide +kernel
theorem d_S_equalOfFed_40 : decode b_S_equalOfFed 40 = .ok (.goto (-38), 3) := by decide +kernel
theorem d_S_equalOfFed_43 : decode b_S_equalOfFed 43 = .ok (.iconst (-1), 1) := by decide +kernel
theorem d_S_equalOfFed_44 : decode b_S_equalOfFed 44 = .ok (.ireturn, 1) := by decide +kernel
set_option maxRecDepth 20000 in
set_option maxHeartbeats 4000000 in
theorem c_S_equalOfFed {D : va_G} {cI cZ cJ : ClassId} {ad : Nat → Nat} {mp : Nat} {lf : Nat → Int32} {n : Nat} {Pb : pc_C} {gt gp gh : Nat → Int32} {Pv : pc_C} {gd : Nat → Int32} {Pq : pc_C} {cr : Bool} {rest : va_W} {nb : Nat} {bl : Nat → Nat} {ba : Nat → Nat → Nat} {mt : Nat → Bool} (hRb : pc_R 600 25 Pb (nb, bl, ba)) (hRt : mk_R 24 gt mt)  : bC D bcl (tys3 cI cZ cJ) y_S_equalOfFed ({ frames := 4, cells := 0, slots := 0, locals := 94 }) (wS ad cI cZ mp lf n Pb gt gp gh Pv gd Pq cr rest) [.ref (ad 0)] (bI (fun x ws9 => ((∃ j, j < nb ∧ x = nI j ∧ eqF mt bl ba nb j ∧ ∀ j0, j0 < j → ¬ eqF mt bl ba nb j0) ∨ (x = -1 ∧ ∀ j, j < nb → ¬ eqF mt bl ba nb j)) ∧ ws9 = wS ad cI cZ mp lf n Pb gt gp gh Pv gd Pq cr rest) bno) := by
  have fb : nb < 25 := hRb.2.1
  refine bC.of (by decide) m_S_equalOfFed.1 (Nat.le_of_ble_eq_true rfl) ?_
  intro Γ G E0
  show bV D bcl Γ 2 (wS ad cI cZ mp lf n Pb gt gp gh Pv gd Pq cr rest) 0 0 0 [(0, .ref (ad 0))] []
  have loop : ∀ (d : Nat) (j : Nat), d + j = nb → (∀ j0, j0 < j → ¬ eqF mt bl ba nb j0) → bV D bcl Γ 2 (wS ad cI cZ mp lf n Pb gt gp gh Pv gd Pq cr rest) 0 0 2 [(0, .ref (ad 0)), (1, .int (nI (j)))] [] := by
    intro d
    induction d with
    | zero =>
      intro j hd hn
      refine bV.iload_n G d_S_equalOfFed_2 rfl ?_
      refine bV.aload_n G d_S_equalOfFed_3 rfl ?_
      refine bV.getf G cl_S 0 1 rfl (by decide) bw_74 rfl d_S_equalOfFed_4 ?_
      refine bV.callVi G m_P_count bw_208 bw_209 bw_207 (c_P_count wS_b hRb) 3 rfl rfl rfl rfl rfl ⟨by decide, by decide⟩ ⟨by decide, by decide⟩ (Nat.le_of_ble_eq_true rfl) d_S_equalOfFed_7 (fun x9 ws9 h9 => ?_)
      obtain ⟨rfl, h9e⟩ := h9
      rw [h9e]
      try dsimp only
      refine bV.icmp_geN (tgt := 43) G d_S_equalOfFed_10 (by decide) (by omega) (by omega) (fun c10 => ?_) (fun c10 => ?_)
      · refine bV.iconst (v := (-1)) G d_S_equalOfFed_43 (by decide) ?_
        exact bV.iretI G E0 rfl rfl (by decide) (by decide) d_S_equalOfFed_44 ⟨Or.inr ⟨rfl, fun j1 h => hn j1 (by omega)⟩, rfl⟩
      · exfalso; omega
    | succ d ih =>
      intro j hd hn
      refine bV.iload_n G d_S_equalOfFed_2 rfl ?_
      refine bV.aload_n G d_S_equalOfFed_3 rfl ?_
      refine bV.getf G cl_S 0 1 rfl (by decide) bw_74 rfl d_S_equalOfFed_4 ?_
      refine bV.callVi G m_P_count bw_208 bw_209 bw_207 (c_P_count wS_b hRb) 3 rfl rfl rfl rfl rfl ⟨by decide, by decide⟩ ⟨by decide, by decide⟩ (Nat.le_of_ble_eq_true rfl) d_S_equalOfFed_7 (fun x9 ws9 h9 => ?_)
      obtain ⟨rfl, h9e⟩ := h9
      rw [h9e]
      try dsimp only
      refine bV.icmp_geN (tgt := 43) G d_S_equalOfFed_10 (by decide) (by omega) (by omega) (fun c10 => ?_) (fun c10 => ?_)
      · exfalso; omega
      · refine bV.aload_n G d_S_equalOfFed_13 rfl ?_
        refine bV.getf G cl_S 0 2 rfl (by decide) bw_75 rfl d_S_equalOfFed_14 ?_
        refine bV.iload_n G d_S_equalOfFed_17 rfl ?_
        refine bV.callVi G m_K_isOn bw_212 bw_213 bw_211 (c_K_isOn wS_t hRt (j := j) (by omega)) 6 rfl rfl rfl rfl rfl ⟨by decide, by decide⟩ ⟨by decide, by decide⟩ (Nat.le_of_ble_eq_true rfl) d_S_equalOfFed_18 (fun x9 ws9 h9 => ?_)
        obtain ⟨rfl, h9e⟩ := h9
        rw [h9e]
        try dsimp only
        rw [decide_eq_true (show j < 24 by omega), Bool.true_and]
        refine bV.if_eqB (tgt := 37) G d_S_equalOfFed_21 (by decide) (fun c21 => ?_) (fun c21 => ?_)
        · refine bV.iincN G (lv' := [(0, .ref (ad 0)), (1, .int (nI (j + 1)))]) d_S_equalOfFed_37 rfl (by decide) rfl rfl ?_
          refine bV.goto (tgt := 2) G d_S_equalOfFed_40 (by decide) ?_
          exact ih (j + 1) (by omega) (fun j0 h => by rcases Nat.lt_or_ge j0 j with z | z; exact hn j0 z; rw [show j0 = j by omega]; intro hq; first | exact of_decide_eq_false c32 hq.2 | (have h7 := hq.1; rw [c21] at h7; cases h7))
        · refine bV.aload_n G d_S_equalOfFed_24 rfl ?_
          refine bV.getf G cl_S 0 1 rfl (by decide) bw_74 rfl d_S_equalOfFed_25 ?_
          refine bV.iload_n G d_S_equalOfFed_28 rfl ?_
          refine bV.callVi G m_P_equalsOpen bw_216 bw_217 bw_215 (c_P_equalsOpen wS_b hRb (j := j) (by omega)) 3 rfl rfl rfl rfl rfl ⟨by decide, by decide⟩ ⟨by decide, by decide⟩ (Nat.le_of_ble_eq_true rfl) d_S_equalOfFed_29 (fun x9 ws9 h9 => ?_)
          obtain ⟨rfl, h9e⟩ := h9
          rw [h9e]
          try dsimp only
          refine bV.if_eqB (tgt := 37) G d_S_equalOfFed_32 (by decide) (fun c32 => ?_) (fun c32 => ?_)
          · refine bV.iincN G (lv' := [(0, .ref (ad 0)), (1, .int (nI (j + 1)))]) d_S_equalOfFed_37 rfl (by decide) rfl rfl ?_
            refine bV.goto (tgt := 2) G d_S_equalOfFed_40 (by decide) ?_
            exact ih (j + 1) (by omega) (fun j0 h => by rcases Nat.lt_or_ge j0 j with z | z; exact hn j0 z; rw [show j0 = j by omega]; intro hq; first | exact of_decide_eq_false c32 hq.2 | (have h7 := hq.1; rw [c21] at h7; cases h7))
          · refine bV.iload_n G d_S_equalOfFed_35 rfl ?_
            exact bV.iretI G E0 rfl rfl (by decide) (by decide) d_S_equalOfFed_36 ⟨Or.inl ⟨j, by omega, rfl, ⟨c21, of_decide_eq_true c32⟩, hn⟩, rfl⟩
  refine bV.iconst (v := nI 0) G d_S_equalOfFed_0 (by decide) ?_
  refine bV.istore_n G (lv' := [(0, .ref (ad 0)), (1, .int (nI (0)))]) d_S_equalOfFed_1 (by decide) rfl rfl ?_
  exact loop nb 0 (by omega) (fun k0 h => absurd h (Nat.not_lt_zero _))
theorem d_S_isUnpacked_0 : decode b_S_isUnpacked 0 = .ok (.aload_n 0, 1) := by decide +kernel
theorem d_S_isUnpacked_1 : decode b_S_isUnpacked 1 = .ok (.getfield 30, 3) := by decide +kernel
theorem d_S_isUnpacked_4 : decode b_S_isUnpacked 4 = .ok (.iload_n 1, 1) := by decide +kernel
theorem d_S_isUnpacked_5 : decode b_S_isUnpacked 5 = .ok (.invokevirtual 141, 3) := by decide +kernel
theorem d_S_isUnpacked_8 : decode b_S_isUnpacked 8 = .ok (.ifCond .eq 18, 3) := by decide +kernel
theorem d_S_isUnpacked_11 : decode b_S_isUnpacked 11 = .ok (.aload_n 0, 1) := by decide +kernel
theorem d_S_isUnpacked_12 : decode b_S_isUnpacked 12 = .ok (.getfield 34, 3) := by decide +kernel
theorem d_S_isUnpacked_15 : decode b_S_isUnpacked 15 = .ok (.iload_n 1, 1) := by decide +kernel
theorem d_S_isUnpacked_16 : decode b_S_isUnpacked 16 = .ok (.invokevirtual 141, 3) := by decide +kernel
theorem d_S_isUnpacked_19 : decode b_S_isUnpacked 19 = .ok (.ifCond .ne 7, 3) := by decide +kernel
theorem d_S_isUnpacked_22 : decode b_S_isUnpacked 22 = .ok (.iconst 1, 1) := by decide +kernel
theorem d_S_isUnpacked_23 : decode b_S_isUnpacked 23 = .ok (.goto 4, 3) := by decide +kernel
theorem d_S_isUnpacked_26 : decode b_S_isUnpacked 26 = .ok (.iconst 0, 1) := by decide +kernel
theorem d_S_isUnpacked_27 : decode b_S_isUnpacked 27 = .ok (.ireturn, 1) := by decide +kernel
set_option maxRecDepth 20000 in
set_option maxHeartbeats 4000000 in
theorem c_S_isUnpacked {D : va_G} {cI cZ cJ : ClassId} {ad : Nat → Nat} {mp : Nat} {lf : Nat → Int32} {n : Nat} {Pb : pc_C} {gt gp gh : Nat → Int32} {Pv : pc_C} {gd : Nat → Int32} {Pq : pc_C} {cr : Bool} {rest : va_W} {mt : Nat → Bool} {mk : Nat → Bool} (hRt : mk_R 24 gt mt) (hRp : mk_R 24 gp mk) {j : Nat} (hj : j < 24) : bC D bcl (tys3 cI cZ cJ) y_S_isUnpacked ({ frames := 1, cells := 0, slots := 0, locals := 21 }) (wS ad cI cZ mp lf n Pb gt gp gh Pv gd Pq cr rest) [.ref (ad 0), .int (nI (j))] (bI (fun x ws9 => x = bB (mt j && !mk j) ∧ ws9 = wS ad cI cZ mp lf n Pb gt gp gh Pv gd Pq cr rest) bno) := by
  refine bC.of (by decide) m_S_isUnpacked.1 (Nat.le_of_ble_eq_true rfl) ?_
  intro Γ G E0
  show bV D bcl Γ 2 (wS ad cI cZ mp lf n Pb gt gp gh Pv gd Pq cr rest) 0 0 0 [(0, .ref (ad 0)), (1, .int (nI (j)))] []
  refine bV.aload_n G d_S_isUnpacked_0 rfl ?_
  refine bV.getf G cl_S 0 2 rfl (by decide) bw_75 rfl d_S_isUnpacked_1 ?_
  refine bV.iload_n G d_S_isUnpacked_4 rfl ?_
  refine bV.callVi G m_K_isOn bw_212 bw_213 bw_211 (c_K_isOn wS_t hRt (j := j) (by omega)) 6 rfl rfl rfl rfl rfl ⟨by decide, by decide⟩ ⟨by decide, by decide⟩ (Nat.le_of_ble_eq_true rfl) d_S_isUnpacked_5 (fun x9 ws9 h9 => ?_)
  obtain ⟨rfl, h9e⟩ := h9
  rw [h9e]
  try dsimp only
  rw [decide_eq_true (show j < 24 by omega), Bool.true_and]
  refine bV.if_eqB (tgt := 26) G d_S_isUnpacked_8 (by decide) (fun c8 => ?_) (fun c8 => ?_)
  · refine bV.iconst (v := nI 0) G d_S_isUnpacked_26 (by decide) ?_
    refine bV.topi (x := nI 0) (y := bB false) (by decide) ?_
    exact bV.iretI G E0 rfl (bB_n _) (by decide) (by decide) d_S_isUnpacked_27 ⟨by first | (rw [c19]; cases mt j <;> rfl) | (rw [c8]; rfl), rfl⟩
  · refine bV.aload_n G d_S_isUnpacked_11 rfl ?_
    refine bV.getf G cl_S 0 3 rfl (by decide) bw_76 rfl d_S_isUnpacked_12 ?_
    refine bV.iload_n G d_S_isUnpacked_15 rfl ?_
    refine bV.callVi G m_K_isOn bw_212 bw_213 bw_211 (c_K_isOn wS_p hRp (j := j) (by omega)) 8 rfl rfl rfl rfl rfl ⟨by decide, by decide⟩ ⟨by decide, by decide⟩ (Nat.le_of_ble_eq_true rfl) d_S_isUnpacked_16 (fun x9 ws9 h9 => ?_)
    obtain ⟨rfl, h9e⟩ := h9
    rw [h9e]
    try dsimp only
    rw [decide_eq_true (show j < 24 by omega), Bool.true_and]
    refine bV.if_neB (tgt := 26) G d_S_isUnpacked_19 (by decide) (fun c19 => ?_) (fun c19 => ?_)
    · refine bV.iconst (v := nI 0) G d_S_isUnpacked_26 (by decide) ?_
      refine bV.topi (x := nI 0) (y := bB false) (by decide) ?_
      exact bV.iretI G E0 rfl (bB_n _) (by decide) (by decide) d_S_isUnpacked_27 ⟨by first | (rw [c19]; cases mt j <;> rfl) | (rw [c8]; rfl), rfl⟩
    · refine bV.iconst (v := nI 1) G d_S_isUnpacked_22 (by decide) ?_
      refine bV.goto (tgt := 27) G d_S_isUnpacked_23 (by decide) ?_
      refine bV.topi (x := nI 1) (y := bB true) (by decide) ?_
      exact bV.iretI G E0 rfl (bB_n _) (by decide) (by decide) d_S_isUnpacked_27 ⟨by rw [c8, c19]; rfl, rfl⟩
theorem d_S_countUnpacked_0 : decode b_S_countUnpacked 0 = .ok (.iconst 0, 1) := by decide +kernel
theorem d_S_countUnpacked_1 : decode b_S_countUnpacked 1 = .ok (.istore_n 1, 1) := by decide +kernel
theorem d_S_countUnpacked_2 : decode b_S_countUnpacked 2 = .ok (.iconst 0, 1) := by decide +kernel
theorem d_S_countUnpacked_3 : decode b_S_countUnpacked 3 = .ok (.istore_n 2, 1) := by decide +kernel
theorem d_S_countUnpacked_4 : decode b_S_countUnpacked 4 = .ok (.iload_n 2, 1) := by decide +kernel
theorem d_S_countUnpacked_5 : decode b_S_countUnpacked 5 = .ok (.aload_n 0, 1) := by decide +kernel
theorem d_S_countUnpacked_6 : decode b_S_countUnpacked 6 = .ok (.getfield 21, 3) := by decide +kernel
theorem d_S_countUnpacked_9 : decode b_S_countUnpacked 9 = .ok (.invokevirtual 123, 3) := by decide +kernel
theorem d_S_countUnpacked_12 : decode b_S_countUnpacked 12 = .ok (.if_icmp .ge 20, 3) := by decide +kernel
theorem d_S_countUnpacked_15 : decode b_S_countUnpacked 15 = .ok (.aload_n 0, 1) := by decide +kernel
theorem d_S_countUnpacked_16 : decode b_S_countUnpacked 16 = .ok (.iload_n 2, 1) := by decide +kernel
theorem d_S_countUnpacked_17 : decode b_S_countUnpacked 17 = .ok (.invokevirtual 126, 3) := by decide +kernel
theorem d_S_countUnpacked_20 : decode b_S_countUnpacked 20 = .ok (.ifCond .eq 6, 3) := by decide +kernel
theorem d_S_countUnpacked_23 : decode b_S_countUnpacked 23 = .ok (.iinc 1 1, 3) := by decide +kernel
theorem d_S_countUnpacked_26 : decode b_S_countUnpacked 26 = .ok (.iinc 2 1, 3) := by decide +kernel
theorem d_S_countUnpacked_29 : decode b_S_countUnpacked 29 = .ok (.goto (-25), 3) := by decide +kernel
theorem d_S_countUnpacked_32 : decode b_S_countUnpacked 32 = .ok (.iload_n 1, 1) := by decide +kernel
theorem d_S_countUnpacked_33 : decode b_S_countUnpacked 33 = .ok (.ireturn, 1) := by decide +kernel
set_option maxRecDepth 20000 in
set_option maxHeartbeats 4000000 in
theorem c_S_countUnpacked {D : va_G} {cI cZ cJ : ClassId} {ad : Nat → Nat} {mp : Nat} {lf : Nat → Int32} {n : Nat} {Pb : pc_C} {gt gp gh : Nat → Int32} {Pv : pc_C} {gd : Nat → Int32} {Pq : pc_C} {cr : Bool} {rest : va_W} {nb : Nat} {bl : Nat → Nat} {ba : Nat → Nat → Nat} {mt : Nat → Bool} {mk : Nat → Bool} (hRb : pc_R 600 25 Pb (nb, bl, ba)) (hRt : mk_R 24 gt mt) (hRp : mk_R 24 gp mk)  : bC D bcl (tys3 cI cZ cJ) y_S_countUnpacked ({ frames := 2, cells := 0, slots := 0, locals := 42 }) (wS ad cI cZ mp lf n Pb gt gp gh Pv gd Pq cr rest) [.ref (ad 0)] (bI (fun x ws9 => x = nI (cntU (unp mt mk) nb) ∧ ws9 = wS ad cI cZ mp lf n Pb gt gp gh Pv gd Pq cr rest) bno) := by
  have fb : nb < 25 := hRb.2.1
  refine bC.of (by decide) m_S_countUnpacked.1 (Nat.le_of_ble_eq_true rfl) ?_
  intro Γ G E0
  show bV D bcl Γ 3 (wS ad cI cZ mp lf n Pb gt gp gh Pv gd Pq cr rest) 0 0 0 [(0, .ref (ad 0))] []
  have loop : ∀ (d : Nat) (j : Nat), d + j = nb → bV D bcl Γ 3 (wS ad cI cZ mp lf n Pb gt gp gh Pv gd Pq cr rest) 0 0 4 [(0, .ref (ad 0)), (1, .int (nI (cntU (unp mt mk) j))), (2, .int (nI (j)))] [] := by
    intro d
    induction d with
    | zero =>
      intro j hd
      refine bV.iload_n G d_S_countUnpacked_4 rfl ?_
      refine bV.aload_n G d_S_countUnpacked_5 rfl ?_
      refine bV.getf G cl_S 0 1 rfl (by decide) bw_74 rfl d_S_countUnpacked_6 ?_
      refine bV.callVi G m_P_count bw_208 bw_209 bw_207 (c_P_count wS_b hRb) 3 rfl rfl rfl rfl rfl ⟨by decide, by decide⟩ ⟨by decide, by decide⟩ (Nat.le_of_ble_eq_true rfl) d_S_countUnpacked_9 (fun x9 ws9 h9 => ?_)
      obtain ⟨rfl, h9e⟩ := h9
      rw [h9e]
      try dsimp only
      refine bV.icmp_geN (tgt := 32) G d_S_countUnpacked_12 (by decide) (by omega) (by omega) (fun c12 => ?_) (fun c12 => ?_)
      · refine bV.iload_n G d_S_countUnpacked_32 rfl ?_
        exact bV.iretI G E0 rfl rfl (by decide) (by decide) d_S_countUnpacked_33 ⟨by rw [show j = nb by omega], rfl⟩
      · exfalso; omega
    | succ d ih =>
      intro j hd
      refine bV.iload_n G d_S_countUnpacked_4 rfl ?_
      refine bV.aload_n G d_S_countUnpacked_5 rfl ?_
      refine bV.getf G cl_S 0 1 rfl (by decide) bw_74 rfl d_S_countUnpacked_6 ?_
      refine bV.callVi G m_P_count bw_208 bw_209 bw_207 (c_P_count wS_b hRb) 3 rfl rfl rfl rfl rfl ⟨by decide, by decide⟩ ⟨by decide, by decide⟩ (Nat.le_of_ble_eq_true rfl) d_S_countUnpacked_9 (fun x9 ws9 h9 => ?_)
      obtain ⟨rfl, h9e⟩ := h9
      rw [h9e]
      try dsimp only
      refine bV.icmp_geN (tgt := 32) G d_S_countUnpacked_12 (by decide) (by omega) (by omega) (fun c12 => ?_) (fun c12 => ?_)
      · exfalso; omega
      · refine bV.aload_n G d_S_countUnpacked_15 rfl ?_
        refine bV.iload_n G d_S_countUnpacked_16 rfl ?_
        refine bV.callVi G m_S_isUnpacked bw_375 bw_s13 bw_373 (c_S_isUnpacked hRt hRp (j := j) (by omega)) 0 rfl rfl rfl rfl rfl ⟨by decide, by decide⟩ ⟨by decide, by decide⟩ (Nat.le_of_ble_eq_true rfl) d_S_countUnpacked_17 (fun x9 ws9 h9 => ?_)
        obtain ⟨rfl, h9e⟩ := h9
        rw [h9e]
        try dsimp only
        refine bV.if_eqB (tgt := 26) G d_S_countUnpacked_20 (by decide) (fun c20 => ?_) (fun c20 => ?_)
        · refine bV.iincN G (lv' := [(0, .ref (ad 0)), (1, .int (nI (cntU (unp mt mk) j))), (2, .int (nI (j + 1)))]) d_S_countUnpacked_26 rfl (by decide) rfl rfl ?_
          refine bV.goto (tgt := 4) G d_S_countUnpacked_29 (by decide) ?_
          have e := ih (j + 1) (by omega)
          first | rw [cntU_t (f := unp mt mk) c20] at e | rw [cntU_f (f := unp mt mk) c20] at e
          exact e
        · refine bV.iincN G (lv' := [(0, .ref (ad 0)), (1, .int (nI ((cntU (unp mt mk) j) + 1))), (2, .int (nI (j)))]) d_S_countUnpacked_23 rfl (by decide) rfl rfl ?_
          refine bV.iincN G (lv' := [(0, .ref (ad 0)), (1, .int (nI ((cntU (unp mt mk) j) + 1))), (2, .int (nI (j + 1)))]) d_S_countUnpacked_26 rfl (by decide) rfl rfl ?_
          refine bV.goto (tgt := 4) G d_S_countUnpacked_29 (by decide) ?_
          have e := ih (j + 1) (by omega)
          first | rw [cntU_t (f := unp mt mk) c20] at e | rw [cntU_f (f := unp mt mk) c20] at e
          exact e
  refine bV.iconst (v := nI 0) G d_S_countUnpacked_0 (by decide) ?_
  refine bV.istore_n G (lv' := [(0, .ref (ad 0)), (1, .int (nI (0)))]) d_S_countUnpacked_1 (by decide) rfl rfl ?_
  refine bV.iconst (v := nI 0) G d_S_countUnpacked_2 (by decide) ?_
  refine bV.istore_n G (lv' := [(0, .ref (ad 0)), (1, .int (nI (0))), (2, .int (nI (0)))]) d_S_countUnpacked_3 (by decide) rfl rfl ?_
  exact loop nb 0 (by omega)
theorem d_S_isBad_0 : decode b_S_isBad 0 = .ok (.aload_n 0, 1) := by decide +kernel
theorem d_S_isBad_1 : decode b_S_isBad 1 = .ok (.getfield 55, 3) := by decide +kernel
theorem d_S_isBad_4 : decode b_S_isBad 4 = .ok (.iload_n 1, 1) := by decide +kernel
theorem d_S_isBad_5 : decode b_S_isBad 5 = .ok (.invokevirtual 110, 3) := by decide +kernel
theorem d_S_isBad_8 : decode b_S_isBad 8 = .ok (.iconst 4, 1) := by decide +kernel
theorem d_S_isBad_9 : decode b_S_isBad 9 = .ok (.isub, 1) := by decide +kernel
theorem d_S_isBad_10 : decode b_S_isBad 10 = .ok (.istore_n 2, 1) := by decide +kernel
theorem d_S_isBad_11 : decode b_S_isBad 11 = .ok (.aload_n 0, 1) := by decide +kernel
theorem d_S_isBad_12 : decode b_S_isBad 12 = .ok (.getfield 55, 3) := by decide +kernel
theorem d_S_isBad_15 : decode b_S_isBad 15 = .ok (.iconst 1, 1) := by decide +kernel
theorem d_S_isBad_16 : decode b_S_isBad 16 = .ok (.iload_n 1, 1) := by decide +kernel
theorem d_S_isBad_17 : decode b_S_isBad 17 = .ok (.iload_n 2, 1) := by decide +kernel
theorem d_S_isBad_18 : decode b_S_isBad 18 = .ok (.invokevirtual 113, 3) := by decide +kernel
theorem d_S_isBad_21 : decode b_S_isBad 21 = .ok (.istore_n 3, 1) := by decide +kernel
theorem d_S_isBad_22 : decode b_S_isBad 22 = .ok (.iconst 0, 1) := by decide +kernel
theorem d_S_isBad_23 : decode b_S_isBad 23 = .ok (.istore 4, 2) := by decide +kernel
theorem d_S_isBad_25 : decode b_S_isBad 25 = .ok (.iload 4, 2) := by decide +kernel
theorem d_S_isBad_27 : decode b_S_isBad 27 = .ok (.iconst 4, 1) := by decide +kernel
theorem d_S_isBad_28 : decode b_S_isBad 28 = .ok (.if_icmp .ge 32, 3) := by decide +kernel
theorem d_S_isBad_31 : decode b_S_isBad 31 = .ok (.aload_n 0, 1) := by decide +kernel
theorem d_S_isBad_32 : decode b_S_isBad 32 = .ok (.getfield 55, 3) := by decide +kernel
theorem d_S_isBad_35 : decode b_S_isBad 35 = .ok (.iload_n 1, 1) := by decide +kernel
theorem d_S_isBad_36 : decode b_S_isBad 36 = .ok (.iload_n 2, 1) := by decide +kernel
theorem d_S_isBad_37 : decode b_S_isBad 37 = .ok (.iload 4, 2) := by decide +kernel
theorem d_S_isBad_39 : decode b_S_isBad 39 = .ok (.iadd, 1) := by decide +kernel
theorem d_S_isBad_40 : decode b_S_isBad 40 = .ok (.invokevirtual 107, 3) := by decide +kernel
theorem d_S_isBad_43 : decode b_S_isBad 43 = .ok (.iload_n 3, 1) := by decide +kernel
theorem d_S_isBad_44 : decode b_S_isBad 44 = .ok (.iload 4, 2) := by decide +kernel
theorem d_S_isBad_46 : decode b_S_isBad 46 = .ok (.invokestatic 177, 3) := by decide +kernel
theorem d_S_isBad_49 : decode b_S_isBad 49 = .ok (.if_icmp .eq 5, 3) := by decide +kernel
theorem d_S_isBad_52 : decode b_S_isBad 52 = .ok (.iconst 1, 1) := by decide +kernel
theorem d_S_isBad_53 : decode b_S_isBad 53 = .ok (.ireturn, 1) := by decide +kernel
theorem d_S_isBad_54 : decode b_S_isBad 54 = .ok (.iinc 4 1, 3) := by decide +kernel
theorem d_S_isBad_57 : decode b_S_isBad 57 = .ok (.goto (-32), 3) := by decide +kernel
theorem d_S_isBad_60 : decode b_S_isBad 60 = .ok (.iconst 0, 1) := by decide +kernel
theorem d_S_isBad_61 : decode b_S_isBad 61 = .ok (.ireturn, 1) := by decide +kernel
set_option maxRecDepth 20000 in
set_option maxHeartbeats 4000000 in
theorem c_S_isBad {D : va_G} {cI cZ cJ : ClassId} {ad : Nat → Nat} {mp : Nat} {lf : Nat → Int32} {n : Nat} {Pb : pc_C} {gt gp gh : Nat → Int32} {Pv : pc_C} {gd : Nat → Int32} {Pq : pc_C} {cr : Bool} {rest : va_W} {np : Nat} {ql : Nat → Nat} {qa : Nat → Nat → Nat} (hRq : pc_R 664 (mp + 1) Pq (np, ql, qa)) {p : Nat} (hp : p < np) (h4 : 4 ≤ ql p) (hm : mp ≤ 8) : bC D bcl (tys3 cI cZ cJ) y_S_isBad ({ frames := 3, cells := 0, slots := 0, locals := 72 }) (wS ad cI cZ mp lf n Pb gt gp gh Pv gd Pq cr rest) [.ref (ad 0), .int (nI (p))] (bI (fun x ws9 => x = bB (dcd (badP ql qa p)) ∧ ws9 = wS ad cI cZ mp lf n Pb gt gp gh Pv gd Pq cr rest) bno) := by
  have fq : np < mp + 1 := hRq.2.1
  have hl9 : ql p ≤ 664 := pc_R_len (A := (np, ql, qa)) hRq (Nat.le_of_lt hp)
  refine bC.of (by decide) m_S_isBad.1 (Nat.le_of_ble_eq_true rfl) ?_
  intro Γ G E0
  show bV D bcl Γ 5 (wS ad cI cZ mp lf n Pb gt gp gh Pv gd Pq cr rest) 0 0 0 [(0, .ref (ad 0)), (1, .int (nI (p)))] []
  have loop : ∀ (d : Nat) (i : Nat), d + i = 4 → (∀ i0, i0 < i → nI (qa p (ql p - 4 + i0)) = byteS (sumS (qa p) (nI 1) (ql p - 4)) i0) → bV D bcl Γ 5 (wS ad cI cZ mp lf n Pb gt gp gh Pv gd Pq cr rest) 0 0 25 [(0, .ref (ad 0)), (1, .int (nI (p))), (2, .int (nI (ql p - 4))), (3, .int (sumS (qa p) (nI 1) (ql p - 4))), (4, .int (nI (i)))] [] := by
    intro d
    induction d with
    | zero =>
      intro i hd hi
      refine bV.iload G d_S_isBad_25 rfl ?_
      refine bV.iconst (v := nI 4) G d_S_isBad_27 (by decide) ?_
      refine bV.icmp_geN (tgt := 60) G d_S_isBad_28 (by decide) (by omega) (by omega) (fun c28 => ?_) (fun c28 => ?_)
      · refine bV.iconst (v := nI 0) G d_S_isBad_60 (by decide) ?_
        refine bV.topi (x := nI 0) (y := bB false) (by decide) ?_
        exact bV.iretI G E0 rfl (bB_n _) (by decide) (by decide) d_S_isBad_61 ⟨by rw [dcd_f (fun ⟨i0, z1, z2⟩ => z2 (hi i0 (by omega)))], rfl⟩
      · exfalso; omega
    | succ d ih =>
      intro i hd hi
      refine bV.iload G d_S_isBad_25 rfl ?_
      refine bV.iconst (v := nI 4) G d_S_isBad_27 (by decide) ?_
      refine bV.icmp_geN (tgt := 60) G d_S_isBad_28 (by decide) (by omega) (by omega) (fun c28 => ?_) (fun c28 => ?_)
      · exfalso; omega
      · refine bV.aload_n G d_S_isBad_31 rfl ?_
        refine bV.getf G cl_S 0 7 rfl (by decide) bw_80 rfl d_S_isBad_32 ?_
        refine bV.iload_n G d_S_isBad_35 rfl ?_
        refine bV.iload_n G d_S_isBad_36 rfl ?_
        refine bV.iload G d_S_isBad_37 rfl ?_
        refine bV.iaddN G d_S_isBad_39 ?_
        refine bV.callVi G m_P_at bw_221 bw_222 bw_322 (c_P_at wS_q hRq (j := p) (i := (ql p - 4) + i) (by first | omega | exact Nat.le_refl _) (by omega)) 17 rfl rfl rfl rfl rfl ⟨by decide, by decide⟩ ⟨by decide, by decide⟩ (Nat.le_of_ble_eq_true rfl) d_S_isBad_40 (fun x9 ws9 h9 => ?_)
        obtain ⟨rfl, h9e⟩ := h9
        rw [h9e]
        try dsimp only
        rw [if_pos (by show ql p - 4 + i < ql p; omega)]
        refine bV.iload_n G d_S_isBad_43 rfl ?_
        refine bV.iload G d_S_isBad_44 rfl ?_
        refine bV.callSi G m_S_byteOfSum bw_386 bw_385 (c_S_byteOfSum (s := sumS (qa p) (nI 1) (ql p - 4)) (i := i) (by omega)) rfl rfl ⟨by decide, by decide⟩ ⟨by decide, by decide⟩ (Nat.le_of_ble_eq_true rfl) d_S_isBad_46 (fun x9 ws9 h9 => ?_)
        obtain ⟨rfl, h9e⟩ := h9
        rw [h9e]
        try dsimp only
        refine bV.icmp_eq (tgt := 54) G d_S_isBad_49 (by decide) (fun c49 => ?_) (fun c49 => ?_)
        · refine bV.iincN G (lv' := [(0, .ref (ad 0)), (1, .int (nI (p))), (2, .int (nI (ql p - 4))), (3, .int (sumS (qa p) (nI 1) (ql p - 4))), (4, .int (nI (i + 1)))]) d_S_isBad_54 rfl (by decide) rfl rfl ?_
          refine bV.goto (tgt := 25) G d_S_isBad_57 (by decide) ?_
          exact ih (i + 1) (by omega) (fun i0 h => by rcases Nat.lt_or_ge i0 i with z | z; exact hi i0 z; rw [show i0 = i by omega]; exact c49)
        · refine bV.iconst (v := nI 1) G d_S_isBad_52 (by decide) ?_
          refine bV.topi (x := nI 1) (y := bB true) (by decide) ?_
          exact bV.iretI G E0 rfl (bB_n _) (by decide) (by decide) d_S_isBad_53 ⟨by rw [dcd_t ⟨i, by omega, c49⟩], rfl⟩
  refine bV.aload_n G d_S_isBad_0 rfl ?_
  refine bV.getf G cl_S 0 7 rfl (by decide) bw_80 rfl d_S_isBad_1 ?_
  refine bV.iload_n G d_S_isBad_4 rfl ?_
  refine bV.callVi G m_P_length bw_189 bw_190 bw_321 (c_P_length wS_q hRq (j := p) (by first | omega | exact Nat.le_refl _)) 17 rfl rfl rfl rfl rfl ⟨by decide, by decide⟩ ⟨by decide, by decide⟩ (Nat.le_of_ble_eq_true rfl) d_S_isBad_5 (fun x9 ws9 h9 => ?_)
  obtain ⟨rfl, h9e⟩ := h9
  rw [h9e]
  try dsimp only
  refine bV.iconst (v := nI 4) G d_S_isBad_8 (by decide) ?_
  refine bV.isubN G d_S_isBad_9 (by omega) ?_
  refine bV.istore_n G (lv' := [(0, .ref (ad 0)), (1, .int (nI (p))), (2, .int (nI ((ql p) - 4)))]) d_S_isBad_10 (by decide) rfl rfl ?_
  refine bV.aload_n G d_S_isBad_11 rfl ?_
  refine bV.getf G cl_S 0 7 rfl (by decide) bw_80 rfl d_S_isBad_12 ?_
  refine bV.iconst (v := nI 1) G d_S_isBad_15 (by decide) ?_
  refine bV.iload_n G d_S_isBad_16 rfl ?_
  refine bV.iload_n G d_S_isBad_17 rfl ?_
  refine bV.callVi G m_P_sum bw_331 bw_332 bw_330 (c_P_sum wS_q hRq (s0 := nI 1) (j := p) (len := (ql p) - 4) (by first | omega | exact Nat.le_refl _) (by first | omega | exact Nat.le_refl _ | (dsimp only; omega))) 17 rfl rfl rfl rfl rfl ⟨by decide, by decide⟩ ⟨by decide, by decide⟩ (Nat.le_of_ble_eq_true rfl) d_S_isBad_18 (fun x9 ws9 h9 => ?_)
  obtain ⟨rfl, h9e⟩ := h9
  rw [h9e]
  try dsimp only
  refine bV.istore_n G (lv' := [(0, .ref (ad 0)), (1, .int (nI (p))), (2, .int (nI ((ql p) - 4))), (3, .int (sumS (qa p) (nI 1) ((ql p) - 4)))]) d_S_isBad_21 (by decide) rfl rfl ?_
  refine bV.iconst (v := nI 0) G d_S_isBad_22 (by decide) ?_
  refine bV.istore G (lv' := [(0, .ref (ad 0)), (1, .int (nI (p))), (2, .int (nI ((ql p) - 4))), (3, .int (sumS (qa p) (nI 1) ((ql p) - 4))), (4, .int (nI (0)))]) d_S_isBad_23 (by decide) rfl rfl ?_
  exact loop 4 0 (by omega) (fun k0 h => absurd h (Nat.not_lt_zero _))
theorem d_S_requireByteOfPack_0 : decode b_S_requireByteOfPack 0 = .ok (.aload_n 0, 1) := by decide +kernel
theorem d_S_requireByteOfPack_1 : decode b_S_requireByteOfPack 1 = .ok (.getfield 55, 3) := by decide +kernel
theorem d_S_requireByteOfPack_4 : decode b_S_requireByteOfPack 4 = .ok (.iload_n 1, 1) := by decide +kernel
theorem d_S_requireByteOfPack_5 : decode b_S_requireByteOfPack 5 = .ok (.invokevirtual 192, 3) := by decide +kernel
theorem d_S_requireByteOfPack_8 : decode b_S_requireByteOfPack 8 = .ok (.ifCond .eq 19, 3) := by decide +kernel
theorem d_S_requireByteOfPack_11 : decode b_S_requireByteOfPack 11 = .ok (.iload_n 2, 1) := by decide +kernel
theorem d_S_requireByteOfPack_12 : decode b_S_requireByteOfPack 12 = .ok (.ifCond .lt 15, 3) := by decide +kernel
theorem d_S_requireByteOfPack_15 : decode b_S_requireByteOfPack 15 = .ok (.iload_n 2, 1) := by decide +kernel
theorem d_S_requireByteOfPack_16 : decode b_S_requireByteOfPack 16 = .ok (.aload_n 0, 1) := by decide +kernel
theorem d_S_requireByteOfPack_17 : decode b_S_requireByteOfPack 17 = .ok (.getfield 55, 3) := by decide +kernel
theorem d_S_requireByteOfPack_20 : decode b_S_requireByteOfPack 20 = .ok (.iload_n 1, 1) := by decide +kernel
theorem d_S_requireByteOfPack_21 : decode b_S_requireByteOfPack 21 = .ok (.invokevirtual 110, 3) := by decide +kernel
theorem d_S_requireByteOfPack_24 : decode b_S_requireByteOfPack 24 = .ok (.if_icmp .lt 13, 3) := by decide +kernel
theorem d_S_requireByteOfPack_27 : decode b_S_requireByteOfPack 27 = .ok (.new 195, 3) := by decide +kernel
theorem d_S_requireByteOfPack_30 : decode b_S_requireByteOfPack 30 = .ok (.dup, 1) := by decide +kernel
theorem d_S_requireByteOfPack_31 : decode b_S_requireByteOfPack 31 = .ok (.ldc 202, 2) := by decide +kernel
theorem d_S_requireByteOfPack_33 : decode b_S_requireByteOfPack 33 = .ok (.invokespecial 199, 3) := by decide +kernel
theorem d_S_requireByteOfPack_36 : decode b_S_requireByteOfPack 36 = .ok (.athrow, 1) := by decide +kernel
theorem d_S_requireByteOfPack_37 : decode b_S_requireByteOfPack 37 = .ok (.return_, 1) := by decide +kernel
set_option maxRecDepth 20000 in
set_option maxHeartbeats 4000000 in
theorem c_S_requireByteOfPack {D : va_G} {cI cZ cJ : ClassId} {ad : Nat → Nat} {mp : Nat} {lf : Nat → Int32} {n : Nat} {Pb : pc_C} {gt gp gh : Nat → Int32} {Pv : pc_C} {gd : Nat → Int32} {Pq : pc_C} {cr : Bool} {rest : va_W} {np : Nat} {ql : Nat → Nat} {qa : Nat → Nat → Nat} (hRq : pc_R 664 (mp + 1) Pq (np, ql, qa)) {v u : Int32} (hm : mp ≤ 8) : bC D bcl (tys3 cI cZ cJ) y_S_requireByteOfPack ({ frames := 6, cells := 1, slots := 6, locals := 84 }) (wS ad cI cZ mp lf n Pb gt gp gh Pv gd Pq cr rest) [.ref (ad 0), .int (v), .int (u)] (bO (fun ws9 => ((0 ≤ v ∧ v < nI np) ∧ 0 ≤ u ∧ u < nI (ql v.toNatClampNeg)) ∧ ws9 = wS ad cI cZ mp lf n Pb gt gp gh Pv gd Pq cr rest) (fun E ws9 => (¬ ((0 ≤ v ∧ v < nI np) ∧ 0 ≤ u ∧ u < nI (ql v.toNatClampNeg))) ∧ E = "java/lang/IndexOutOfBoundsException" ∧ ws9 = wS ad cI cZ mp lf n Pb gt gp gh Pv gd Pq cr rest)) := by
  have fq : np < mp + 1 := hRq.2.1
  refine bC.of (by decide) m_S_requireByteOfPack.1 (Nat.le_of_ble_eq_true rfl) ?_
  intro Γ G E0
  show bV D bcl Γ 3 (wS ad cI cZ mp lf n Pb gt gp gh Pv gd Pq cr rest) 0 0 0 [(0, .ref (ad 0)), (1, .int (v)), (2, .int (u))] []
  refine bV.aload_n G d_S_requireByteOfPack_0 rfl ?_
  refine bV.getf G cl_S 0 7 rfl (by decide) bw_80 rfl d_S_requireByteOfPack_1 ?_
  refine bV.iload_n G d_S_requireByteOfPack_4 rfl ?_
  refine bV.callVi G m_P_has bw_289 bw_290 bw_288 (c_P_has wS_q hRq) 17 rfl rfl rfl rfl rfl ⟨by decide, by decide⟩ ⟨by decide, by decide⟩ (Nat.le_of_ble_eq_true rfl) d_S_requireByteOfPack_5 (fun x9 ws9 h9 => ?_)
  obtain ⟨rfl, h9e⟩ := h9
  rw [h9e]
  try dsimp only
  refine bV.if_eqB (tgt := 27) G d_S_requireByteOfPack_8 (by decide) (fun c8 => ?_) (fun c8 => ?_)
  · exact bV.throwNew G E0 (E := "java/lang/IndexOutOfBoundsException") (tx := "no such pack or byte") (names := ["java/lang/RuntimeException", "java/lang/Exception"]) (by decide +kernel) (by decide +kernel) oa_199 bw_292 bw_293 bw_11 (by decide) (by decide) (by decide) (by decide) (Nat.le_of_ble_eq_true rfl) rfl d_S_requireByteOfPack_27 d_S_requireByteOfPack_30 d_S_requireByteOfPack_31 d_S_requireByteOfPack_33 d_S_requireByteOfPack_36 (Or.inr ⟨_, rfl, ⟨fun z => by first | exact absurd z.1 (of_decide_eq_false c8) | exact absurd z.2.1 (Int32.not_le.mpr c12) | exact c24 (by have z3 := z.2.2; rw [nI_clamp (by omega)] at z3; exact z3), rfl, rfl⟩⟩)
  · have hg8 := of_decide_eq_true c8
    obtain ⟨j, hj, rfl⟩ := nI_btw hg8 (by omega)
    refine bV.iload_n G d_S_requireByteOfPack_11 rfl ?_
    refine bV.if_lt (tgt := 27) G d_S_requireByteOfPack_12 (by decide) (fun c12 => ?_) (fun c12 => ?_)
    · exact bV.throwNew G E0 (E := "java/lang/IndexOutOfBoundsException") (tx := "no such pack or byte") (names := ["java/lang/RuntimeException", "java/lang/Exception"]) (by decide +kernel) (by decide +kernel) oa_199 bw_292 bw_293 bw_11 (by decide) (by decide) (by decide) (by decide) (Nat.le_of_ble_eq_true rfl) rfl d_S_requireByteOfPack_27 d_S_requireByteOfPack_30 d_S_requireByteOfPack_31 d_S_requireByteOfPack_33 d_S_requireByteOfPack_36 (Or.inr ⟨_, rfl, ⟨fun z => by first | exact absurd z.1 (of_decide_eq_false c8) | exact absurd z.2.1 (Int32.not_le.mpr c12) | exact c24 (by have z3 := z.2.2; rw [nI_clamp (by omega)] at z3; exact z3), rfl, rfl⟩⟩)
    · refine bV.iload_n G d_S_requireByteOfPack_15 rfl ?_
      refine bV.aload_n G d_S_requireByteOfPack_16 rfl ?_
      refine bV.getf G cl_S 0 7 rfl (by decide) bw_80 rfl d_S_requireByteOfPack_17 ?_
      refine bV.iload_n G d_S_requireByteOfPack_20 rfl ?_
      refine bV.callVi G m_P_length bw_189 bw_190 bw_321 (c_P_length wS_q hRq (j := j) (by first | omega | exact Nat.le_refl _)) 17 rfl rfl rfl rfl rfl ⟨by decide, by decide⟩ ⟨by decide, by decide⟩ (Nat.le_of_ble_eq_true rfl) d_S_requireByteOfPack_21 (fun x9 ws9 h9 => ?_)
      obtain ⟨rfl, h9e⟩ := h9
      rw [h9e]
      try dsimp only
      refine bV.icmp_lt (tgt := 37) G d_S_requireByteOfPack_24 (by decide) (fun c24 => ?_) (fun c24 => ?_)
      · exact bV.vretO G E0 rfl (by decide) (by decide) d_S_requireByteOfPack_37 ⟨⟨hg8, Int32.not_lt.mp c12, by rw [nI_clamp (by omega)]; exact c24⟩, rfl⟩
      · exact bV.throwNew G E0 (E := "java/lang/IndexOutOfBoundsException") (tx := "no such pack or byte") (names := ["java/lang/RuntimeException", "java/lang/Exception"]) (by decide +kernel) (by decide +kernel) oa_199 bw_292 bw_293 bw_11 (by decide) (by decide) (by decide) (by decide) (Nat.le_of_ble_eq_true rfl) rfl d_S_requireByteOfPack_27 d_S_requireByteOfPack_30 d_S_requireByteOfPack_31 d_S_requireByteOfPack_33 d_S_requireByteOfPack_36 (Or.inr ⟨_, rfl, ⟨fun z => by first | exact absurd z.1 (of_decide_eq_false c8) | exact absurd z.2.1 (Int32.not_le.mpr c12) | exact c24 (by have z3 := z.2.2; rw [nI_clamp (by omega)] at z3; exact z3), rfl, rfl⟩⟩)
