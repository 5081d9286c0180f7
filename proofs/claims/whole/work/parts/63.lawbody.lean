/-! ===== the law: its loop, its entry ===== -/
theorem not_gt {L i : Nat} (hL : L ≤ 2049) (hi : i < 2 ^ 30) (h : ¬ nI L - nI 4 < nI i) : i + 4 ≤ L := by
  by_cases z : 4 ≤ L
  · rw [pk_sub z] at h
    have h2 : ¬ L - 4 < i := fun y => h (nI_lt y (by omega))
    omega
  · exact absurd (Int32.lt_of_lt_of_le (pk_sneg (by decide) (by omega)) (nI_pos' (by omega))) h
set_option maxRecDepth 20000 in
set_option maxHeartbeats 4000000 in
theorem law_loop {D : va_G} {cI cZ cJ : ClassId} {Γ : bCtx} {ret0 : Option FieldType} {nm : String} {tb : bTb} {ad am : Nat → Nat} {ao mp : Nat} {b L : Nat} {xs : Nat → Int32} (G : bG D bcl (tys3 cI cZ cJ) Γ "BoardStoreLaw" code 7 ret0 nm tb room_1) (hX : bSX Γ b L xs) (hL : L ≤ 2049) (hE : ∀ (ws : va_W) (k n : Nat) (lv : List (Nat × Value)), k ≤ 601024 → n ≤ 7293000 → bV D bcl Γ 7 ws k n 1078 lv [.int (nI 1)]) :
    ∀ (d q i : Nat) (A : aA) (lf : Nat → Int32) (Pb : pc_C) (gt gp gh : Nat → Int32) (Pv : pc_C) (gd : Nat → Int32) (Pq : pc_C) (of : Nat → Int64) (th : Nat) (fo lo ps pb ip : Nat → Int32) (nb nv en sw : Nat) (fr ln tr ct rw dr : Nat → Int32), i = 4 * q + 1 → i < 2 ^ 30 → q ≤ 513 → L + 4 ≤ i + 4 * d → AI mp A → CL mp A lf Pb gt gp gh Pv gd Pq → MO A fo lo ps pb ip → bV D bcl Γ 7 (wS ad cI cZ mp lf (aN A) Pb gt gp gh Pv gd Pq (aCr A) ((ao, .inl (cJ, 1, .inr (.inl of))) :: wM am cI cZ mp th (aCr A) (aFd A) fo (aN A) lo (aNp A) ps pb ip nb fr ln tr nv ct rw dr en sw [])) (40 + 3 * q) (12000 + 18 * q) 33 [(0, .ref b), (1, .ref (ad 0)), (2, .ref (am 0)), (3, .ref ao), (4, .int (nI (i)))] [] := by
  intro d
  induction d with
  | zero =>
    intro q i A lf Pb gt gp gh Pv gd Pq of th fo lo ps pb ip nb nv en sw fr ln tr ct rw dr hq hi hq5 hd hA hC hM
    refine bV.iload G d_law_33 rfl ?_
    refine bV.aload_n G d_law_35 rfl ?_
    refine bV.slen G hX d_law_36 ?_
    refine bV.iconst (v := nI 4) G d_law_37 (by decide) ?_
    refine bV.isub G d_law_38 ?_
    refine bV.icmp_gt (tgt := 1077) G d_law_39 (by decide) (fun c39 => ?_) (fun c39 => ?_)
    · refine bV.iconst (v := nI 1) G d_law_1077 (by decide) ?_
      exact hE _ _ _ _ (by omega) (by omega)
    · have h4 := not_gt hL hi c39
      omega
  | succ d ih =>
    intro q i A lf Pb gt gp gh Pv gd Pq of th fo lo ps pb ip nb nv en sw fr ln tr ct rw dr hq hi hq5 hd hA hC hM
    refine bV.iload G d_law_33 rfl ?_
    refine bV.aload_n G d_law_35 rfl ?_
    refine bV.slen G hX d_law_36 ?_
    refine bV.iconst (v := nI 4) G d_law_37 (by decide) ?_
    refine bV.isub G d_law_38 ?_
    refine bV.icmp_gt (tgt := 1077) G d_law_39 (by decide) (fun c39 => ?_) (fun c39 => ?_)
    · refine bV.iconst (v := nI 1) G d_law_1077 (by decide) ?_
      exact hE _ _ _ _ (by omega) (by omega)
    have h4 := not_gt hL hi c39
    have cont : ∀ (A : aA) (lf : Nat → Int32) (Pb : pc_C) (gt gp gh : Nat → Int32) (Pv : pc_C) (gd : Nat → Int32) (Pq : pc_C) (of : Nat → Int64) (th : Nat) (fo lo ps pb ip : Nat → Int32) (nb nv en sw : Nat) (fr ln tr ct rw dr : Nat → Int32), AI mp A → CL mp A lf Pb gt gp gh Pv gd Pq → MO A fo lo ps pb ip → bV D bcl Γ 7 (wS ad cI cZ mp lf (aN A) Pb gt gp gh Pv gd Pq (aCr A) ((ao, .inl (cJ, 1, .inr (.inl of))) :: wM am cI cZ mp th (aCr A) (aFd A) fo (aN A) lo (aNp A) ps pb ip nb fr ln tr nv ct rw dr en sw [])) (40 + 3 * q + 3) (12000 + 18 * q + 18) 1071 [(0, .ref b), (1, .ref (ad 0)), (2, .ref (am 0)), (3, .ref ao), (4, .int (nI (i)))] [] := by
      intro A lf Pb gt gp gh Pv gd Pq of th fo lo ps pb ip nb nv en sw fr ln tr ct rw dr hA hC hM
      refine bV.iinc G (v := nI (i + 4)) (lv' := [(0, .ref b), (1, .ref (ad 0)), (2, .ref (am 0)), (3, .ref ao), (4, .int (nI (i + 4)))]) d_law_1071 rfl (show nI i + nI 4 = _ from nI_add i 4) (by decide) rfl rfl ?_
      refine bV.goto (tgt := 33) G d_law_1074 (by decide) ?_
      refine bV.widen (k' := 40 + 3 * (q + 1)) (n' := 12000 + 18 * (q + 1)) (by omega) (by omega) ?_
      exact ih (q + 1) (i + 4) A lf Pb gt gp gh Pv gd Pq of th fo lo ps pb ip nb nv en sw fr ln tr ct rw dr (by omega) (by omega) (by omega) (by omega) hA hC hM
    refine bV.aload_n G d_law_42 rfl ?_
    refine bV.iload G d_law_43 rfl ?_
    refine bV.sld G hX (vp_in_nI (by omega) (by omega)) d_law_45 ?_
    refine bV.bipush (v := nI 15) G d_law_46 (by decide) ?_
    refine bV.iand G d_law_48 ?_
    obtain ⟨c9, hc9, hce⟩ := pk_andE (xs (nI i).toNatClampNeg) (m := nI 15) 4 (by decide)
    refine bV.topi hce ?_
    rcases (show c9 = 0 ∨ c9 = 1 ∨ c9 = 2 ∨ c9 = 3 ∨ c9 = 4 ∨ c9 = 5 ∨ c9 = 6 ∨ c9 = 7 ∨ c9 = 8 ∨ c9 = 9 ∨ c9 = 10 ∨ c9 = 11 ∨ c9 = 12 ∨ c9 = 13 ∨ c9 = 14 ∨ c9 = 15 by omega) with rfl | rfl | rfl | rfl | rfl | rfl | rfl | rfl | rfl | rfl | rfl | rfl | rfl | rfl | rfl | rfl
    · refine bV.tableIn (tgt := 128) (off := 79) G d_law_49 (by decide) (by decide) rfl (by decide) ?_
      exact lc_feed G hX hA hC hM (by omega) hL (by omega) (by omega) cont
    · refine bV.tableIn (tgt := 191) (off := 142) G d_law_49 (by decide) (by decide) rfl (by decide) ?_
      exact lc_block G hX hA hC hM (by omega) hL (by omega) (by omega) cont
    · refine bV.tableIn (tgt := 235) (off := 186) G d_law_49 (by decide) (by decide) rfl (by decide) ?_
      exact lc_version G hX hA hC hM (by omega) hL (by omega) (by omega) cont
    · refine bV.tableIn (tgt := 279) (off := 230) G d_law_49 (by decide) (by decide) rfl (by decide) ?_
      exact lc_holds G hX hA hC hM (by omega) hL (by omega) (by omega) cont
    · refine bV.tableIn (tgt := 354) (off := 305) G d_law_49 (by decide) (by decide) rfl (by decide) ?_
      exact lc_root G hX hA hC hM (by omega) hL (by omega) (by omega) cont
    · refine bV.tableIn (tgt := 410) (off := 361) G d_law_49 (by decide) (by decide) rfl (by decide) ?_
      exact lc_sweep G hX hA hC hM (by omega) hL (by omega) (by omega) cont
    · refine bV.tableIn (tgt := 454) (off := 405) G d_law_49 (by decide) (by decide) rfl (by decide) ?_
      exact lc_pack G hX hA hC hM (by omega) hL (by omega) (by omega) cont
    · refine bV.tableIn (tgt := 498) (off := 449) G d_law_49 (by decide) (by decide) rfl (by decide) ?_
      exact lc_byteAt G hX hA hC hM (by omega) hL (by omega) (by omega) cont
    · refine bV.tableIn (tgt := 566) (off := 517) G d_law_49 (by decide) (by decide) rfl (by decide) ?_
      exact lc_crash G hX hA hC hM (by omega) hL (by omega) (by omega) cont
    · refine bV.tableIn (tgt := 629) (off := 580) G d_law_49 (by decide) (by decide) rfl (by decide) ?_
      exact lc_reopen G hX hA hC hM (by omega) hL (by omega) (by omega) cont
    · refine bV.tableIn (tgt := 673) (off := 624) G d_law_49 (by decide) (by decide) rfl (by decide) ?_
      exact lc_poke G hX hA hC hM (by omega) hL (by omega) (by omega) cont
    · refine bV.tableIn (tgt := 760) (off := 711) G d_law_49 (by decide) (by decide) rfl (by decide) ?_
      exact lc_badAt G hX hA hC hM (by omega) hL (by omega) (by omega) cont
    · refine bV.tableIn (tgt := 804) (off := 755) G d_law_49 (by decide) (by decide) rfl (by decide) ?_
      exact lc_packByte G hX hA hC hM (by omega) hL (by omega) (by omega) cont
    · refine bV.tableIn (tgt := 872) (off := 823) G d_law_49 (by decide) (by decide) rfl (by decide) ?_
      exact lc_digest G hX hA hC hM (by omega) hL (by omega) (by omega) cont
    · refine bV.tableIn (tgt := 940) (off := 891) G d_law_49 (by decide) (by decide) rfl (by decide) ?_
      exact lc_out G hX hA hC hM (by omega) hL (by omega) (by omega) cont
    · refine bV.tableIn (tgt := 1008) (off := 959) G d_law_49 (by decide) (by decide) rfl (by decide) ?_
      exact lc_drop G hX hA hC hM (by omega) hL (by omega) (by omega) cont
theorem pc_R_new {NI ns : Nat} (h1 : 0 < ns) (h2 : ns < 2 ^ 31) (h3 : NI < 2 ^ 31) {ba : Nat → Nat → Nat} : pc_R NI ns ((fun _ => 0, fun _ => 0, 0, 0) : pc_C) (0, (fun _ => 0), ba) :=
  ⟨rfl, h1, h2, h3, rfl, Nat.zero_le _, fun j hj => by obtain rfl : j = 0 := Nat.le_zero.mp hj; rfl, fun j i _ hi => absurd hi (Nat.not_lt_zero _), fun j i _ hi => absurd hi (Nat.not_lt_zero _)⟩
def A_0 : aA := ((fun _ => 0), 0, aS0, 0, (fun _ => 0), (fun _ => false), 0, (fun _ => 0), (fun _ _ => 0), false)
theorem AI_0 {mp : Nat} (h : mp ≤ 8) : AI mp A_0 := ⟨fun _ => ⟨0, fun q hq => absurd hq (Nat.not_lt_zero _), rfl⟩, fun (z : false = true) => absurd z (by decide), Nat.zero_le _, fun i hi => absurd hi (Nat.not_lt_zero _), okQ_0 h⟩
theorem lg_R_0 : lg_R (fun _ => 0) 0 (fun _ => 0) := ⟨by decide, fun j hj => absurd hj (Nat.not_lt_zero _), fun j hj => absurd hj (Nat.not_lt_zero _)⟩
theorem CL_0 {mp : Nat} (h : mp ≤ 8) : CL mp A_0 (fun _ => 0) ((fun _ => 0, fun _ => 0, 0, 0) : pc_C) (fun _ => 0) (fun _ => 0) (fun _ => 0) ((fun _ => 0, fun _ => 0, 0, 0) : pc_C) (fun _ => 0) ((fun _ => 0, fun _ => 0, 0, 0) : pc_C) :=
  ⟨lg_R_0, clR_0 (ba := fun _ _ => 0) (va := fun _ _ => 0) (pc_R_new (by decide) (by decide) (by decide)) ⟨by decide, fun _ _ => rfl⟩ (pc_R_new (by decide) (by decide) (by decide)) ⟨by decide, fun _ _ => rfl⟩, ⟨by decide, fun _ _ => rfl⟩, pc_R_new (by omega) (by omega) (by decide), (fun _ => false), ⟨by decide, fun _ _ => rfl⟩⟩
theorem MO_0 : MO A_0 (fun _ => 0) (fun _ => 0) (fun _ => 0) (fun _ => 0) (fun _ => 0) := ⟨lg_R_0, ⟨Nat.zero_le _, fun i hi => absurd hi (Nat.not_lt_zero _)⟩, ⟨fun p hp => absurd hp (Nat.not_lt_zero _), fun p i hp => absurd hp (Nat.not_lt_zero _)⟩, ⟨by decide, fun _ _ => rfl⟩⟩
set_option maxRecDepth 20000 in
set_option maxHeartbeats 4000000 in
theorem law_body {D : va_G} {cI cZ cJ : ClassId} {Γ : bCtx} {ret0 : Option FieldType} {nm : String} {tb : bTb} {b L : Nat} {xs : Nat → Int32} (G : bG D bcl (tys3 cI cZ cJ) Γ "BoardStoreLaw" code 7 ret0 nm tb room_1) (hX : bSX Γ b L xs) (hL : L ≤ 2049) (hE : ∀ (ws : va_W) (k n : Nat) (lv : List (Nat × Value)), k ≤ 601024 → n ≤ 7293000 → bV D bcl Γ 7 ws k n 1078 lv [.int (nI 1)]) : bV D bcl Γ 7 [] 0 0 0 [(0, .ref b)] [] := by
  refine bV.new G cl_S (fs := [.null, .null, .null, .null, .null, .null, .null, .null, .int 0]) bw_13 bw_14 bw_1 (by decide) (Nat.le_of_ble_eq_true rfl) (Nat.le_of_ble_eq_true rfl) d_law_0 (fun xa => ?_)
  show bV D bcl Γ 7 [(xa, .inr (3, [.null, .null, .null, .null, .null, .null, .null, .null, .int 0]))] _ _ _ _ _
  refine bV.dup G d_law_3 rfl ?_
  refine bV.aload_n G d_law_4 rfl ?_
  refine bV.iconst (v := nI 0) G d_law_5 (by decide) ?_
  refine bV.callSs G m_W_cell bw_102 bw_101 hX (c_W_cell hL) rfl rfl ⟨by decide, by decide⟩ ⟨by decide, by decide⟩ (Nat.le_of_ble_eq_true rfl) d_law_6 (fun x9 ws9 h9 => ?_)
  obtain ⟨rfl, h9c⟩ := h9
  rw [h9c]
  clear h9c
  obtain ⟨v0, hv0⟩ : ∃ v : Int32, v = (if 0 < L then xs 0 else 0) := ⟨_, rfl⟩
  rw [← hv0]
  refine bV.callIo G m_S_init rfl bw_16 bw_17 bw_15 (c_S_init (a := xa) (v := v0)) rfl rfl ⟨by decide, by decide⟩ ⟨by decide, by decide⟩ (Nat.le_of_ble_eq_true rfl) d_law_9 (fun ws9 h9 => ?_)
  obtain ⟨ad, rfl, h9s⟩ := h9
  rw [h9s]
  clear h9s
  refine bV.astore_n G (lv' := [(0, .ref b), (1, .ref (ad 0))]) d_law_12 (by decide) rfl rfl ?_
  refine bV.new G cl_M (fs := [.int 0, .int 0, .int 0, .int 0, .null, .int 0, .null, .int 0, .null, .null, .null, .int 0, .null, .null, .null, .int 0, .null, .null, .null, .int 0, .int 0]) bw_539 bw_540 bw_6 (by decide) (Nat.le_of_ble_eq_true rfl) (Nat.le_of_ble_eq_true rfl) d_law_13 (fun ma => ?_)
  refine bV.perm (ws' := ((ma, .inr (4, [.int 0, .int 0, .int 0, .int 0, .null, .int 0, .null, .int 0, .null, .null, .null, .int 0, .null, .null, .null, .int 0, .null, .null, .null, .int 0, .int 0])) :: wS ad cI cZ (mpN v0) (fun _ => 0) 0 ((fun _ => 0, fun _ => 0, 0, 0) : pc_C) (fun _ => 0) (fun _ => 0) (fun _ => 0) ((fun _ => 0, fun _ => 0, 0, 0) : pc_C) (fun _ => 0) ((fun _ => 0, fun _ => 0, 0, 0) : pc_C) false [] : va_W)) [20, 0, 1, 2, 3, 4, 5, 6, 7, 8, 9, 10, 11, 12, 13, 14, 15, 16, 17, 18, 19] (by decide) rfl ?_
  refine bV.dup G d_law_16 rfl ?_
  refine bV.aload_n G d_law_17 rfl ?_
  refine bV.iconst (v := nI 0) G d_law_18 (by decide) ?_
  refine bV.callSs G m_W_cell bw_102 bw_101 hX (c_W_cell hL) rfl rfl ⟨by decide, by decide⟩ ⟨by decide, by decide⟩ (Nat.le_of_ble_eq_true rfl) d_law_19 (fun x9 ws9 h9 => ?_)
  obtain ⟨rfl, h9c⟩ := h9
  rw [h9c]
  clear h9c
  rw [← hv0]
  refine bV.callIo G m_M_init rfl bw_542 bw_543 bw_541 (c_M_init (a := ma) (v := v0)) rfl rfl ⟨by decide, by decide⟩ ⟨by decide, by decide⟩ (Nat.le_of_ble_eq_true rfl) d_law_22 (fun ws9 h9 => ?_)
  obtain ⟨am, rfl, h9m⟩ := h9
  rw [h9m]
  clear h9m
  refine bV.astore_n G (lv' := [(0, .ref b), (1, .ref (ad 0)), (2, .ref (am 0))]) d_law_25 (by decide) rfl rfl ?_
  refine bV.iconst (v := nI 1) G d_law_26 (by decide) ?_
  refine bV.newarray (atype := .long) (ty := .long) (N := 1) (a0 := (1, .inr (.inl (fun _ => 0)))) G 2 bw_740 rfl (fun C h => by cases h) rfl (fun _ => rfl) (nI_pos (by decide)) (nI_clamp (by decide)) (by decide) (Nat.le_of_ble_eq_true rfl) (Nat.le_of_ble_eq_true rfl) d_law_27 (fun ao => ?_)
  refine bV.astore_n G (lv' := [(0, .ref b), (1, .ref (ad 0)), (2, .ref (am 0)), (3, .ref ao)]) d_law_29 (by decide) rfl rfl ?_
  refine bV.iconst (v := nI 1) G d_law_30 (by decide) ?_
  refine bV.istore G (lv' := [(0, .ref b), (1, .ref (ad 0)), (2, .ref (am 0)), (3, .ref ao), (4, .int (nI 1))]) d_law_31 (by decide) rfl rfl ?_
  refine bV.perm (ws' := wS ad cI cZ (mpN v0) (fun _ => 0) (aN A_0) ((fun _ => 0, fun _ => 0, 0, 0) : pc_C) (fun _ => 0) (fun _ => 0) (fun _ => 0) ((fun _ => 0, fun _ => 0, 0, 0) : pc_C) (fun _ => 0) ((fun _ => 0, fun _ => 0, 0, 0) : pc_C) (aCr A_0) ((ao, .inl (cJ, 1, .inr (.inl (fun _ => 0)))) :: wM am cI cZ (mpN v0) 0 (aCr A_0) (aFd A_0) (fun _ => 0) (aN A_0) (fun _ => 0) (aNp A_0) (fun _ => 0) (fun _ => 0) (fun _ => 0) 0 (fun _ => 0) (fun _ => 0) (fun _ => 0) 0 (fun _ => 0) (fun _ => 0) (fun _ => 0) 0 0 [])) [1, 2, 3, 4, 5, 6, 7, 8, 9, 10, 11, 12, 13, 14, 15, 16, 17, 18, 19, 20, 32, 0, 21, 22, 23, 24, 25, 26, 27, 28, 29, 30, 31] (by decide) rfl ?_
  refine bV.widen (k' := 40 + 3 * 0) (n' := 12000 + 18 * 0) (Nat.le_of_ble_eq_true rfl) (Nat.le_of_ble_eq_true rfl) ?_
  have hmp := (mpN_b v0).2.1
  exact law_loop G hX hL hE (L + 1) 0 1 A_0 _ _ _ _ _ _ _ _ _ 0 _ _ _ _ _ 0 0 0 0 _ _ _ _ _ _ rfl (by decide) (by decide) (by omega) (AI_0 hmp) (CL_0 hmp) MO_0
