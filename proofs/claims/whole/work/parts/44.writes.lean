/-! ===== the store: writes ===== -/
def apB (lg : Nat → Nat) (n : Nat) (f : Nat → Nat) (k : Nat) : Nat → Nat := fun i => if n ≤ i ∧ i < n + k then f (i - n) else lg i
theorem apB_0 {lg : Nat → Nat} {n : Nat} {f : Nat → Nat} : apB lg n f 0 = lg := by
  funext i
  exact if_neg (by omega)
theorem apB_s {lg : Nat → Nat} {n : Nat} {f : Nat → Nat} {k : Nat} : fup (apB lg n f k) (n + k) (f k) = apB lg n f (k + 1) := by
  funext i
  unfold fup apB
  by_cases h : i = n + k
  · subst h
    rw [if_pos rfl, if_pos (by omega), Nat.add_sub_cancel_left]
  · rw [if_neg h]
    by_cases h2 : n ≤ i ∧ i < n + k
    · rw [if_pos h2, if_pos (by omega)]
    · rw [if_neg h2, if_neg (by omega)]
theorem pcS_le {pl : Nat → Nat} {c : Nat} : ∀ n, (∀ j, j < n → pl j ≤ c) → pcS pl n ≤ c * n := by
  intro n
  induction n with
  | zero => intro _; exact Nat.zero_le _
  | succ n ih =>
    intro h
    have h1 := ih (fun j hj => h j (by omega))
    have h2 := h n (by omega)
    have h3 : pcS pl (n + 1) = pcS pl n + pl n := rfl
    rw [Nat.mul_succ]
    omega
theorem pc_R_congr {NI ns : Nat} {P : pc_C} {a : Nat} {b b' : Nat → Nat} {d d' : Nat → Nat → Nat} (h : pc_R NI ns P (a, b, d)) (hb : ∀ j, j ≤ a → b' j = b j) (hd : ∀ j i, j ≤ a → i < b j → d' j i = d j i) : pc_R NI ns P (a, b', d') := by
  obtain ⟨h1, h2, h3, h4, h5, h6, h7, h8, h9⟩ := h
  dsimp only at *
  have e : ∀ n, n ≤ a + 1 → pcS b' n = pcS b n := fun n hn => pcS_congr n (fun j hj => hb j (by omega))
  refine ⟨h1, h2, h3, h4, ?_, h6, fun j hj => ?_, fun j i hj hi => ?_, fun j i hj hi => ?_⟩
  · dsimp only; rw [e _ (Nat.le_refl _)]; exact h5
  · dsimp only at hj ⊢; rw [e _ (by omega)]; exact h7 j hj
  · dsimp only at hj hi ⊢; rw [hb j hj] at hi; rw [e _ (by omega), hd j i hj hi]; exact h8 j i hj hi
  · dsimp only at hj hi ⊢; rw [hb j hj] at hi; rw [hd j i hj hi]; exact h9 j i hj hi
theorem nI_nm1 {j : Nat} (h : j < 2 ^ 31) : nI j ≠ -1 := fun z => by
  have h1 := nI_pos' h
  rw [z] at h1
  exact absurd h1 (by decide)
def rec1 (lg : Nat → Nat) (n len : Nat) (f : Nat → Nat) : Nat → Nat := apB (fup (fup lg n 1) (n + 1) len) (n + 2) f len
def rec2 (lg : Nat → Nat) (n k v : Nat) : Nat → Nat := fup (fup lg n k) (n + 1) v
theorem d_S_closeFed_0 : decode b_S_closeFed 0 = .ok (.aload_n 0, 1) := by decide +kernel
theorem d_S_closeFed_1 : decode b_S_closeFed 1 = .ok (.getfield 21, 3) := by decide +kernel
theorem d_S_closeFed_4 : decode b_S_closeFed 4 = .ok (.invokevirtual 91, 3) := by decide +kernel
theorem d_S_closeFed_7 : decode b_S_closeFed 7 = .ok (.istore_n 1, 1) := by decide +kernel
theorem d_S_closeFed_8 : decode b_S_closeFed 8 = .ok (.aload_n 0, 1) := by decide +kernel
theorem d_S_closeFed_9 : decode b_S_closeFed 9 = .ok (.getfield 30, 3) := by decide +kernel
theorem d_S_closeFed_12 : decode b_S_closeFed 12 = .ok (.iload_n 1, 1) := by decide +kernel
theorem d_S_closeFed_13 : decode b_S_closeFed 13 = .ok (.invokevirtual 180, 3) := by decide +kernel
theorem d_S_closeFed_16 : decode b_S_closeFed 16 = .ok (.aload_n 0, 1) := by decide +kernel
theorem d_S_closeFed_17 : decode b_S_closeFed 17 = .ok (.getfield 40, 3) := by decide +kernel
theorem d_S_closeFed_20 : decode b_S_closeFed 20 = .ok (.iload_n 1, 1) := by decide +kernel
theorem d_S_closeFed_21 : decode b_S_closeFed 21 = .ok (.invokevirtual 69, 3) := by decide +kernel
theorem d_S_closeFed_24 : decode b_S_closeFed 24 = .ok (.iload_n 1, 1) := by decide +kernel
theorem d_S_closeFed_25 : decode b_S_closeFed 25 = .ok (.ireturn, 1) := by decide +kernel
set_option maxRecDepth 20000 in
set_option maxHeartbeats 4000000 in
theorem c_S_closeFed {D : va_G} {cI cZ cJ : ClassId} {ad : Nat → Nat} {mp : Nat} {lf : Nat → Int32} {n : Nat} {Pb : pc_C} {gt gp gh : Nat → Int32} {Pv : pc_C} {gd : Nat → Int32} {Pq : pc_C} {cr : Bool} {rest : va_W} {nb : Nat} {bl : Nat → Nat} {ba : Nat → Nat → Nat} {mt : Nat → Bool} {nv : Nat} {vl : Nat → Nat} {va : Nat → Nat → Nat} (hRb : pc_R 600 25 Pb (nb, bl, ba)) (hRt : mk_R 24 gt mt) (hRv : pc_R 104 13 Pv (nv, vl, va)) (hb : nb < 24) (hr : pcS vl (nv + 1) < 104) : bC D bcl (tys3 cI cZ cJ) y_S_closeFed ({ frames := 1, cells := 0, slots := 0, locals := 21 }) (wS ad cI cZ mp lf n Pb gt gp gh Pv gd Pq cr rest) [.ref (ad 0)] (bI (fun x ws9 => x = nI nb ∧ ∃ (Pb1 : pc_C) (gt1 : Nat → Int32) (Pv1 : pc_C), pc_R 600 25 Pb1 (nb + 1, fup bl (nb + 1) 0, ba) ∧ mk_R 24 gt1 (mk_up mt nb true) ∧ pc_R 104 13 Pv1 (nv, fup vl nv (vl nv + 1), fup2 va nv (vl nv) nb) ∧ ws9 = wS ad cI cZ mp lf n Pb1 gt1 gp gh Pv1 gd Pq cr rest) bno) := by
  have fb : nb < 25 := hRb.2.1
  have fv : nv < 13 := hRv.2.1
  refine bC.of (by decide) m_S_closeFed.1 (Nat.le_of_ble_eq_true rfl) ?_
  intro Γ G E0
  show bV D bcl Γ 2 (wS ad cI cZ mp lf n Pb gt gp gh Pv gd Pq cr rest) 0 0 0 [(0, .ref (ad 0))] []
  refine bV.aload_n G d_S_closeFed_0 rfl ?_
  refine bV.getf G cl_S 0 1 rfl (by decide) bw_74 rfl d_S_closeFed_1 ?_
  refine bV.callVi G m_P_close bw_254 bw_255 bw_253 (cS_b_close hRb (by omega)) 3 rfl rfl rfl rfl rfl ⟨by decide, by decide⟩ ⟨by decide, by decide⟩ (Nat.le_of_ble_eq_true rfl) d_S_closeFed_4 (fun x9 ws9 h9 => ?_)
  obtain ⟨rfl, Pb1, hRb2, h9e⟩ := h9
  rw [h9e]
  try dsimp only at hRb2
  try dsimp only
  refine bV.istore_n G (lv' := [(0, .ref (ad 0)), (1, .int (nI (nb)))]) d_S_closeFed_7 (by decide) rfl rfl ?_
  refine bV.aload_n G d_S_closeFed_8 rfl ?_
  refine bV.getf G cl_S 0 2 rfl (by decide) bw_75 rfl d_S_closeFed_9 ?_
  refine bV.iload_n G d_S_closeFed_12 rfl ?_
  refine bV.callVo G m_K_turnOn bw_258 bw_259 bw_257 (cS_t_turnOn (j := nb) hRt (by omega)) 6 rfl rfl rfl rfl rfl ⟨by decide, by decide⟩ ⟨by decide, by decide⟩ (Nat.le_of_ble_eq_true rfl) d_S_closeFed_13 (fun ws9 h9 => ?_)
  obtain ⟨gt3, hRt4, h9e⟩ := h9
  rw [h9e]
  refine bV.aload_n G d_S_closeFed_16 rfl ?_
  refine bV.getf G cl_S 0 5 rfl (by decide) bw_78 rfl d_S_closeFed_17 ?_
  refine bV.iload_n G d_S_closeFed_20 rfl ?_
  refine bV.callVo G m_P_add bw_193 bw_194 bw_192 (cS_v_add (x := nb) hRv (by omega) hr) 12 rfl rfl rfl rfl rfl ⟨by decide, by decide⟩ ⟨by decide, by decide⟩ (Nat.le_of_ble_eq_true rfl) d_S_closeFed_21 (fun ws9 h9 => ?_)
  obtain ⟨Pv5, hRv6, h9e⟩ := h9
  rw [h9e]
  try dsimp only at hRv6
  refine bV.iload_n G d_S_closeFed_24 rfl ?_
  exact bV.iretI G E0 rfl rfl (by decide) (by decide) d_S_closeFed_25 ⟨rfl, Pb1, gt3, Pv5, hRb2, hRt4, hRv6, rfl⟩
theorem d_S_takeNewBlock_0 : decode b_S_takeNewBlock 0 = .ok (.aload_n 0, 1) := by decide +kernel
theorem d_S_takeNewBlock_1 : decode b_S_takeNewBlock 1 = .ok (.getfield 21, 3) := by decide +kernel
theorem d_S_takeNewBlock_4 : decode b_S_takeNewBlock 4 = .ok (.invokevirtual 65, 3) := by decide +kernel
theorem d_S_takeNewBlock_7 : decode b_S_takeNewBlock 7 = .ok (.istore_n 1, 1) := by decide +kernel
theorem d_S_takeNewBlock_8 : decode b_S_takeNewBlock 8 = .ok (.aload_n 0, 1) := by decide +kernel
theorem d_S_takeNewBlock_9 : decode b_S_takeNewBlock 9 = .ok (.getfield 21, 3) := by decide +kernel
theorem d_S_takeNewBlock_12 : decode b_S_takeNewBlock 12 = .ok (.invokevirtual 82, 3) := by decide +kernel
theorem d_S_takeNewBlock_15 : decode b_S_takeNewBlock 15 = .ok (.ifCond .ne 16, 3) := by decide +kernel
theorem d_S_takeNewBlock_18 : decode b_S_takeNewBlock 18 = .ok (.aload_n 0, 1) := by decide +kernel
theorem d_S_takeNewBlock_19 : decode b_S_takeNewBlock 19 = .ok (.getfield 12, 3) := by decide +kernel
theorem d_S_takeNewBlock_22 : decode b_S_takeNewBlock 22 = .ok (.iconst 2, 1) := by decide +kernel
theorem d_S_takeNewBlock_23 : decode b_S_takeNewBlock 23 = .ok (.iload_n 1, 1) := by decide +kernel
theorem d_S_takeNewBlock_24 : decode b_S_takeNewBlock 24 = .ok (.iadd, 1) := by decide +kernel
theorem d_S_takeNewBlock_25 : decode b_S_takeNewBlock 25 = .ok (.invokevirtual 86, 3) := by decide +kernel
theorem d_S_takeNewBlock_28 : decode b_S_takeNewBlock 28 = .ok (.ifCond .ne 5, 3) := by decide +kernel
theorem d_S_takeNewBlock_31 : decode b_S_takeNewBlock 31 = .ok (.iconst (-1), 1) := by decide +kernel
theorem d_S_takeNewBlock_32 : decode b_S_takeNewBlock 32 = .ok (.ireturn, 1) := by decide +kernel
theorem d_S_takeNewBlock_33 : decode b_S_takeNewBlock 33 = .ok (.aload_n 0, 1) := by decide +kernel
theorem d_S_takeNewBlock_34 : decode b_S_takeNewBlock 34 = .ok (.getfield 12, 3) := by decide +kernel
theorem d_S_takeNewBlock_37 : decode b_S_takeNewBlock 37 = .ok (.iconst 1, 1) := by decide +kernel
theorem d_S_takeNewBlock_38 : decode b_S_takeNewBlock 38 = .ok (.invokevirtual 90, 3) := by decide +kernel
theorem d_S_takeNewBlock_41 : decode b_S_takeNewBlock 41 = .ok (.aload_n 0, 1) := by decide +kernel
theorem d_S_takeNewBlock_42 : decode b_S_takeNewBlock 42 = .ok (.getfield 12, 3) := by decide +kernel
theorem d_S_takeNewBlock_45 : decode b_S_takeNewBlock 45 = .ok (.iload_n 1, 1) := by decide +kernel
theorem d_S_takeNewBlock_46 : decode b_S_takeNewBlock 46 = .ok (.invokevirtual 90, 3) := by decide +kernel
theorem d_S_takeNewBlock_49 : decode b_S_takeNewBlock 49 = .ok (.iconst 0, 1) := by decide +kernel
theorem d_S_takeNewBlock_50 : decode b_S_takeNewBlock 50 = .ok (.istore_n 2, 1) := by decide +kernel
theorem d_S_takeNewBlock_51 : decode b_S_takeNewBlock 51 = .ok (.iload_n 2, 1) := by decide +kernel
theorem d_S_takeNewBlock_52 : decode b_S_takeNewBlock 52 = .ok (.iload_n 1, 1) := by decide +kernel
theorem d_S_takeNewBlock_53 : decode b_S_takeNewBlock 53 = .ok (.if_icmp .ge 24, 3) := by decide +kernel
theorem d_S_takeNewBlock_56 : decode b_S_takeNewBlock 56 = .ok (.aload_n 0, 1) := by decide +kernel
theorem d_S_takeNewBlock_57 : decode b_S_takeNewBlock 57 = .ok (.getfield 12, 3) := by decide +kernel
theorem d_S_takeNewBlock_60 : decode b_S_takeNewBlock 60 = .ok (.aload_n 0, 1) := by decide +kernel
theorem d_S_takeNewBlock_61 : decode b_S_takeNewBlock 61 = .ok (.getfield 21, 3) := by decide +kernel
theorem d_S_takeNewBlock_64 : decode b_S_takeNewBlock 64 = .ok (.iload_n 2, 1) := by decide +kernel
theorem d_S_takeNewBlock_65 : decode b_S_takeNewBlock 65 = .ok (.invokevirtual 216, 3) := by decide +kernel
theorem d_S_takeNewBlock_68 : decode b_S_takeNewBlock 68 = .ok (.invokevirtual 90, 3) := by decide +kernel
theorem d_S_takeNewBlock_71 : decode b_S_takeNewBlock 71 = .ok (.iinc 2 1, 3) := by decide +kernel
theorem d_S_takeNewBlock_74 : decode b_S_takeNewBlock 74 = .ok (.goto (-23), 3) := by decide +kernel
theorem d_S_takeNewBlock_77 : decode b_S_takeNewBlock 77 = .ok (.aload_n 0, 1) := by decide +kernel
theorem d_S_takeNewBlock_78 : decode b_S_takeNewBlock 78 = .ok (.invokevirtual 219, 3) := by decide +kernel
theorem d_S_takeNewBlock_81 : decode b_S_takeNewBlock 81 = .ok (.ireturn, 1) := by decide +kernel
set_option maxRecDepth 20000 in
set_option maxHeartbeats 4000000 in
theorem c_S_takeNewBlock {D : va_G} {cI cZ cJ : ClassId} {ad : Nat → Nat} {mp : Nat} {lf : Nat → Int32} {n : Nat} {Pb : pc_C} {gt gp gh : Nat → Int32} {Pv : pc_C} {gd : Nat → Int32} {Pq : pc_C} {cr : Bool} {rest : va_W} {lg : Nat → Nat} {nb : Nat} {bl : Nat → Nat} {ba : Nat → Nat → Nat} {mt : Nat → Bool} {nv : Nat} {vl : Nat → Nat} {va : Nat → Nat → Nat} (hRl : lg_R lf n lg) (hRb : pc_R 600 25 Pb (nb, bl, ba)) (hRt : mk_R 24 gt mt) (hRv : pc_R 104 13 Pv (nv, vl, va)) (hbl : bl nb ≤ 24) (hby : ∀ i, i < bl nb → ba nb i < 256) (hr : pcS vl (nv + 1) < 104) : bC D bcl (tys3 cI cZ cJ) y_S_takeNewBlock ({ frames := 3, cells := 0, slots := 0, locals := 66 }) (wS ad cI cZ mp lf n Pb gt gp gh Pv gd Pq cr rest) [.ref (ad 0)] (bI (fun x ws9 => ((nb = 24 ∨ 400 < n + 2 + bl nb) ∧ x = -1 ∧ ws9 = wS ad cI cZ mp lf n Pb gt gp gh Pv gd Pq cr rest) ∨ ((nb < 24 ∧ n + 2 + bl nb ≤ 400) ∧ x = nI nb ∧ ∃ lf1, lg_R lf1 (n + 2 + bl nb) (rec1 lg n (bl nb) (ba nb)) ∧ ∃ (Pb1 : pc_C) (gt1 : Nat → Int32) (Pv1 : pc_C), pc_R 600 25 Pb1 (nb + 1, fup bl (nb + 1) 0, ba) ∧ mk_R 24 gt1 (mk_up mt nb true) ∧ pc_R 104 13 Pv1 (nv, fup vl nv (vl nv + 1), fup2 va nv (vl nv) nb) ∧ ws9 = wS ad cI cZ mp lf1 (n + 2 + bl nb) Pb1 gt1 gp gh Pv1 gd Pq cr rest)) bno) := by
  have fl : n ≤ 400 := hRl.1
  have fb : nb < 25 := hRb.2.1
  have fv : nv < 13 := hRv.2.1
  refine bC.of (by decide) m_S_takeNewBlock.1 (Nat.le_of_ble_eq_true rfl) ?_
  intro Γ G E0
  show bV D bcl Γ 3 (wS ad cI cZ mp lf n Pb gt gp gh Pv gd Pq cr rest) 0 0 0 [(0, .ref (ad 0))] []
  have loop : ∀ (d : Nat) (k : Nat) (lz : Nat → Int32), nb < 24 → n + 2 + bl nb ≤ 400 → d + k = bl nb → lg_R lz (n + 2 + k) (apB (fup (fup lg n 1) (n + 1) (bl nb)) (n + 2) (ba nb) k) → bV D bcl Γ 3 (wS ad cI cZ mp lz (n + 2 + k) Pb gt gp gh Pv gd Pq cr rest) 0 0 51 [(0, .ref (ad 0)), (1, .int (nI (bl nb))), (2, .int (nI (k)))] [] := by
    intro d
    induction d with
    | zero =>
      intro k lz h15 h28 hd hRz
      refine bV.iload_n G d_S_takeNewBlock_51 rfl ?_
      refine bV.iload_n G d_S_takeNewBlock_52 rfl ?_
      refine bV.icmp_geN (tgt := 77) G d_S_takeNewBlock_53 (by decide) (by omega) (by omega) (fun c53 => ?_) (fun c53 => ?_)
      · obtain rfl : k = bl nb := by omega
        refine bV.aload_n G d_S_takeNewBlock_77 rfl ?_
        refine bV.callVi G m_S_closeFed bw_251 bw_s4 bw_249 (c_S_closeFed hRb hRt hRv (by omega) hr) 0 rfl rfl rfl rfl rfl ⟨by decide, by decide⟩ ⟨by decide, by decide⟩ (Nat.le_of_ble_eq_true rfl) d_S_takeNewBlock_78 (fun x9 ws9 h9 => ?_)
        obtain ⟨rfl, Pb1, gt1, Pv1, hRb1, hRt1, hRv1, h9e⟩ := h9
        rw [h9e]
        try dsimp only
        exact bV.iretI G E0 rfl rfl (by decide) (by decide) d_S_takeNewBlock_81 (Or.inr ⟨⟨by omega, by omega⟩, rfl, lz, hRz, Pb1, gt1, Pv1, hRb1, hRt1, hRv1, rfl⟩)
      · exfalso; omega
    | succ d ih =>
      intro k lz h15 h28 hd hRz
      refine bV.iload_n G d_S_takeNewBlock_51 rfl ?_
      refine bV.iload_n G d_S_takeNewBlock_52 rfl ?_
      refine bV.icmp_geN (tgt := 77) G d_S_takeNewBlock_53 (by decide) (by omega) (by omega) (fun c53 => ?_) (fun c53 => ?_)
      · exfalso; omega
      · refine bV.aload_n G d_S_takeNewBlock_56 rfl ?_
        refine bV.getf G cl_S 0 0 rfl (by decide) bw_73 rfl d_S_takeNewBlock_57 ?_
        refine bV.aload_n G d_S_takeNewBlock_60 rfl ?_
        refine bV.getf G cl_S 0 1 rfl (by decide) bw_74 rfl d_S_takeNewBlock_61 ?_
        refine bV.iload_n G d_S_takeNewBlock_64 rfl ?_
        refine bV.callVi G m_P_openAt bw_225 bw_226 bw_248 (c_P_openAt wS_b hRb (i := k) (by omega)) 3 rfl rfl rfl rfl rfl ⟨by decide, by decide⟩ ⟨by decide, by decide⟩ (Nat.le_of_ble_eq_true rfl) d_S_takeNewBlock_65 (fun x9 ws9 h9 => ?_)
        obtain ⟨rfl, h9e⟩ := h9
        rw [h9e]
        try dsimp only
        rw [if_pos (by show k < bl nb; omega)]
        have hb8 := hby k (by omega)
        refine bV.callVo G m_L_add bw_245 bw_246 bw_244 (cS_l_add (x := ba nb k) hRz (by omega) (by omega)) 1 rfl rfl rfl rfl rfl ⟨by decide, by decide⟩ ⟨by decide, by decide⟩ (Nat.le_of_ble_eq_true rfl) d_S_takeNewBlock_68 (fun ws9 h9 => ?_)
        obtain ⟨lf101, hRl102, h9e⟩ := h9
        rw [h9e]
        refine bV.iincN G (lv' := [(0, .ref (ad 0)), (1, .int (nI (bl nb))), (2, .int (nI (k + 1)))]) d_S_takeNewBlock_71 rfl (by decide) rfl rfl ?_
        refine bV.goto (tgt := 51) G d_S_takeNewBlock_74 (by decide) ?_
        exact ih (k + 1) lf101 h15 h28 (by omega) (by rw [← apB_s]; exact hRl102)
  refine bV.aload_n G d_S_takeNewBlock_0 rfl ?_
  refine bV.getf G cl_S 0 1 rfl (by decide) bw_74 rfl d_S_takeNewBlock_1 ?_
  refine bV.callVi G m_P_openLength bw_185 bw_186 bw_184 (c_P_openLength wS_b hRb) 3 rfl rfl rfl rfl rfl ⟨by decide, by decide⟩ ⟨by decide, by decide⟩ (Nat.le_of_ble_eq_true rfl) d_S_takeNewBlock_4 (fun x9 ws9 h9 => ?_)
  obtain ⟨rfl, h9e⟩ := h9
  rw [h9e]
  try dsimp only
  refine bV.istore_n G (lv' := [(0, .ref (ad 0)), (1, .int (nI (bl nb)))]) d_S_takeNewBlock_7 (by decide) rfl rfl ?_
  refine bV.aload_n G d_S_takeNewBlock_8 rfl ?_
  refine bV.getf G cl_S 0 1 rfl (by decide) bw_74 rfl d_S_takeNewBlock_9 ?_
  refine bV.callVi G m_P_isFull bw_233 bw_234 bw_232 (c_P_isFull wS_b hRb) 3 rfl rfl rfl rfl rfl ⟨by decide, by decide⟩ ⟨by decide, by decide⟩ (Nat.le_of_ble_eq_true rfl) d_S_takeNewBlock_12 (fun x9 ws9 h9 => ?_)
  obtain ⟨rfl, h9e⟩ := h9
  rw [h9e]
  try dsimp only
  refine bV.if_neB (tgt := 31) G d_S_takeNewBlock_15 (by decide) (fun c15 => ?_) (fun c15 => ?_)
  · have h15 := of_decide_eq_true c15
    refine bV.iconst (v := (-1)) G d_S_takeNewBlock_31 (by decide) ?_
    exact bV.iretI G E0 rfl rfl (by decide) (by decide) d_S_takeNewBlock_32 (Or.inl ⟨by omega, rfl, rfl⟩)
  · have h15 := of_decide_eq_false c15
    refine bV.aload_n G d_S_takeNewBlock_18 rfl ?_
    refine bV.getf G cl_S 0 0 rfl (by decide) bw_73 rfl d_S_takeNewBlock_19 ?_
    refine bV.iconst (v := nI 2) G d_S_takeNewBlock_22 (by decide) ?_
    refine bV.iload_n G d_S_takeNewBlock_23 rfl ?_
    refine bV.iaddN G d_S_takeNewBlock_24 ?_
    refine bV.callVi G m_L_hasRoom bw_241 bw_242 bw_240 (c_L_hasRoom wS_l hRl (y := 2 + (bl nb)) (by omega)) 1 rfl rfl rfl rfl rfl ⟨by decide, by decide⟩ ⟨by decide, by decide⟩ (Nat.le_of_ble_eq_true rfl) d_S_takeNewBlock_25 (fun x9 ws9 h9 => ?_)
    obtain ⟨rfl, h9e⟩ := h9
    rw [h9e]
    try dsimp only
    refine bV.if_neB (tgt := 33) G d_S_takeNewBlock_28 (by decide) (fun c28 => ?_) (fun c28 => ?_)
    · have h28 := of_decide_eq_true c28
      refine bV.aload_n G d_S_takeNewBlock_33 rfl ?_
      refine bV.getf G cl_S 0 0 rfl (by decide) bw_73 rfl d_S_takeNewBlock_34 ?_
      refine bV.iconst (v := nI 1) G d_S_takeNewBlock_37 (by decide) ?_
      refine bV.callVo G m_L_add bw_245 bw_246 bw_244 (cS_l_add (x := 1) hRl (by omega) (by omega)) 1 rfl rfl rfl rfl rfl ⟨by decide, by decide⟩ ⟨by decide, by decide⟩ (Nat.le_of_ble_eq_true rfl) d_S_takeNewBlock_38 (fun ws9 h9 => ?_)
      obtain ⟨lf1, hRl2, h9e⟩ := h9
      rw [h9e]
      refine bV.aload_n G d_S_takeNewBlock_41 rfl ?_
      refine bV.getf G cl_S 0 0 rfl (by decide) bw_73 rfl d_S_takeNewBlock_42 ?_
      refine bV.iload_n G d_S_takeNewBlock_45 rfl ?_
      refine bV.callVo G m_L_add bw_245 bw_246 bw_244 (cS_l_add (x := bl nb) hRl2 (by omega) (by omega)) 1 rfl rfl rfl rfl rfl ⟨by decide, by decide⟩ ⟨by decide, by decide⟩ (Nat.le_of_ble_eq_true rfl) d_S_takeNewBlock_46 (fun ws9 h9 => ?_)
      obtain ⟨lf3, hRl4, h9e⟩ := h9
      rw [h9e]
      refine bV.iconst (v := nI 0) G d_S_takeNewBlock_49 (by decide) ?_
      refine bV.istore_n G (lv' := [(0, .ref (ad 0)), (1, .int (nI (bl nb))), (2, .int (nI (0)))]) d_S_takeNewBlock_50 (by decide) rfl rfl ?_
      exact loop (bl nb) 0 lf3 (by omega) (by omega) (by omega) (by rw [apB_0]; exact hRl4)
    · have h28 := of_decide_eq_false c28
      refine bV.iconst (v := (-1)) G d_S_takeNewBlock_31 (by decide) ?_
      exact bV.iretI G E0 rfl rfl (by decide) (by decide) d_S_takeNewBlock_32 (Or.inl ⟨by omega, rfl, rfl⟩)
theorem d_S_takeOldBlock_0 : decode b_S_takeOldBlock 0 = .ok (.aload_n 0, 1) := by decide +kernel
theorem d_S_takeOldBlock_1 : decode b_S_takeOldBlock 1 = .ok (.getfield 12, 3) := by decide +kernel
theorem d_S_takeOldBlock_4 : decode b_S_takeOldBlock 4 = .ok (.iconst 2, 1) := by decide +kernel
theorem d_S_takeOldBlock_5 : decode b_S_takeOldBlock 5 = .ok (.invokevirtual 86, 3) := by decide +kernel
theorem d_S_takeOldBlock_8 : decode b_S_takeOldBlock 8 = .ok (.ifCond .ne 5, 3) := by decide +kernel
theorem d_S_takeOldBlock_11 : decode b_S_takeOldBlock 11 = .ok (.iconst (-1), 1) := by decide +kernel
theorem d_S_takeOldBlock_12 : decode b_S_takeOldBlock 12 = .ok (.ireturn, 1) := by decide +kernel
theorem d_S_takeOldBlock_13 : decode b_S_takeOldBlock 13 = .ok (.aload_n 0, 1) := by decide +kernel
theorem d_S_takeOldBlock_14 : decode b_S_takeOldBlock 14 = .ok (.getfield 12, 3) := by decide +kernel
theorem d_S_takeOldBlock_17 : decode b_S_takeOldBlock 17 = .ok (.iconst 2, 1) := by decide +kernel
theorem d_S_takeOldBlock_18 : decode b_S_takeOldBlock 18 = .ok (.invokevirtual 90, 3) := by decide +kernel
theorem d_S_takeOldBlock_21 : decode b_S_takeOldBlock 21 = .ok (.aload_n 0, 1) := by decide +kernel
theorem d_S_takeOldBlock_22 : decode b_S_takeOldBlock 22 = .ok (.getfield 12, 3) := by decide +kernel
theorem d_S_takeOldBlock_25 : decode b_S_takeOldBlock 25 = .ok (.iload_n 1, 1) := by decide +kernel
theorem d_S_takeOldBlock_26 : decode b_S_takeOldBlock 26 = .ok (.invokevirtual 90, 3) := by decide +kernel
theorem d_S_takeOldBlock_29 : decode b_S_takeOldBlock 29 = .ok (.aload_n 0, 1) := by decide +kernel
theorem d_S_takeOldBlock_30 : decode b_S_takeOldBlock 30 = .ok (.getfield 21, 3) := by decide +kernel
theorem d_S_takeOldBlock_33 : decode b_S_takeOldBlock 33 = .ok (.invokevirtual 222, 3) := by decide +kernel
theorem d_S_takeOldBlock_36 : decode b_S_takeOldBlock 36 = .ok (.aload_n 0, 1) := by decide +kernel
theorem d_S_takeOldBlock_37 : decode b_S_takeOldBlock 37 = .ok (.getfield 40, 3) := by decide +kernel
theorem d_S_takeOldBlock_40 : decode b_S_takeOldBlock 40 = .ok (.iload_n 1, 1) := by decide +kernel
theorem d_S_takeOldBlock_41 : decode b_S_takeOldBlock 41 = .ok (.invokevirtual 69, 3) := by decide +kernel
theorem d_S_takeOldBlock_44 : decode b_S_takeOldBlock 44 = .ok (.iload_n 1, 1) := by decide +kernel
theorem d_S_takeOldBlock_45 : decode b_S_takeOldBlock 45 = .ok (.ireturn, 1) := by decide +kernel
set_option maxRecDepth 20000 in
set_option maxHeartbeats 4000000 in
theorem c_S_takeOldBlock {D : va_G} {cI cZ cJ : ClassId} {ad : Nat → Nat} {mp : Nat} {lf : Nat → Int32} {n : Nat} {Pb : pc_C} {gt gp gh : Nat → Int32} {Pv : pc_C} {gd : Nat → Int32} {Pq : pc_C} {cr : Bool} {rest : va_W} {lg : Nat → Nat} {nb : Nat} {bl : Nat → Nat} {ba : Nat → Nat → Nat} {nv : Nat} {vl : Nat → Nat} {va : Nat → Nat → Nat} (hRl : lg_R lf n lg) (hRb : pc_R 600 25 Pb (nb, bl, ba)) (hRv : pc_R 104 13 Pv (nv, vl, va)) {j : Nat} (hj : j < nb) (hr : pcS vl (nv + 1) < 104) : bC D bcl (tys3 cI cZ cJ) y_S_takeOldBlock ({ frames := 3, cells := 0, slots := 0, locals := 62 }) (wS ad cI cZ mp lf n Pb gt gp gh Pv gd Pq cr rest) [.ref (ad 0), .int (nI (j))] (bI (fun x ws9 => (400 < n + 2 ∧ x = -1 ∧ ws9 = wS ad cI cZ mp lf n Pb gt gp gh Pv gd Pq cr rest) ∨ (n + 2 ≤ 400 ∧ x = nI j ∧ ∃ (lf1 : Nat → Int32) (Pb1 Pv1 : pc_C), lg_R lf1 (n + 2) (rec2 lg n 2 j) ∧ pc_R 600 25 Pb1 (nb, fup bl nb 0, ba) ∧ pc_R 104 13 Pv1 (nv, fup vl nv (vl nv + 1), fup2 va nv (vl nv) j) ∧ ws9 = wS ad cI cZ mp lf1 (n + 2) Pb1 gt gp gh Pv1 gd Pq cr rest)) bno) := by
  have fl : n ≤ 400 := hRl.1
  have fb : nb < 25 := hRb.2.1
  have fv : nv < 13 := hRv.2.1
  refine bC.of (by decide) m_S_takeOldBlock.1 (Nat.le_of_ble_eq_true rfl) ?_
  intro Γ G E0
  show bV D bcl Γ 2 (wS ad cI cZ mp lf n Pb gt gp gh Pv gd Pq cr rest) 0 0 0 [(0, .ref (ad 0)), (1, .int (nI (j)))] []
  refine bV.aload_n G d_S_takeOldBlock_0 rfl ?_
  refine bV.getf G cl_S 0 0 rfl (by decide) bw_73 rfl d_S_takeOldBlock_1 ?_
  refine bV.iconst (v := nI 2) G d_S_takeOldBlock_4 (by decide) ?_
  refine bV.callVi G m_L_hasRoom bw_241 bw_242 bw_240 (c_L_hasRoom wS_l hRl (y := 2) (by omega)) 1 rfl rfl rfl rfl rfl ⟨by decide, by decide⟩ ⟨by decide, by decide⟩ (Nat.le_of_ble_eq_true rfl) d_S_takeOldBlock_5 (fun x9 ws9 h9 => ?_)
  obtain ⟨rfl, h9e⟩ := h9
  rw [h9e]
  try dsimp only
  refine bV.if_neB (tgt := 13) G d_S_takeOldBlock_8 (by decide) (fun c8 => ?_) (fun c8 => ?_)
  · have h8 := of_decide_eq_true c8
    refine bV.aload_n G d_S_takeOldBlock_13 rfl ?_
    refine bV.getf G cl_S 0 0 rfl (by decide) bw_73 rfl d_S_takeOldBlock_14 ?_
    refine bV.iconst (v := nI 2) G d_S_takeOldBlock_17 (by decide) ?_
    refine bV.callVo G m_L_add bw_245 bw_246 bw_244 (cS_l_add (x := 2) hRl (by omega) (by omega)) 1 rfl rfl rfl rfl rfl ⟨by decide, by decide⟩ ⟨by decide, by decide⟩ (Nat.le_of_ble_eq_true rfl) d_S_takeOldBlock_18 (fun ws9 h9 => ?_)
    obtain ⟨lf1, hRl2, h9e⟩ := h9
    rw [h9e]
    refine bV.aload_n G d_S_takeOldBlock_21 rfl ?_
    refine bV.getf G cl_S 0 0 rfl (by decide) bw_73 rfl d_S_takeOldBlock_22 ?_
    refine bV.iload_n G d_S_takeOldBlock_25 rfl ?_
    refine bV.callVo G m_L_add bw_245 bw_246 bw_244 (cS_l_add (x := j) hRl2 (by omega) (by omega)) 1 rfl rfl rfl rfl rfl ⟨by decide, by decide⟩ ⟨by decide, by decide⟩ (Nat.le_of_ble_eq_true rfl) d_S_takeOldBlock_26 (fun ws9 h9 => ?_)
    obtain ⟨lf3, hRl4, h9e⟩ := h9
    rw [h9e]
    refine bV.aload_n G d_S_takeOldBlock_29 rfl ?_
    refine bV.getf G cl_S 0 1 rfl (by decide) bw_74 rfl d_S_takeOldBlock_30 ?_
    refine bV.callVo G m_P_clearOpen bw_266 bw_267 bw_265 (cS_b_clearOpen hRb) 3 rfl rfl rfl rfl rfl ⟨by decide, by decide⟩ ⟨by decide, by decide⟩ (Nat.le_of_ble_eq_true rfl) d_S_takeOldBlock_33 (fun ws9 h9 => ?_)
    obtain ⟨Pb5, hRb6, h9e⟩ := h9
    rw [h9e]
    try dsimp only at hRb6
    refine bV.aload_n G d_S_takeOldBlock_36 rfl ?_
    refine bV.getf G cl_S 0 5 rfl (by decide) bw_78 rfl d_S_takeOldBlock_37 ?_
    refine bV.iload_n G d_S_takeOldBlock_40 rfl ?_
    refine bV.callVo G m_P_add bw_193 bw_194 bw_192 (cS_v_add (x := j) hRv (by omega) hr) 12 rfl rfl rfl rfl rfl ⟨by decide, by decide⟩ ⟨by decide, by decide⟩ (Nat.le_of_ble_eq_true rfl) d_S_takeOldBlock_41 (fun ws9 h9 => ?_)
    obtain ⟨Pv7, hRv8, h9e⟩ := h9
    rw [h9e]
    try dsimp only at hRv8
    refine bV.iload_n G d_S_takeOldBlock_44 rfl ?_
    exact bV.iretI G E0 rfl rfl (by decide) (by decide) d_S_takeOldBlock_45 (Or.inr ⟨by omega, rfl, lf3, Pb5, Pv7, hRl4, hRb6, hRv8, rfl⟩)
  · have h8 := of_decide_eq_false c8
    refine bV.iconst (v := (-1)) G d_S_takeOldBlock_11 (by decide) ?_
    exact bV.iretI G E0 rfl rfl (by decide) (by decide) d_S_takeOldBlock_12 (Or.inl ⟨by omega, rfl, rfl⟩)
def hldS (md : Nat → Bool) (vl : Nat → Nat) (va : Nat → Nat → Nat) (nv b : Nat) : Prop := ∃ v, v ≤ nv ∧ ∃ k, k < lenV md vl v ∧ va v k = b
noncomputable def hlB (md : Nat → Bool) (vl : Nat → Nat) (va : Nat → Nat → Nat) (nv : Nat) : Nat → Bool := fun b => dcd (hldS md vl va nv b)
theorem dcd_fun {m : Nat → Bool} {P : Nat → Prop} (h : ∀ b, m b = true ↔ P b) : m = fun b => dcd (P b) := by
  funext b
  by_cases z : P b
  · rw [dcd_t z]; exact (h b).mpr z
  · rw [dcd_f z]
    cases e : m b
    · rfl
    · exact absurd ((h b).mp e) z
theorem mk_up_iff {m : Nat → Bool} {j : Nat} {P Q : Nat → Prop} (h : ∀ b, m b = true ↔ P b) (hq : ∀ b, Q b ↔ P b ∨ j = b) : ∀ b, mk_up m j true b = true ↔ Q b := by
  intro b
  unfold mk_up
  by_cases z : b = j
  · subst z
    rw [if_pos rfl]
    exact ⟨fun _ => (hq _).mpr (Or.inr rfl), fun _ => rfl⟩
  · rw [if_neg z]
    exact (h b).trans ⟨fun y => (hq b).mpr (Or.inl y), fun y => ((hq b).mp y).elim id (fun y => absurd y.symm z)⟩
def swS (mt hl : Nat → Bool) (j : Nat) : Nat → Bool := fun b => if b < j then mt b && hl b else mt b
theorem swS_0 {mt hl : Nat → Bool} : swS mt hl 0 = mt := by
  funext b
  exact if_neg (Nat.not_lt_zero _)
theorem swS_j {mt hl : Nat → Bool} {j : Nat} : swS mt hl j j = mt j := if_neg (Nat.lt_irrefl _)
theorem swS_off {mt hl : Nat → Bool} {j : Nat} (h : hl j = false) : mk_up (swS mt hl j) j false = swS mt hl (j + 1) := by
  funext b
  unfold mk_up swS
  by_cases z : b = j
  · subst z
    rw [if_pos rfl, if_pos (Nat.lt_succ_self _), h, Bool.and_false]
  · rw [if_neg z]
    by_cases y : b < j
    · rw [if_pos y, if_pos (by omega)]
    · rw [if_neg y, if_neg (by omega)]
theorem swS_on {mt hl : Nat → Bool} {j : Nat} (h : mt j = false ∨ hl j = true) : swS mt hl j = swS mt hl (j + 1) := by
  funext b
  unfold swS
  by_cases z : b = j
  · subst z
    rw [if_neg (Nat.lt_irrefl _), if_pos (Nat.lt_succ_self _)]
    rcases h with h | h
    · rw [h]; rfl
    · rw [h, Bool.and_true]
  · by_cases y : b < j
    · rw [if_pos y, if_pos (by omega)]
    · rw [if_neg y, if_neg (by omega)]
theorem d_S_markHeldBlocks_0 : decode b_S_markHeldBlocks 0 = .ok (.aload_n 0, 1) := by decide +kernel
theorem d_S_markHeldBlocks_1 : decode b_S_markHeldBlocks 1 = .ok (.getfield 37, 3) := by decide +kernel
theorem d_S_markHeldBlocks_4 : decode b_S_markHeldBlocks 4 = .ok (.invokevirtual 231, 3) := by decide +kernel
theorem d_S_markHeldBlocks_7 : decode b_S_markHeldBlocks 7 = .ok (.iconst 0, 1) := by decide +kernel
theorem d_S_markHeldBlocks_8 : decode b_S_markHeldBlocks 8 = .ok (.istore_n 1, 1) := by decide +kernel
theorem d_S_markHeldBlocks_9 : decode b_S_markHeldBlocks 9 = .ok (.iload_n 1, 1) := by decide +kernel
theorem d_S_markHeldBlocks_10 : decode b_S_markHeldBlocks 10 = .ok (.aload_n 0, 1) := by decide +kernel
theorem d_S_markHeldBlocks_11 : decode b_S_markHeldBlocks 11 = .ok (.getfield 40, 3) := by decide +kernel
theorem d_S_markHeldBlocks_14 : decode b_S_markHeldBlocks 14 = .ok (.invokevirtual 123, 3) := by decide +kernel
theorem d_S_markHeldBlocks_17 : decode b_S_markHeldBlocks 17 = .ok (.if_icmp .gt 44, 3) := by decide +kernel
theorem d_S_markHeldBlocks_20 : decode b_S_markHeldBlocks 20 = .ok (.aload_n 0, 1) := by decide +kernel
theorem d_S_markHeldBlocks_21 : decode b_S_markHeldBlocks 21 = .ok (.iload_n 1, 1) := by decide +kernel
theorem d_S_markHeldBlocks_22 : decode b_S_markHeldBlocks 22 = .ok (.invokevirtual 104, 3) := by decide +kernel
theorem d_S_markHeldBlocks_25 : decode b_S_markHeldBlocks 25 = .ok (.istore_n 2, 1) := by decide +kernel
theorem d_S_markHeldBlocks_26 : decode b_S_markHeldBlocks 26 = .ok (.iconst 0, 1) := by decide +kernel
theorem d_S_markHeldBlocks_27 : decode b_S_markHeldBlocks 27 = .ok (.istore_n 3, 1) := by decide +kernel
theorem d_S_markHeldBlocks_28 : decode b_S_markHeldBlocks 28 = .ok (.iload_n 3, 1) := by decide +kernel
theorem d_S_markHeldBlocks_29 : decode b_S_markHeldBlocks 29 = .ok (.iload_n 2, 1) := by decide +kernel
theorem d_S_markHeldBlocks_30 : decode b_S_markHeldBlocks 30 = .ok (.if_icmp .ge 25, 3) := by decide +kernel
theorem d_S_markHeldBlocks_33 : decode b_S_markHeldBlocks 33 = .ok (.aload_n 0, 1) := by decide +kernel
theorem d_S_markHeldBlocks_34 : decode b_S_markHeldBlocks 34 = .ok (.getfield 37, 3) := by decide +kernel
theorem d_S_markHeldBlocks_37 : decode b_S_markHeldBlocks 37 = .ok (.aload_n 0, 1) := by decide +kernel
theorem d_S_markHeldBlocks_38 : decode b_S_markHeldBlocks 38 = .ok (.getfield 40, 3) := by decide +kernel
theorem d_S_markHeldBlocks_41 : decode b_S_markHeldBlocks 41 = .ok (.iload_n 1, 1) := by decide +kernel
theorem d_S_markHeldBlocks_42 : decode b_S_markHeldBlocks 42 = .ok (.iload_n 3, 1) := by decide +kernel
theorem d_S_markHeldBlocks_43 : decode b_S_markHeldBlocks 43 = .ok (.invokevirtual 107, 3) := by decide +kernel
theorem d_S_markHeldBlocks_46 : decode b_S_markHeldBlocks 46 = .ok (.invokevirtual 180, 3) := by decide +kernel
theorem d_S_markHeldBlocks_49 : decode b_S_markHeldBlocks 49 = .ok (.iinc 3 1, 3) := by decide +kernel
theorem d_S_markHeldBlocks_52 : decode b_S_markHeldBlocks 52 = .ok (.goto (-24), 3) := by decide +kernel
theorem d_S_markHeldBlocks_55 : decode b_S_markHeldBlocks 55 = .ok (.iinc 1 1, 3) := by decide +kernel
theorem d_S_markHeldBlocks_58 : decode b_S_markHeldBlocks 58 = .ok (.goto (-49), 3) := by decide +kernel
theorem d_S_markHeldBlocks_61 : decode b_S_markHeldBlocks 61 = .ok (.return_, 1) := by decide +kernel
set_option maxRecDepth 20000 in
set_option maxHeartbeats 4000000 in
theorem c_S_markHeldBlocks {D : va_G} {cI cZ cJ : ClassId} {ad : Nat → Nat} {mp : Nat} {lf : Nat → Int32} {n : Nat} {Pb : pc_C} {gt gp gh : Nat → Int32} {Pv : pc_C} {gd : Nat → Int32} {Pq : pc_C} {cr : Bool} {rest : va_W} {nb : Nat} {bl : Nat → Nat} {ba : Nat → Nat → Nat} {nv : Nat} {vl : Nat → Nat} {va : Nat → Nat → Nat} {md : Nat → Bool} {mh : Nat → Bool} (hRb : pc_R 600 25 Pb (nb, bl, ba)) (hRv : pc_R 104 13 Pv (nv, vl, va)) (hRd : mk_R 12 gd md) (hRh : mk_R 24 gh mh) (hvb : ∀ v k, v ≤ nv → k < vl v → va v k < nb) : bC D bcl (tys3 cI cZ cJ) y_S_markHeldBlocks ({ frames := 2, cells := 0, slots := 0, locals := 45 }) (wS ad cI cZ mp lf n Pb gt gp gh Pv gd Pq cr rest) [.ref (ad 0)] (bO (fun ws9 => ∃ (gh1 : Nat → Int32), mk_R 24 gh1 (hlB md vl va nv) ∧ ws9 = wS ad cI cZ mp lf n Pb gt gp gh1 Pv gd Pq cr rest) bno) := by
  have fb : nb < 25 := hRb.2.1
  have fv : nv < 13 := hRv.2.1
  refine bC.of (by decide) m_S_markHeldBlocks.1 (Nat.le_of_ble_eq_true rfl) ?_
  intro Γ G E0
  show bV D bcl Γ 4 (wS ad cI cZ mp lf n Pb gt gp gh Pv gd Pq cr rest) 0 0 0 [(0, .ref (ad 0))] []
  have inner : ∀ (d : Nat) (v k : Nat) (gz : Nat → Int32) (mz : Nat → Bool), (∀ (gz : Nat → Int32) (mz : Nat → Bool), mk_R 24 gz mz → (∀ b, mz b = true ↔ ∃ v0, v0 < v + 1 ∧ ∃ k, k < lenV md vl v0 ∧ va v0 k = b) → bV D bcl Γ 4 (wS ad cI cZ mp lf n Pb gt gp gz Pv gd Pq cr rest) 0 0 55 [(0, .ref (ad 0)), (1, .int (nI v))] []) → v ≤ nv → d + k = lenV md vl v → mk_R 24 gz mz → (∀ b, mz b = true ↔ (∃ v0, v0 < v ∧ ∃ k0, k0 < lenV md vl v0 ∧ va v0 k0 = b) ∨ ∃ k0, k0 < k ∧ va v k0 = b) → bV D bcl Γ 4 (wS ad cI cZ mp lf n Pb gt gp gz Pv gd Pq cr rest) 0 0 28 [(0, .ref (ad 0)), (1, .int (nI (v))), (2, .int (nI (lenV md vl v))), (3, .int (nI (k)))] [] := by
    intro d
    induction d with
    | zero =>
      intro v k gz mz cont hv hd hRz hm
      have hlv := lenV_le md vl v
      have hl9 : vl v ≤ 104 := pc_R_len (A := (nv, vl, va)) hRv hv
      refine bV.iload_n G d_S_markHeldBlocks_28 rfl ?_
      refine bV.iload_n G d_S_markHeldBlocks_29 rfl ?_
      refine bV.icmp_geN (tgt := 55) G d_S_markHeldBlocks_30 (by decide) (by omega) (by omega) (fun c30 => ?_) (fun c30 => ?_)
      · refine bV.ltake (lv' := [(0, .ref (ad 0)), (1, .int (nI (v)))]) (ex := [(2, .int (nI (lenV md vl v))), (3, .int (nI (k)))]) rfl ?_
        exact cont gz mz hRz (fun b => (hm b).trans ⟨fun z => z.elim (fun ⟨v0, z1, z2⟩ => ⟨v0, by omega, z2⟩) (fun ⟨k0, z1, z2⟩ => ⟨v, by omega, k0, by omega, z2⟩), fun ⟨v0, z1, k0, z2, z3⟩ => by rcases Nat.lt_or_ge v0 v with y | y; exact Or.inl ⟨v0, y, k0, z2, z3⟩; obtain rfl : v0 = v := (by omega); exact Or.inr ⟨k0, by omega, z3⟩⟩)
      · exfalso; omega
    | succ d ih =>
      intro v k gz mz cont hv hd hRz hm
      have hlv := lenV_le md vl v
      have hl9 : vl v ≤ 104 := pc_R_len (A := (nv, vl, va)) hRv hv
      refine bV.iload_n G d_S_markHeldBlocks_28 rfl ?_
      refine bV.iload_n G d_S_markHeldBlocks_29 rfl ?_
      refine bV.icmp_geN (tgt := 55) G d_S_markHeldBlocks_30 (by decide) (by omega) (by omega) (fun c30 => ?_) (fun c30 => ?_)
      · exfalso; omega
      · refine bV.aload_n G d_S_markHeldBlocks_33 rfl ?_
        refine bV.getf G cl_S 0 4 rfl (by decide) bw_77 rfl d_S_markHeldBlocks_34 ?_
        refine bV.aload_n G d_S_markHeldBlocks_37 rfl ?_
        refine bV.getf G cl_S 0 5 rfl (by decide) bw_78 rfl d_S_markHeldBlocks_38 ?_
        refine bV.iload_n G d_S_markHeldBlocks_41 rfl ?_
        refine bV.iload_n G d_S_markHeldBlocks_42 rfl ?_
        refine bV.callVi G m_P_at bw_221 bw_222 bw_322 (c_P_at wS_v hRv (j := v) (i := k) (by first | omega | exact Nat.le_refl _) (by omega)) 12 rfl rfl rfl rfl rfl ⟨by decide, by decide⟩ ⟨by decide, by decide⟩ (Nat.le_of_ble_eq_true rfl) d_S_markHeldBlocks_43 (fun x9 ws9 h9 => ?_)
        obtain ⟨rfl, h9e⟩ := h9
        rw [h9e]
        try dsimp only
        rw [if_pos (by show k < vl v; omega)]
        have hvk : va v k < nb := hvb v k (by omega) (by omega)
        refine bV.callVo G m_K_turnOn bw_258 bw_259 bw_257 (cS_h_turnOn (j := va v k) hRz (by omega)) 10 rfl rfl rfl rfl rfl ⟨by decide, by decide⟩ ⟨by decide, by decide⟩ (Nat.le_of_ble_eq_true rfl) d_S_markHeldBlocks_46 (fun ws9 h9 => ?_)
        obtain ⟨gh101, hRh102, h9e⟩ := h9
        rw [h9e]
        refine bV.iincN G (lv' := [(0, .ref (ad 0)), (1, .int (nI (v))), (2, .int (nI (lenV md vl v))), (3, .int (nI (k + 1)))]) d_S_markHeldBlocks_49 rfl (by decide) rfl rfl ?_
        refine bV.goto (tgt := 28) G d_S_markHeldBlocks_52 (by decide) ?_
        exact ih v (k + 1) gh101 (mk_up mz (va v k) true) cont hv (by omega) hRh102 (mk_up_iff hm (fun b => ⟨fun z => z.elim (fun y => Or.inl (Or.inl y)) (fun ⟨k0, z1, z2⟩ => by rcases Nat.lt_or_ge k0 k with y | y; exact Or.inl (Or.inr ⟨k0, y, z2⟩); obtain rfl : k0 = k := (by omega); exact Or.inr z2), fun z => z.elim (fun y => y.elim Or.inl (fun ⟨k0, z1, z2⟩ => Or.inr ⟨k0, by omega, z2⟩)) (fun y => Or.inr ⟨k, by omega, y⟩)⟩))
  have loop : ∀ (d : Nat) (v : Nat) (gz : Nat → Int32) (mz : Nat → Bool), d + v = nv + 1 → mk_R 24 gz mz → (∀ b, mz b = true ↔ ∃ v0, v0 < v ∧ ∃ k, k < lenV md vl v0 ∧ va v0 k = b) → bV D bcl Γ 4 (wS ad cI cZ mp lf n Pb gt gp gz Pv gd Pq cr rest) 0 0 9 [(0, .ref (ad 0)), (1, .int (nI (v)))] [] := by
    intro d
    induction d with
    | zero =>
      intro v gz mz hd hRz hm
      refine bV.iload_n G d_S_markHeldBlocks_9 rfl ?_
      refine bV.aload_n G d_S_markHeldBlocks_10 rfl ?_
      refine bV.getf G cl_S 0 5 rfl (by decide) bw_78 rfl d_S_markHeldBlocks_11 ?_
      refine bV.callVi G m_P_count bw_208 bw_209 bw_207 (c_P_count wS_v hRv) 12 rfl rfl rfl rfl rfl ⟨by decide, by decide⟩ ⟨by decide, by decide⟩ (Nat.le_of_ble_eq_true rfl) d_S_markHeldBlocks_14 (fun x9 ws9 h9 => ?_)
      obtain ⟨rfl, h9e⟩ := h9
      rw [h9e]
      try dsimp only
      refine bV.icmp_gtN (tgt := 61) G d_S_markHeldBlocks_17 (by decide) (by omega) (by omega) (fun c17 => ?_) (fun c17 => ?_)
      · exact bV.vretO G E0 rfl (by decide) (by decide) d_S_markHeldBlocks_61 ⟨gz, by rw [show hlB md vl va nv = mz from (dcd_fun (fun b => (hm b).trans ⟨fun ⟨v0, z1, z2⟩ => ⟨v0, by omega, z2⟩, fun ⟨v0, z1, z2⟩ => ⟨v0, by omega, z2⟩⟩)).symm]; exact hRz, rfl⟩
      · exfalso; omega
    | succ d ih =>
      intro v gz mz hd hRz hm
      refine bV.iload_n G d_S_markHeldBlocks_9 rfl ?_
      refine bV.aload_n G d_S_markHeldBlocks_10 rfl ?_
      refine bV.getf G cl_S 0 5 rfl (by decide) bw_78 rfl d_S_markHeldBlocks_11 ?_
      refine bV.callVi G m_P_count bw_208 bw_209 bw_207 (c_P_count wS_v hRv) 12 rfl rfl rfl rfl rfl ⟨by decide, by decide⟩ ⟨by decide, by decide⟩ (Nat.le_of_ble_eq_true rfl) d_S_markHeldBlocks_14 (fun x9 ws9 h9 => ?_)
      obtain ⟨rfl, h9e⟩ := h9
      rw [h9e]
      try dsimp only
      refine bV.icmp_gtN (tgt := 61) G d_S_markHeldBlocks_17 (by decide) (by omega) (by omega) (fun c17 => ?_) (fun c17 => ?_)
      · exfalso; omega
      · have hlv := lenV_le md vl v; have hl9 : vl v ≤ 104 := pc_R_len (A := (nv, vl, va)) hRv (by omega)
        refine bV.aload_n G d_S_markHeldBlocks_20 rfl ?_
        refine bV.iload_n G d_S_markHeldBlocks_21 rfl ?_
        refine bV.callVi G m_S_lengthOfVersion bw_319 bw_s9 bw_317 (c_S_lengthOfVersion hRv hRd (v := v) (by omega)) 0 rfl rfl rfl rfl rfl ⟨by decide, by decide⟩ ⟨by decide, by decide⟩ (Nat.le_of_ble_eq_true rfl) d_S_markHeldBlocks_22 (fun x9 ws9 h9 => ?_)
        obtain ⟨rfl, h9e⟩ := h9
        rw [h9e]
        try dsimp only
        refine bV.istore_n G (lv' := [(0, .ref (ad 0)), (1, .int (nI (v))), (2, .int (nI (lenV md vl v)))]) d_S_markHeldBlocks_25 (by decide) rfl rfl ?_
        refine bV.iconst (v := nI 0) G d_S_markHeldBlocks_26 (by decide) ?_
        refine bV.istore_n G (lv' := [(0, .ref (ad 0)), (1, .int (nI (v))), (2, .int (nI (lenV md vl v))), (3, .int (nI (0)))]) d_S_markHeldBlocks_27 (by decide) rfl rfl ?_
        refine inner (lenV md vl v) v 0 gz mz (fun gz mz hRz hm => ?_) (by omega) (by omega) hRz (fun b => (hm b).trans ⟨Or.inl, fun z => z.elim id (fun ⟨k0, z1, _⟩ => absurd z1 (Nat.not_lt_zero _))⟩)
        refine bV.iincN G (lv' := [(0, .ref (ad 0)), (1, .int (nI (v + 1)))]) d_S_markHeldBlocks_55 rfl (by decide) rfl rfl ?_
        refine bV.goto (tgt := 9) G d_S_markHeldBlocks_58 (by decide) ?_
        exact ih (v + 1) gz mz (by omega) hRz hm
  refine bV.aload_n G d_S_markHeldBlocks_0 rfl ?_
  refine bV.getf G cl_S 0 4 rfl (by decide) bw_77 rfl d_S_markHeldBlocks_1 ?_
  refine bV.callVo G m_K_clear bw_355 bw_356 bw_354 (cS_h_clear hRh) 10 rfl rfl rfl rfl rfl ⟨by decide, by decide⟩ ⟨by decide, by decide⟩ (Nat.le_of_ble_eq_true rfl) d_S_markHeldBlocks_4 (fun ws9 h9 => ?_)
  obtain ⟨gh1, hRh2, h9e⟩ := h9
  rw [h9e]
  refine bV.iconst (v := nI 0) G d_S_markHeldBlocks_7 (by decide) ?_
  refine bV.istore_n G (lv' := [(0, .ref (ad 0)), (1, .int (nI (0)))]) d_S_markHeldBlocks_8 (by decide) rfl rfl ?_
  exact loop (nv + 1) 0 gh1 (fun _ => false) (by omega) hRh2 (fun b => ⟨fun z => (by cases z), fun ⟨v0, z1, _⟩ => absurd z1 (Nat.not_lt_zero _)⟩)
theorem d_S_removeUnheldBlocks_0 : decode b_S_removeUnheldBlocks 0 = .ok (.aload_n 0, 1) := by decide +kernel
theorem d_S_removeUnheldBlocks_1 : decode b_S_removeUnheldBlocks 1 = .ok (.invokevirtual 225, 3) := by decide +kernel
theorem d_S_removeUnheldBlocks_4 : decode b_S_removeUnheldBlocks 4 = .ok (.iconst 0, 1) := by decide +kernel
theorem d_S_removeUnheldBlocks_5 : decode b_S_removeUnheldBlocks 5 = .ok (.istore_n 1, 1) := by decide +kernel
theorem d_S_removeUnheldBlocks_6 : decode b_S_removeUnheldBlocks 6 = .ok (.iconst 0, 1) := by decide +kernel
theorem d_S_removeUnheldBlocks_7 : decode b_S_removeUnheldBlocks 7 = .ok (.istore_n 2, 1) := by decide +kernel
theorem d_S_removeUnheldBlocks_8 : decode b_S_removeUnheldBlocks 8 = .ok (.iload_n 2, 1) := by decide +kernel
theorem d_S_removeUnheldBlocks_9 : decode b_S_removeUnheldBlocks 9 = .ok (.aload_n 0, 1) := by decide +kernel
theorem d_S_removeUnheldBlocks_10 : decode b_S_removeUnheldBlocks 10 = .ok (.getfield 21, 3) := by decide +kernel
theorem d_S_removeUnheldBlocks_13 : decode b_S_removeUnheldBlocks 13 = .ok (.invokevirtual 123, 3) := by decide +kernel
theorem d_S_removeUnheldBlocks_16 : decode b_S_removeUnheldBlocks 16 = .ok (.if_icmp .ge 42, 3) := by decide +kernel
theorem d_S_removeUnheldBlocks_19 : decode b_S_removeUnheldBlocks 19 = .ok (.aload_n 0, 1) := by decide +kernel
theorem d_S_removeUnheldBlocks_20 : decode b_S_removeUnheldBlocks 20 = .ok (.getfield 30, 3) := by decide +kernel
theorem d_S_removeUnheldBlocks_23 : decode b_S_removeUnheldBlocks 23 = .ok (.iload_n 2, 1) := by decide +kernel
theorem d_S_removeUnheldBlocks_24 : decode b_S_removeUnheldBlocks 24 = .ok (.invokevirtual 141, 3) := by decide +kernel
theorem d_S_removeUnheldBlocks_27 : decode b_S_removeUnheldBlocks 27 = .ok (.ifCond .eq 25, 3) := by decide +kernel
theorem d_S_removeUnheldBlocks_30 : decode b_S_removeUnheldBlocks 30 = .ok (.aload_n 0, 1) := by decide +kernel
theorem d_S_removeUnheldBlocks_31 : decode b_S_removeUnheldBlocks 31 = .ok (.getfield 37, 3) := by decide +kernel
theorem d_S_removeUnheldBlocks_34 : decode b_S_removeUnheldBlocks 34 = .ok (.iload_n 2, 1) := by decide +kernel
theorem d_S_removeUnheldBlocks_35 : decode b_S_removeUnheldBlocks 35 = .ok (.invokevirtual 141, 3) := by decide +kernel
theorem d_S_removeUnheldBlocks_38 : decode b_S_removeUnheldBlocks 38 = .ok (.ifCond .ne 14, 3) := by decide +kernel
theorem d_S_removeUnheldBlocks_41 : decode b_S_removeUnheldBlocks 41 = .ok (.aload_n 0, 1) := by decide +kernel
theorem d_S_removeUnheldBlocks_42 : decode b_S_removeUnheldBlocks 42 = .ok (.getfield 30, 3) := by decide +kernel
theorem d_S_removeUnheldBlocks_45 : decode b_S_removeUnheldBlocks 45 = .ok (.iload_n 2, 1) := by decide +kernel
theorem d_S_removeUnheldBlocks_46 : decode b_S_removeUnheldBlocks 46 = .ok (.invokevirtual 228, 3) := by decide +kernel
theorem d_S_removeUnheldBlocks_49 : decode b_S_removeUnheldBlocks 49 = .ok (.iinc 1 1, 3) := by decide +kernel
theorem d_S_removeUnheldBlocks_52 : decode b_S_removeUnheldBlocks 52 = .ok (.iinc 2 1, 3) := by decide +kernel
theorem d_S_removeUnheldBlocks_55 : decode b_S_removeUnheldBlocks 55 = .ok (.goto (-47), 3) := by decide +kernel
theorem d_S_removeUnheldBlocks_58 : decode b_S_removeUnheldBlocks 58 = .ok (.iload_n 1, 1) := by decide +kernel
theorem d_S_removeUnheldBlocks_59 : decode b_S_removeUnheldBlocks 59 = .ok (.ireturn, 1) := by decide +kernel
set_option maxRecDepth 20000 in
set_option maxHeartbeats 4000000 in
theorem c_S_removeUnheldBlocks {D : va_G} {cI cZ cJ : ClassId} {ad : Nat → Nat} {mp : Nat} {lf : Nat → Int32} {n : Nat} {Pb : pc_C} {gt gp gh : Nat → Int32} {Pv : pc_C} {gd : Nat → Int32} {Pq : pc_C} {cr : Bool} {rest : va_W} {nb : Nat} {bl : Nat → Nat} {ba : Nat → Nat → Nat} {mt : Nat → Bool} {nv : Nat} {vl : Nat → Nat} {va : Nat → Nat → Nat} {md : Nat → Bool} {mh : Nat → Bool} (hRb : pc_R 600 25 Pb (nb, bl, ba)) (hRt : mk_R 24 gt mt) (hRv : pc_R 104 13 Pv (nv, vl, va)) (hRd : mk_R 12 gd md) (hRh : mk_R 24 gh mh) (hvb : ∀ v k, v ≤ nv → k < vl v → va v k < nb) : bC D bcl (tys3 cI cZ cJ) y_S_removeUnheldBlocks ({ frames := 3, cells := 0, slots := 0, locals := 68 }) (wS ad cI cZ mp lf n Pb gt gp gh Pv gd Pq cr rest) [.ref (ad 0)] (bI (fun x ws9 => x = nI (cntU (fun b => mt b && !hlB md vl va nv b) nb) ∧ ∃ (gt1 gh1 : Nat → Int32), mk_R 24 gt1 (swS mt (hlB md vl va nv) nb) ∧ mk_R 24 gh1 (hlB md vl va nv) ∧ ws9 =  wS ad cI cZ mp lf n Pb gt1 gp gh1 Pv gd Pq cr rest) bno) := by
  have fb : nb < 25 := hRb.2.1
  have fv : nv < 13 := hRv.2.1
  refine bC.of (by decide) m_S_removeUnheldBlocks.1 (Nat.le_of_ble_eq_true rfl) ?_
  intro Γ G E0
  show bV D bcl Γ 3 (wS ad cI cZ mp lf n Pb gt gp gh Pv gd Pq cr rest) 0 0 0 [(0, .ref (ad 0))] []
  have loop : ∀ (d : Nat) (j : Nat) (gz gh1 : Nat → Int32), mk_R 24 gh1 (hlB md vl va nv) → d + j = nb → mk_R 24 gz (swS mt (hlB md vl va nv) j) → bV D bcl Γ 3 (wS ad cI cZ mp lf n Pb gz gp gh1 Pv gd Pq cr rest) 0 0 8 [(0, .ref (ad 0)), (1, .int (nI (cntU (fun b => mt b && !hlB md vl va nv b) j))), (2, .int (nI (j)))] [] := by
    intro d
    induction d with
    | zero =>
      intro j gz gh1 hRh1 hd hRz
      refine bV.iload_n G d_S_removeUnheldBlocks_8 rfl ?_
      refine bV.aload_n G d_S_removeUnheldBlocks_9 rfl ?_
      refine bV.getf G cl_S 0 1 rfl (by decide) bw_74 rfl d_S_removeUnheldBlocks_10 ?_
      refine bV.callVi G m_P_count bw_208 bw_209 bw_207 (c_P_count wS_b hRb) 3 rfl rfl rfl rfl rfl ⟨by decide, by decide⟩ ⟨by decide, by decide⟩ (Nat.le_of_ble_eq_true rfl) d_S_removeUnheldBlocks_13 (fun x9 ws9 h9 => ?_)
      obtain ⟨rfl, h9e⟩ := h9
      rw [h9e]
      try dsimp only
      refine bV.icmp_geN (tgt := 58) G d_S_removeUnheldBlocks_16 (by decide) (by omega) (by omega) (fun c16 => ?_) (fun c16 => ?_)
      · refine bV.iload_n G d_S_removeUnheldBlocks_58 rfl ?_
        exact bV.iretI G E0 rfl rfl (by decide) (by decide) d_S_removeUnheldBlocks_59 ⟨by rw [show j = nb by omega], gz, gh1, by rw [show nb = j by omega]; exact hRz, hRh1, rfl⟩
      · exfalso; omega
    | succ d ih =>
      intro j gz gh1 hRh1 hd hRz
      refine bV.iload_n G d_S_removeUnheldBlocks_8 rfl ?_
      refine bV.aload_n G d_S_removeUnheldBlocks_9 rfl ?_
      refine bV.getf G cl_S 0 1 rfl (by decide) bw_74 rfl d_S_removeUnheldBlocks_10 ?_
      refine bV.callVi G m_P_count bw_208 bw_209 bw_207 (c_P_count wS_b hRb) 3 rfl rfl rfl rfl rfl ⟨by decide, by decide⟩ ⟨by decide, by decide⟩ (Nat.le_of_ble_eq_true rfl) d_S_removeUnheldBlocks_13 (fun x9 ws9 h9 => ?_)
      obtain ⟨rfl, h9e⟩ := h9
      rw [h9e]
      try dsimp only
      refine bV.icmp_geN (tgt := 58) G d_S_removeUnheldBlocks_16 (by decide) (by omega) (by omega) (fun c16 => ?_) (fun c16 => ?_)
      · exfalso; omega
      · refine bV.aload_n G d_S_removeUnheldBlocks_19 rfl ?_
        refine bV.getf G cl_S 0 2 rfl (by decide) bw_75 rfl d_S_removeUnheldBlocks_20 ?_
        refine bV.iload_n G d_S_removeUnheldBlocks_23 rfl ?_
        refine bV.callVi G m_K_isOn bw_212 bw_213 bw_211 (c_K_isOn wS_t hRz (j := j) (by omega)) 6 rfl rfl rfl rfl rfl ⟨by decide, by decide⟩ ⟨by decide, by decide⟩ (Nat.le_of_ble_eq_true rfl) d_S_removeUnheldBlocks_24 (fun x9 ws9 h9 => ?_)
        obtain ⟨rfl, h9e⟩ := h9
        rw [h9e]
        try dsimp only
        rw [decide_eq_true (show j < 24 by omega), Bool.true_and]
        refine bV.if_eqB (tgt := 52) G d_S_removeUnheldBlocks_27 (by decide) (fun c27 => ?_) (fun c27 => ?_)
        · refine bV.iincN G (lv' := [(0, .ref (ad 0)), (1, .int (nI (cntU (fun b => mt b && !hlB md vl va nv b) j))), (2, .int (nI (j + 1)))]) d_S_removeUnheldBlocks_52 rfl (by decide) rfl rfl ?_
          refine bV.goto (tgt := 8) G d_S_removeUnheldBlocks_55 (by decide) ?_
          have hj0 : mt j = false ∨ hlB md vl va nv j = true := by first | exact Or.inr c38 | exact Or.inl (by rw [← swS_j (mt := mt) (hl := hlB md vl va nv)]; exact c27)
          have e := ih (j + 1) gz gh1 hRh1 (by omega) (by rw [← swS_on hj0]; exact hRz)
          rw [cntU_f (f := (fun b => mt b && !hlB md vl va nv b)) (show (mt j && !hlB md vl va nv j) = false by rcases hj0 with z | z <;> rw [z]; rfl; exact Bool.and_false _)] at e
          exact e
        · refine bV.aload_n G d_S_removeUnheldBlocks_30 rfl ?_
          refine bV.getf G cl_S 0 4 rfl (by decide) bw_77 rfl d_S_removeUnheldBlocks_31 ?_
          refine bV.iload_n G d_S_removeUnheldBlocks_34 rfl ?_
          refine bV.callVi G m_K_isOn bw_212 bw_213 bw_211 (c_K_isOn wS_h hRh1 (j := j) (by omega)) 10 rfl rfl rfl rfl rfl ⟨by decide, by decide⟩ ⟨by decide, by decide⟩ (Nat.le_of_ble_eq_true rfl) d_S_removeUnheldBlocks_35 (fun x9 ws9 h9 => ?_)
          obtain ⟨rfl, h9e⟩ := h9
          rw [h9e]
          try dsimp only
          rw [decide_eq_true (show j < 24 by omega), Bool.true_and]
          refine bV.if_neB (tgt := 52) G d_S_removeUnheldBlocks_38 (by decide) (fun c38 => ?_) (fun c38 => ?_)
          · refine bV.iincN G (lv' := [(0, .ref (ad 0)), (1, .int (nI (cntU (fun b => mt b && !hlB md vl va nv b) j))), (2, .int (nI (j + 1)))]) d_S_removeUnheldBlocks_52 rfl (by decide) rfl rfl ?_
            refine bV.goto (tgt := 8) G d_S_removeUnheldBlocks_55 (by decide) ?_
            have hj0 : mt j = false ∨ hlB md vl va nv j = true := by first | exact Or.inr c38 | exact Or.inl (by rw [← swS_j (mt := mt) (hl := hlB md vl va nv)]; exact c27)
            have e := ih (j + 1) gz gh1 hRh1 (by omega) (by rw [← swS_on hj0]; exact hRz)
            rw [cntU_f (f := (fun b => mt b && !hlB md vl va nv b)) (show (mt j && !hlB md vl va nv j) = false by rcases hj0 with z | z <;> rw [z]; rfl; exact Bool.and_false _)] at e
            exact e
          · refine bV.aload_n G d_S_removeUnheldBlocks_41 rfl ?_
            refine bV.getf G cl_S 0 2 rfl (by decide) bw_75 rfl d_S_removeUnheldBlocks_42 ?_
            refine bV.iload_n G d_S_removeUnheldBlocks_45 rfl ?_
            refine bV.callVo G m_K_turnOff bw_359 bw_360 bw_358 (cS_t_turnOff (j := j) hRz (by omega)) 6 rfl rfl rfl rfl rfl ⟨by decide, by decide⟩ ⟨by decide, by decide⟩ (Nat.le_of_ble_eq_true rfl) d_S_removeUnheldBlocks_46 (fun ws9 h9 => ?_)
            obtain ⟨gt101, hRt102, h9e⟩ := h9
            rw [h9e]
            refine bV.iincN G (lv' := [(0, .ref (ad 0)), (1, .int (nI ((cntU (fun b => mt b && !hlB md vl va nv b) j) + 1))), (2, .int (nI (j)))]) d_S_removeUnheldBlocks_49 rfl (by decide) rfl rfl ?_
            refine bV.iincN G (lv' := [(0, .ref (ad 0)), (1, .int (nI ((cntU (fun b => mt b && !hlB md vl va nv b) j) + 1))), (2, .int (nI (j + 1)))]) d_S_removeUnheldBlocks_52 rfl (by decide) rfl rfl ?_
            refine bV.goto (tgt := 8) G d_S_removeUnheldBlocks_55 (by decide) ?_
            have hj0 : mt j = true := by rw [← swS_j (mt := mt) (hl := hlB md vl va nv)]; exact c27
            have e := ih (j + 1) gt101 gh1 hRh1 (by omega) (by rw [← swS_off c38]; exact hRt102)
            rw [cntU_t (f := (fun b => mt b && !hlB md vl va nv b)) (show (mt j && !hlB md vl va nv j) = true by rw [hj0, c38]; rfl)] at e
            exact e
  refine bV.aload_n G d_S_removeUnheldBlocks_0 rfl ?_
  refine bV.callVo G m_S_markHeldBlocks bw_352 bw_s11 bw_350 (c_S_markHeldBlocks hRb hRv hRd hRh hvb) 0 rfl rfl rfl rfl rfl ⟨by decide, by decide⟩ ⟨by decide, by decide⟩ (Nat.le_of_ble_eq_true rfl) d_S_removeUnheldBlocks_1 (fun ws9 h9 => ?_)
  obtain ⟨gh1, hRh1, h9e⟩ := h9
  rw [h9e]
  refine bV.iconst (v := nI 0) G d_S_removeUnheldBlocks_4 (by decide) ?_
  refine bV.istore_n G (lv' := [(0, .ref (ad 0)), (1, .int (nI (0)))]) d_S_removeUnheldBlocks_5 (by decide) rfl rfl ?_
  refine bV.iconst (v := nI 0) G d_S_removeUnheldBlocks_6 (by decide) ?_
  refine bV.istore_n G (lv' := [(0, .ref (ad 0)), (1, .int (nI (0))), (2, .int (nI (0)))]) d_S_removeUnheldBlocks_7 (by decide) rfl rfl ?_
  exact loop nb 0 gt gh1 hRh1 (by omega) (by rw [swS_0]; exact hRt)
theorem d_S_forgetAllButLog_0 : decode b_S_forgetAllButLog 0 = .ok (.aload_n 0, 1) := by decide +kernel
theorem d_S_forgetAllButLog_1 : decode b_S_forgetAllButLog 1 = .ok (.getfield 21, 3) := by decide +kernel
theorem d_S_forgetAllButLog_4 : decode b_S_forgetAllButLog 4 = .ok (.invokevirtual 234, 3) := by decide +kernel
theorem d_S_forgetAllButLog_7 : decode b_S_forgetAllButLog 7 = .ok (.aload_n 0, 1) := by decide +kernel
theorem d_S_forgetAllButLog_8 : decode b_S_forgetAllButLog 8 = .ok (.getfield 30, 3) := by decide +kernel
theorem d_S_forgetAllButLog_11 : decode b_S_forgetAllButLog 11 = .ok (.invokevirtual 231, 3) := by decide +kernel
theorem d_S_forgetAllButLog_14 : decode b_S_forgetAllButLog 14 = .ok (.aload_n 0, 1) := by decide +kernel
theorem d_S_forgetAllButLog_15 : decode b_S_forgetAllButLog 15 = .ok (.getfield 34, 3) := by decide +kernel
theorem d_S_forgetAllButLog_18 : decode b_S_forgetAllButLog 18 = .ok (.invokevirtual 231, 3) := by decide +kernel
theorem d_S_forgetAllButLog_21 : decode b_S_forgetAllButLog 21 = .ok (.aload_n 0, 1) := by decide +kernel
theorem d_S_forgetAllButLog_22 : decode b_S_forgetAllButLog 22 = .ok (.getfield 40, 3) := by decide +kernel
theorem d_S_forgetAllButLog_25 : decode b_S_forgetAllButLog 25 = .ok (.invokevirtual 234, 3) := by decide +kernel
theorem d_S_forgetAllButLog_28 : decode b_S_forgetAllButLog 28 = .ok (.aload_n 0, 1) := by decide +kernel
theorem d_S_forgetAllButLog_29 : decode b_S_forgetAllButLog 29 = .ok (.getfield 43, 3) := by decide +kernel
theorem d_S_forgetAllButLog_32 : decode b_S_forgetAllButLog 32 = .ok (.invokevirtual 231, 3) := by decide +kernel
theorem d_S_forgetAllButLog_35 : decode b_S_forgetAllButLog 35 = .ok (.aload_n 0, 1) := by decide +kernel
theorem d_S_forgetAllButLog_36 : decode b_S_forgetAllButLog 36 = .ok (.getfield 55, 3) := by decide +kernel
theorem d_S_forgetAllButLog_39 : decode b_S_forgetAllButLog 39 = .ok (.invokevirtual 234, 3) := by decide +kernel
theorem d_S_forgetAllButLog_42 : decode b_S_forgetAllButLog 42 = .ok (.return_, 1) := by decide +kernel
set_option maxRecDepth 20000 in
set_option maxHeartbeats 4000000 in
theorem c_S_forgetAllButLog {D : va_G} {cI cZ cJ : ClassId} {ad : Nat → Nat} {mp : Nat} {lf : Nat → Int32} {n : Nat} {Pb : pc_C} {gt gp gh : Nat → Int32} {Pv : pc_C} {gd : Nat → Int32} {Pq : pc_C} {cr : Bool} {rest : va_W} {nb : Nat} {bl : Nat → Nat} {ba : Nat → Nat → Nat} {mt : Nat → Bool} {mk : Nat → Bool} {nv : Nat} {vl : Nat → Nat} {va : Nat → Nat → Nat} {md : Nat → Bool} {np : Nat} {ql : Nat → Nat} {qa : Nat → Nat → Nat} (hRb : pc_R 600 25 Pb (nb, bl, ba)) (hRt : mk_R 24 gt mt) (hRp : mk_R 24 gp mk) (hRv : pc_R 104 13 Pv (nv, vl, va)) (hRd : mk_R 12 gd md) (hRq : pc_R 664 (mp + 1) Pq (np, ql, qa))  : bC D bcl (tys3 cI cZ cJ) y_S_forgetAllButLog ({ frames := 1, cells := 0, slots := 0, locals := 21 }) (wS ad cI cZ mp lf n Pb gt gp gh Pv gd Pq cr rest) [.ref (ad 0)] (bO (fun ws9 => ∃ (Pb1 : pc_C) (gt1 gp1 : Nat → Int32) (Pv1 : pc_C) (gd1 : Nat → Int32) (Pq1 : pc_C), pc_R 600 25 Pb1 (0, (fun _ => 0), ba) ∧ mk_R 24 gt1 (fun _ => false) ∧ mk_R 24 gp1 (fun _ => false) ∧ pc_R 104 13 Pv1 (0, (fun _ => 0), va) ∧ mk_R 12 gd1 (fun _ => false) ∧ pc_R 664 (mp + 1) Pq1 (0, (fun _ => 0), qa) ∧ ws9 = wS ad cI cZ mp lf n Pb1 gt1 gp1 gh Pv1 gd1 Pq1 cr rest) bno) := by
  have fb : nb < 25 := hRb.2.1
  have fv : nv < 13 := hRv.2.1
  have fq : np < mp + 1 := hRq.2.1
  refine bC.of (by decide) m_S_forgetAllButLog.1 (Nat.le_of_ble_eq_true rfl) ?_
  intro Γ G E0
  show bV D bcl Γ 1 (wS ad cI cZ mp lf n Pb gt gp gh Pv gd Pq cr rest) 0 0 0 [(0, .ref (ad 0))] []
  refine bV.aload_n G d_S_forgetAllButLog_0 rfl ?_
  refine bV.getf G cl_S 0 1 rfl (by decide) bw_74 rfl d_S_forgetAllButLog_1 ?_
  refine bV.callVo G m_P_clear bw_442 bw_443 bw_441 (cS_b_clear hRb) 3 rfl rfl rfl rfl rfl ⟨by decide, by decide⟩ ⟨by decide, by decide⟩ (Nat.le_of_ble_eq_true rfl) d_S_forgetAllButLog_4 (fun ws9 h9 => ?_)
  obtain ⟨Pb1, hRb2, h9e⟩ := h9
  rw [h9e]
  try dsimp only at hRb2
  refine bV.aload_n G d_S_forgetAllButLog_7 rfl ?_
  refine bV.getf G cl_S 0 2 rfl (by decide) bw_75 rfl d_S_forgetAllButLog_8 ?_
  refine bV.callVo G m_K_clear bw_355 bw_356 bw_354 (cS_t_clear hRt) 6 rfl rfl rfl rfl rfl ⟨by decide, by decide⟩ ⟨by decide, by decide⟩ (Nat.le_of_ble_eq_true rfl) d_S_forgetAllButLog_11 (fun ws9 h9 => ?_)
  obtain ⟨gt3, hRt4, h9e⟩ := h9
  rw [h9e]
  refine bV.aload_n G d_S_forgetAllButLog_14 rfl ?_
  refine bV.getf G cl_S 0 3 rfl (by decide) bw_76 rfl d_S_forgetAllButLog_15 ?_
  refine bV.callVo G m_K_clear bw_355 bw_356 bw_354 (cS_p_clear hRp) 8 rfl rfl rfl rfl rfl ⟨by decide, by decide⟩ ⟨by decide, by decide⟩ (Nat.le_of_ble_eq_true rfl) d_S_forgetAllButLog_18 (fun ws9 h9 => ?_)
  obtain ⟨gp5, hRp6, h9e⟩ := h9
  rw [h9e]
  refine bV.aload_n G d_S_forgetAllButLog_21 rfl ?_
  refine bV.getf G cl_S 0 5 rfl (by decide) bw_78 rfl d_S_forgetAllButLog_22 ?_
  refine bV.callVo G m_P_clear bw_442 bw_443 bw_441 (cS_v_clear hRv) 12 rfl rfl rfl rfl rfl ⟨by decide, by decide⟩ ⟨by decide, by decide⟩ (Nat.le_of_ble_eq_true rfl) d_S_forgetAllButLog_25 (fun ws9 h9 => ?_)
  obtain ⟨Pv7, hRv8, h9e⟩ := h9
  rw [h9e]
  try dsimp only at hRv8
  refine bV.aload_n G d_S_forgetAllButLog_28 rfl ?_
  refine bV.getf G cl_S 0 6 rfl (by decide) bw_79 rfl d_S_forgetAllButLog_29 ?_
  refine bV.callVo G m_K_clear bw_355 bw_356 bw_354 (cS_d_clear hRd) 15 rfl rfl rfl rfl rfl ⟨by decide, by decide⟩ ⟨by decide, by decide⟩ (Nat.le_of_ble_eq_true rfl) d_S_forgetAllButLog_32 (fun ws9 h9 => ?_)
  obtain ⟨gd9, hRd10, h9e⟩ := h9
  rw [h9e]
  refine bV.aload_n G d_S_forgetAllButLog_35 rfl ?_
  refine bV.getf G cl_S 0 7 rfl (by decide) bw_80 rfl d_S_forgetAllButLog_36 ?_
  refine bV.callVo G m_P_clear bw_442 bw_443 bw_441 (cS_q_clear hRq) 17 rfl rfl rfl rfl rfl ⟨by decide, by decide⟩ ⟨by decide, by decide⟩ (Nat.le_of_ble_eq_true rfl) d_S_forgetAllButLog_39 (fun ws9 h9 => ?_)
  obtain ⟨Pq11, hRq12, h9e⟩ := h9
  rw [h9e]
  try dsimp only at hRq12
  exact bV.vretO G E0 rfl (by decide) (by decide) d_S_forgetAllButLog_42 ⟨Pb1, gt3, gp5, Pv7, gd9, Pq11, hRb2, hRt4, hRp6, hRv8, hRd10, hRq12, rfl⟩
