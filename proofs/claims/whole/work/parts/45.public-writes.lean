/-! ===== the store: packs, public writes ===== -/
abbrev pkQ := (Nat → Nat) × (Nat → Nat → Nat)
def putS (np x : Nat) (Q : pkQ) : pkQ := (fup Q.1 np (Q.1 np + 1), fup2 Q.2 np (Q.1 np) x)
def putN (np : Nat) (f : Nat → Nat) (Q : pkQ) : Nat → pkQ
  | 0 => Q
  | k + 1 => putS np (f k) (putN np f Q k)
def putB (np j len : Nat) (f : Nat → Nat) (Q : pkQ) : pkQ := putN np f (putS np len (putS np j Q)) len
theorem pcS_put {b : Nat → Nat} {a : Nat} : pcS (fup b a (b a + 1)) (a + 1) = pcS b (a + 1) + 1 := by
  show pcS (fup b a (b a + 1)) a + fup b a (b a + 1) a = pcS b a + b a + 1
  rw [fup_s, pcS_congr (pl' := b) a (fun j hj => fup_n (by omega))]
  omega
theorem pcS_putS {np x : Nat} {Q : pkQ} : pcS (putS np x Q).1 (np + 1) = pcS Q.1 (np + 1) + 1 := pcS_put
theorem pcS_putN {np : Nat} {f : Nat → Nat} {Q : pkQ} : ∀ k, pcS (putN np f Q k).1 (np + 1) = pcS Q.1 (np + 1) + k := by
  intro k
  induction k with
  | zero => rfl
  | succ k ih => rw [show putN np f Q (k + 1) = putS np (f k) (putN np f Q k) from rfl, pcS_putS, ih]; omega
theorem pcS_putB {np j len : Nat} {f : Nat → Nat} {Q : pkQ} : pcS (putB np j len f Q).1 (np + 1) = pcS Q.1 (np + 1) + 2 + len := by
  unfold putB
  rw [pcS_putN, pcS_putS, pcS_putS]
def byteN (s : Int32) (i : Nat) : Nat := ((s).toUInt32 >>> ((nI (24 - 8 * i)).toUInt32 &&& Int32.toUInt32 31)).toInt32.toBitVec.toNat % 2 ^ 8
theorem byteS_N (s : Int32) (i : Nat) : byteS s i = nI (byteN s i) := pk_and _ 8 (by decide)
theorem byteN_lt (s : Int32) (i : Nat) : byteN s i < 256 := Nat.mod_lt _ (by decide)
theorem nI_xor (a b : Nat) : nI a ^^^ nI b = nI (a ^^^ b) := by
  apply Int32.toBitVec_inj.mp
  apply BitVec.eq_of_toNat_eq
  show (BitVec.ofNat 32 a ^^^ BitVec.ofNat 32 b).toNat = (BitVec.ofNat 32 (a ^^^ b)).toNat
  rw [BitVec.toNat_xor, BitVec.toNat_ofNat, BitVec.toNat_ofNat, BitVec.toNat_ofNat, Nat.xor_mod_two_pow]
def mkN (m : Int32) : Nat := m.toBitVec.toNat % 2 ^ 8
def pkX (x : Nat) (m : Int32) : Nat := x ^^^ mkN m
theorem pkX_e (x : Nat) (m : Int32) : nI x ^^^ (m &&& nI 255) = nI (pkX x m) := by
  rw [pk_and m 8 (by decide), nI_xor]; rfl
theorem pkX_lt {x : Nat} (h : x < 256) (m : Int32) : pkX x m < 256 := Nat.xor_lt_two_pow (n := 8) h (Nat.mod_lt _ (by decide))
theorem pkX_eq (x : Nat) (m : Int32) : pkX x m = x ↔ mkN m = 0 := by
  unfold pkX
  constructor
  · intro h
    have h2 : x ^^^ (x ^^^ mkN m) = x ^^^ x := by rw [h]
    rw [← Nat.xor_assoc, Nat.xor_self, Nat.zero_xor] at h2
    exact h2
  · intro h
    rw [h, Nat.xor_zero]
def pkA (mt mk : Nat → Bool) (bl : Nat → Nat) (ba : Nat → Nat → Nat) (np : Nat) (Q : pkQ) : Nat → pkQ
  | 0 => Q
  | j + 1 => if (mt j && !mk j) = true then putB np j (bl j) (ba j) (pkA mt mk bl ba np Q j) else pkA mt mk bl ba np Q j
theorem pkA_t {mt mk : Nat → Bool} {bl : Nat → Nat} {ba : Nat → Nat → Nat} {np : Nat} {Q : pkQ} {j : Nat} (h : (mt j && !mk j) = true) : pkA mt mk bl ba np Q (j + 1) = putB np j (bl j) (ba j) (pkA mt mk bl ba np Q j) := if_pos h
theorem pkA_f {mt mk : Nat → Bool} {bl : Nat → Nat} {ba : Nat → Nat → Nat} {np : Nat} {Q : pkQ} {j : Nat} (h : (mt j && !mk j) = false) : pkA mt mk bl ba np Q (j + 1) = pkA mt mk bl ba np Q j := if_neg (by rw [h]; decide)
def pkM (mt mk : Nat → Bool) (j : Nat) : Nat → Bool := fun b => mk b || (decide (b < j) && mt b)
theorem pkM_0 {mt mk : Nat → Bool} : pkM mt mk 0 = mk := by
  funext b
  unfold pkM
  rw [decide_eq_false (Nat.not_lt_zero _), Bool.false_and, Bool.or_false]
theorem pkM_j {mt mk : Nat → Bool} {j : Nat} : pkM mt mk j j = mk j := by
  unfold pkM
  rw [decide_eq_false (Nat.lt_irrefl _), Bool.false_and, Bool.or_false]
theorem pkM_t {mt mk : Nat → Bool} {j : Nat} (h : (mt j && !mk j) = true) : mk_up (pkM mt mk j) j true = pkM mt mk (j + 1) := by
  funext b
  unfold mk_up pkM
  by_cases z : b = j
  · subst z
    rw [if_pos rfl, decide_eq_true (Nat.lt_succ_self _), (Bool.and_eq_true_iff.mp h).1, Bool.and_true, Bool.or_true]
  · rw [if_neg z]
    by_cases y : b < j
    · rw [decide_eq_true y, decide_eq_true (show b < j + 1 by omega)]
    · rw [decide_eq_false y, decide_eq_false (show ¬ b < j + 1 by omega)]
theorem pkM_f {mt mk : Nat → Bool} {j : Nat} (h : (mt j && !mk j) = false) : pkM mt mk j = pkM mt mk (j + 1) := by
  funext b
  unfold pkM
  by_cases z : b = j
  · subst z
    rw [decide_eq_true (Nat.lt_succ_self _), decide_eq_false (Nat.lt_irrefl _)]
    cases e1 : mt b <;> cases e2 : mk b <;> rw [e1, e2] at h <;> first | rfl | exact absurd h (by decide)
  · by_cases y : b < j
    · rw [decide_eq_true y, decide_eq_true (show b < j + 1 by omega)]
    · rw [decide_eq_false y, decide_eq_false (show ¬ b < j + 1 by omega)]
theorem cntU_congr {f g : Nat → Bool} : ∀ n, (∀ b, b < n → f b = g b) → cntU f n = cntU g n := by
  intro n
  induction n with
  | zero => intro _; rfl
  | succ n ih =>
    intro h
    show cntU f n + (if f n = true then 1 else 0) = cntU g n + (if g n = true then 1 else 0)
    rw [ih (fun b hb => h b (by omega)), h n (by omega)]
theorem cntU_one {f g : Nat → Bool} {j : Nat} (hne : ∀ b, b ≠ j → f b = g b) (hf : f j = true) (hg : g j = false) : ∀ n, j < n → cntU f n = cntU g n + 1 := by
  intro n
  induction n with
  | zero => intro h; exact absurd h (Nat.not_lt_zero _)
  | succ n ih =>
    intro h
    rcases Nat.lt_or_ge j n with z | z
    · show cntU f n + (if f n = true then 1 else 0) = cntU g n + (if g n = true then 1 else 0) + 1
      rw [ih z, hne n (by omega)]; omega
    · obtain rfl : j = n := by omega
      rw [cntU_t hf, cntU_f hg, cntU_congr j (fun b hb => hne b (by omega))]
theorem pkM_cnt {mt mk : Nat → Bool} {j : Nat} (hj : j < 24) (h : (mt j && !mk j) = true) : cntU (fun b => !pkM mt mk j b) 24 = cntU (fun b => !pkM mt mk (j + 1) b) 24 + 1 := by
  have h2 := Bool.and_eq_true_iff.mp h
  refine cntU_one (j := j) (fun b hb => ?_) ?_ ?_ 24 hj
  · rw [← pkM_t h]; show _ = !(if b = j then true else pkM mt mk j b); rw [if_neg hb]
  · show (!pkM mt mk j j) = true; rw [pkM_j]; exact h2.2
  · rw [← pkM_t h]; show (!(if j = j then true else pkM mt mk j j)) = false; rw [if_pos rfl]; rfl
theorem kp_btw {v : Int32} {n : Nat} (h : 0 ≤ v ∧ v ≤ nI n) (hn : n < 2 ^ 31) : ∃ j : Nat, j ≤ n ∧ v = nI j := by
  obtain ⟨j, hj, rfl⟩ := nI_of (Int32.not_lt.mpr h.1)
  exact ⟨j, (nI_leI hj hn).mp h.2, rfl⟩
theorem d_S_addToOpenPack_0 : decode b_S_addToOpenPack 0 = .ok (.aload_n 0, 1) := by decide +kernel
theorem d_S_addToOpenPack_1 : decode b_S_addToOpenPack 1 = .ok (.getfield 21, 3) := by decide +kernel
theorem d_S_addToOpenPack_4 : decode b_S_addToOpenPack 4 = .ok (.iload_n 1, 1) := by decide +kernel
theorem d_S_addToOpenPack_5 : decode b_S_addToOpenPack 5 = .ok (.invokevirtual 110, 3) := by decide +kernel
theorem d_S_addToOpenPack_8 : decode b_S_addToOpenPack 8 = .ok (.istore_n 2, 1) := by decide +kernel
theorem d_S_addToOpenPack_9 : decode b_S_addToOpenPack 9 = .ok (.aload_n 0, 1) := by decide +kernel
theorem d_S_addToOpenPack_10 : decode b_S_addToOpenPack 10 = .ok (.getfield 55, 3) := by decide +kernel
theorem d_S_addToOpenPack_13 : decode b_S_addToOpenPack 13 = .ok (.iload_n 1, 1) := by decide +kernel
theorem d_S_addToOpenPack_14 : decode b_S_addToOpenPack 14 = .ok (.invokevirtual 69, 3) := by decide +kernel
theorem d_S_addToOpenPack_17 : decode b_S_addToOpenPack 17 = .ok (.aload_n 0, 1) := by decide +kernel
theorem d_S_addToOpenPack_18 : decode b_S_addToOpenPack 18 = .ok (.getfield 55, 3) := by decide +kernel
theorem d_S_addToOpenPack_21 : decode b_S_addToOpenPack 21 = .ok (.iload_n 2, 1) := by decide +kernel
theorem d_S_addToOpenPack_22 : decode b_S_addToOpenPack 22 = .ok (.invokevirtual 69, 3) := by decide +kernel
theorem d_S_addToOpenPack_25 : decode b_S_addToOpenPack 25 = .ok (.iconst 0, 1) := by decide +kernel
theorem d_S_addToOpenPack_26 : decode b_S_addToOpenPack 26 = .ok (.istore_n 3, 1) := by decide +kernel
theorem d_S_addToOpenPack_27 : decode b_S_addToOpenPack 27 = .ok (.iload_n 3, 1) := by decide +kernel
theorem d_S_addToOpenPack_28 : decode b_S_addToOpenPack 28 = .ok (.iload_n 2, 1) := by decide +kernel
theorem d_S_addToOpenPack_29 : decode b_S_addToOpenPack 29 = .ok (.if_icmp .ge 25, 3) := by decide +kernel
theorem d_S_addToOpenPack_32 : decode b_S_addToOpenPack 32 = .ok (.aload_n 0, 1) := by decide +kernel
theorem d_S_addToOpenPack_33 : decode b_S_addToOpenPack 33 = .ok (.getfield 55, 3) := by decide +kernel
theorem d_S_addToOpenPack_36 : decode b_S_addToOpenPack 36 = .ok (.aload_n 0, 1) := by decide +kernel
theorem d_S_addToOpenPack_37 : decode b_S_addToOpenPack 37 = .ok (.getfield 21, 3) := by decide +kernel
theorem d_S_addToOpenPack_40 : decode b_S_addToOpenPack 40 = .ok (.iload_n 1, 1) := by decide +kernel
theorem d_S_addToOpenPack_41 : decode b_S_addToOpenPack 41 = .ok (.iload_n 3, 1) := by decide +kernel
theorem d_S_addToOpenPack_42 : decode b_S_addToOpenPack 42 = .ok (.invokevirtual 107, 3) := by decide +kernel
theorem d_S_addToOpenPack_45 : decode b_S_addToOpenPack 45 = .ok (.invokevirtual 69, 3) := by decide +kernel
theorem d_S_addToOpenPack_48 : decode b_S_addToOpenPack 48 = .ok (.iinc 3 1, 3) := by decide +kernel
theorem d_S_addToOpenPack_51 : decode b_S_addToOpenPack 51 = .ok (.goto (-24), 3) := by decide +kernel
theorem d_S_addToOpenPack_54 : decode b_S_addToOpenPack 54 = .ok (.aload_n 0, 1) := by decide +kernel
theorem d_S_addToOpenPack_55 : decode b_S_addToOpenPack 55 = .ok (.getfield 34, 3) := by decide +kernel
theorem d_S_addToOpenPack_58 : decode b_S_addToOpenPack 58 = .ok (.iload_n 1, 1) := by decide +kernel
theorem d_S_addToOpenPack_59 : decode b_S_addToOpenPack 59 = .ok (.invokevirtual 180, 3) := by decide +kernel
theorem d_S_addToOpenPack_62 : decode b_S_addToOpenPack 62 = .ok (.return_, 1) := by decide +kernel
set_option maxRecDepth 20000 in
set_option maxHeartbeats 4000000 in
theorem c_S_addToOpenPack {D : va_G} {cI cZ cJ : ClassId} {ad : Nat → Nat} {mp : Nat} {lf : Nat → Int32} {n : Nat} {Pb : pc_C} {gt gp gh : Nat → Int32} {Pv : pc_C} {gd : Nat → Int32} {Pq : pc_C} {cr : Bool} {rest : va_W} {nb : Nat} {bl : Nat → Nat} {ba : Nat → Nat → Nat} {mk : Nat → Bool} {np : Nat} {ql : Nat → Nat} {qa : Nat → Nat → Nat} (hRb : pc_R 600 25 Pb (nb, bl, ba)) (hRp : mk_R 24 gp mk) (hRq : pc_R 664 (mp + 1) Pq (np, ql, qa)) {j : Nat} (hj : j < nb) (hr : pcS ql (np + 1) + 2 + bl j ≤ 664) : bC D bcl (tys3 cI cZ cJ) y_S_addToOpenPack ({ frames := 2, cells := 0, slots := 0, locals := 45 }) (wS ad cI cZ mp lf n Pb gt gp gh Pv gd Pq cr rest) [.ref (ad 0), .int (nI (j))] (bO (fun ws9 => ∃ (Pq1 : pc_C) (gp1 : Nat → Int32), pc_R 664 (mp + 1) Pq1 (np, (putB np j (bl j) (ba j) (ql, qa)).1, (putB np j (bl j) (ba j) (ql, qa)).2) ∧ mk_R 24 gp1 (mk_up mk j true) ∧ ws9 = wS ad cI cZ mp lf n Pb gt gp1 gh Pv gd Pq1 cr rest) bno) := by
  have fb : nb < 25 := hRb.2.1
  have fq : np < mp + 1 := hRq.2.1
  have hl9 : bl j ≤ 600 := pc_R_len (A := (nb, bl, ba)) hRb (Nat.le_of_lt hj)
  refine bC.of (by decide) m_S_addToOpenPack.1 (Nat.le_of_ble_eq_true rfl) ?_
  intro Γ G E0
  show bV D bcl Γ 4 (wS ad cI cZ mp lf n Pb gt gp gh Pv gd Pq cr rest) 0 0 0 [(0, .ref (ad 0)), (1, .int (nI (j)))] []
  have loop : ∀ (d : Nat) (k : Nat) (Pz : pc_C), d + k = bl j → pc_R 664 (mp + 1) Pz (np, (putN np (ba j) (putS np (bl j) (putS np j (ql, qa))) k).1, (putN np (ba j) (putS np (bl j) (putS np j (ql, qa))) k).2) → bV D bcl Γ 4 (wS ad cI cZ mp lf n Pb gt gp gh Pv gd Pz cr rest) 0 0 27 [(0, .ref (ad 0)), (1, .int (nI (j))), (2, .int (nI (bl j))), (3, .int (nI (k)))] [] := by
    intro d
    induction d with
    | zero =>
      intro k Pz hd hRz
      refine bV.iload_n G d_S_addToOpenPack_27 rfl ?_
      refine bV.iload_n G d_S_addToOpenPack_28 rfl ?_
      refine bV.icmp_geN (tgt := 54) G d_S_addToOpenPack_29 (by decide) (by omega) (by omega) (fun c29 => ?_) (fun c29 => ?_)
      · refine bV.aload_n G d_S_addToOpenPack_54 rfl ?_
        refine bV.getf G cl_S 0 3 rfl (by decide) bw_76 rfl d_S_addToOpenPack_55 ?_
        refine bV.iload_n G d_S_addToOpenPack_58 rfl ?_
        refine bV.callVo G m_K_turnOn bw_258 bw_259 bw_257 (cS_p_turnOn (j := j) hRp (by omega)) 8 rfl rfl rfl rfl rfl ⟨by decide, by decide⟩ ⟨by decide, by decide⟩ (Nat.le_of_ble_eq_true rfl) d_S_addToOpenPack_59 (fun ws9 h9 => ?_)
        obtain ⟨gp101, hRp102, h9e⟩ := h9
        rw [h9e]
        exact bV.vretO G E0 rfl (by decide) (by decide) d_S_addToOpenPack_62 ⟨Pz, gp101, by obtain rfl : k = bl j := (by omega); exact hRz, hRp102, rfl⟩
      · exfalso; omega
    | succ d ih =>
      intro k Pz hd hRz
      refine bV.iload_n G d_S_addToOpenPack_27 rfl ?_
      refine bV.iload_n G d_S_addToOpenPack_28 rfl ?_
      refine bV.icmp_geN (tgt := 54) G d_S_addToOpenPack_29 (by decide) (by omega) (by omega) (fun c29 => ?_) (fun c29 => ?_)
      · exfalso; omega
      · refine bV.aload_n G d_S_addToOpenPack_32 rfl ?_
        refine bV.getf G cl_S 0 7 rfl (by decide) bw_80 rfl d_S_addToOpenPack_33 ?_
        refine bV.aload_n G d_S_addToOpenPack_36 rfl ?_
        refine bV.getf G cl_S 0 1 rfl (by decide) bw_74 rfl d_S_addToOpenPack_37 ?_
        refine bV.iload_n G d_S_addToOpenPack_40 rfl ?_
        refine bV.iload_n G d_S_addToOpenPack_41 rfl ?_
        refine bV.callVi G m_P_at bw_221 bw_222 bw_322 (c_P_at wS_b hRb (j := j) (i := k) (by first | omega | exact Nat.le_refl _) (by omega)) 3 rfl rfl rfl rfl rfl ⟨by decide, by decide⟩ ⟨by decide, by decide⟩ (Nat.le_of_ble_eq_true rfl) d_S_addToOpenPack_42 (fun x9 ws9 h9 => ?_)
        obtain ⟨rfl, h9e⟩ := h9
        rw [h9e]
        try dsimp only
        rw [if_pos (by show k < bl j; omega)]
        have hval : ba j k < 2 ^ 31 := pc_R_val (A := (nb, bl, ba)) hRb (j := j) (i := k) (Nat.le_of_lt hj) (by show k < bl j; omega)
        refine bV.callVo G m_P_add bw_193 bw_194 bw_192 (cS_q_add (x := ba j k) hRz (by omega) (by dsimp only; rw [pcS_putN, pcS_putS, pcS_putS]; dsimp only; omega)) 17 rfl rfl rfl rfl rfl ⟨by decide, by decide⟩ ⟨by decide, by decide⟩ (Nat.le_of_ble_eq_true rfl) d_S_addToOpenPack_45 (fun ws9 h9 => ?_)
        obtain ⟨Pq101, hRq102, h9e⟩ := h9
        rw [h9e]
        try dsimp only at hRq102
        refine bV.iincN G (lv' := [(0, .ref (ad 0)), (1, .int (nI (j))), (2, .int (nI (bl j))), (3, .int (nI (k + 1)))]) d_S_addToOpenPack_48 rfl (by decide) rfl rfl ?_
        refine bV.goto (tgt := 27) G d_S_addToOpenPack_51 (by decide) ?_
        exact ih (k + 1) Pq101 (by omega) hRq102
  refine bV.aload_n G d_S_addToOpenPack_0 rfl ?_
  refine bV.getf G cl_S 0 1 rfl (by decide) bw_74 rfl d_S_addToOpenPack_1 ?_
  refine bV.iload_n G d_S_addToOpenPack_4 rfl ?_
  refine bV.callVi G m_P_length bw_189 bw_190 bw_321 (c_P_length wS_b hRb (j := j) (by first | omega | exact Nat.le_refl _)) 3 rfl rfl rfl rfl rfl ⟨by decide, by decide⟩ ⟨by decide, by decide⟩ (Nat.le_of_ble_eq_true rfl) d_S_addToOpenPack_5 (fun x9 ws9 h9 => ?_)
  obtain ⟨rfl, h9e⟩ := h9
  rw [h9e]
  try dsimp only
  refine bV.istore_n G (lv' := [(0, .ref (ad 0)), (1, .int (nI (j))), (2, .int (nI (bl j)))]) d_S_addToOpenPack_8 (by decide) rfl rfl ?_
  refine bV.aload_n G d_S_addToOpenPack_9 rfl ?_
  refine bV.getf G cl_S 0 7 rfl (by decide) bw_80 rfl d_S_addToOpenPack_10 ?_
  refine bV.iload_n G d_S_addToOpenPack_13 rfl ?_
  refine bV.callVo G m_P_add bw_193 bw_194 bw_192 (cS_q_add (x := j) hRq (by omega) (by dsimp only; omega)) 17 rfl rfl rfl rfl rfl ⟨by decide, by decide⟩ ⟨by decide, by decide⟩ (Nat.le_of_ble_eq_true rfl) d_S_addToOpenPack_14 (fun ws9 h9 => ?_)
  obtain ⟨Pq1, hRq2, h9e⟩ := h9
  rw [h9e]
  try dsimp only at hRq2
  refine bV.aload_n G d_S_addToOpenPack_17 rfl ?_
  refine bV.getf G cl_S 0 7 rfl (by decide) bw_80 rfl d_S_addToOpenPack_18 ?_
  refine bV.iload_n G d_S_addToOpenPack_21 rfl ?_
  refine bV.callVo G m_P_add bw_193 bw_194 bw_192 (cS_q_add (x := bl j) hRq2 (by omega) (by dsimp only; rw [pcS_put]; omega)) 17 rfl rfl rfl rfl rfl ⟨by decide, by decide⟩ ⟨by decide, by decide⟩ (Nat.le_of_ble_eq_true rfl) d_S_addToOpenPack_22 (fun ws9 h9 => ?_)
  obtain ⟨Pq3, hRq4, h9e⟩ := h9
  rw [h9e]
  try dsimp only at hRq4
  refine bV.iconst (v := nI 0) G d_S_addToOpenPack_25 (by decide) ?_
  refine bV.istore_n G (lv' := [(0, .ref (ad 0)), (1, .int (nI (j))), (2, .int (nI (bl j))), (3, .int (nI (0)))]) d_S_addToOpenPack_26 (by decide) rfl rfl ?_
  exact loop (bl j) 0 Pq3 (by omega) hRq4
theorem d_S_closePack_0 : decode b_S_closePack 0 = .ok (.aload_n 0, 1) := by decide +kernel
theorem d_S_closePack_1 : decode b_S_closePack 1 = .ok (.getfield 55, 3) := by decide +kernel
theorem d_S_closePack_4 : decode b_S_closePack 4 = .ok (.iconst 1, 1) := by decide +kernel
theorem d_S_closePack_5 : decode b_S_closePack 5 = .ok (.aload_n 0, 1) := by decide +kernel
theorem d_S_closePack_6 : decode b_S_closePack 6 = .ok (.getfield 55, 3) := by decide +kernel
theorem d_S_closePack_9 : decode b_S_closePack 9 = .ok (.invokevirtual 123, 3) := by decide +kernel
theorem d_S_closePack_12 : decode b_S_closePack 12 = .ok (.aload_n 0, 1) := by decide +kernel
theorem d_S_closePack_13 : decode b_S_closePack 13 = .ok (.getfield 55, 3) := by decide +kernel
theorem d_S_closePack_16 : decode b_S_closePack 16 = .ok (.invokevirtual 65, 3) := by decide +kernel
theorem d_S_closePack_19 : decode b_S_closePack 19 = .ok (.invokevirtual 113, 3) := by decide +kernel
theorem d_S_closePack_22 : decode b_S_closePack 22 = .ok (.istore_n 1, 1) := by decide +kernel
theorem d_S_closePack_23 : decode b_S_closePack 23 = .ok (.iconst 0, 1) := by decide +kernel
theorem d_S_closePack_24 : decode b_S_closePack 24 = .ok (.istore_n 2, 1) := by decide +kernel
theorem d_S_closePack_25 : decode b_S_closePack 25 = .ok (.iload_n 2, 1) := by decide +kernel
theorem d_S_closePack_26 : decode b_S_closePack 26 = .ok (.iconst 4, 1) := by decide +kernel
theorem d_S_closePack_27 : decode b_S_closePack 27 = .ok (.if_icmp .ge 21, 3) := by decide +kernel
theorem d_S_closePack_30 : decode b_S_closePack 30 = .ok (.aload_n 0, 1) := by decide +kernel
theorem d_S_closePack_31 : decode b_S_closePack 31 = .ok (.getfield 55, 3) := by decide +kernel
theorem d_S_closePack_34 : decode b_S_closePack 34 = .ok (.iload_n 1, 1) := by decide +kernel
theorem d_S_closePack_35 : decode b_S_closePack 35 = .ok (.iload_n 2, 1) := by decide +kernel
theorem d_S_closePack_36 : decode b_S_closePack 36 = .ok (.invokestatic 177, 3) := by decide +kernel
theorem d_S_closePack_39 : decode b_S_closePack 39 = .ok (.invokevirtual 69, 3) := by decide +kernel
theorem d_S_closePack_42 : decode b_S_closePack 42 = .ok (.iinc 2 1, 3) := by decide +kernel
theorem d_S_closePack_45 : decode b_S_closePack 45 = .ok (.goto (-20), 3) := by decide +kernel
theorem d_S_closePack_48 : decode b_S_closePack 48 = .ok (.aload_n 0, 1) := by decide +kernel
theorem d_S_closePack_49 : decode b_S_closePack 49 = .ok (.getfield 55, 3) := by decide +kernel
theorem d_S_closePack_52 : decode b_S_closePack 52 = .ok (.invokevirtual 91, 3) := by decide +kernel
theorem d_S_closePack_55 : decode b_S_closePack 55 = .ok (.pop, 1) := by decide +kernel
theorem d_S_closePack_56 : decode b_S_closePack 56 = .ok (.return_, 1) := by decide +kernel
set_option maxRecDepth 20000 in
set_option maxHeartbeats 4000000 in
theorem c_S_closePack {D : va_G} {cI cZ cJ : ClassId} {ad : Nat → Nat} {mp : Nat} {lf : Nat → Int32} {n : Nat} {Pb : pc_C} {gt gp gh : Nat → Int32} {Pv : pc_C} {gd : Nat → Int32} {Pq : pc_C} {cr : Bool} {rest : va_W} {np : Nat} {ql : Nat → Nat} {qa : Nat → Nat → Nat} (hRq : pc_R 664 (mp + 1) Pq (np, ql, qa)) (hm : mp ≤ 8) (hn : np < mp) (hr : pcS ql (np + 1) + 4 ≤ 664) : bC D bcl (tys3 cI cZ cJ) y_S_closePack ({ frames := 3, cells := 0, slots := 0, locals := 71 }) (wS ad cI cZ mp lf n Pb gt gp gh Pv gd Pq cr rest) [.ref (ad 0)] (bO (fun ws9 => ∃ Pq1 : pc_C, pc_R 664 (mp + 1) Pq1 (np + 1, fup ((putN np (byteN (sumS (((ql, qa)).2 np) (nI 1) (((ql, qa)).1 np))) ((ql, qa)) 4)).1 (np + 1) 0, ((putN np (byteN (sumS (((ql, qa)).2 np) (nI 1) (((ql, qa)).1 np))) ((ql, qa)) 4)).2) ∧ ws9 = wS ad cI cZ mp lf n Pb gt gp gh Pv gd Pq1 cr rest) bno) := by
  have fq : np < mp + 1 := hRq.2.1
  refine bC.of (by decide) m_S_closePack.1 (Nat.le_of_ble_eq_true rfl) ?_
  intro Γ G E0
  show bV D bcl Γ 3 (wS ad cI cZ mp lf n Pb gt gp gh Pv gd Pq cr rest) 0 0 0 [(0, .ref (ad 0))] []
  have loop : ∀ (d : Nat) (k : Nat) (Pz : pc_C), d + k = 4 → pc_R 664 (mp + 1) Pz (np, (putN np (byteN (sumS (qa np) (nI 1) (ql np))) (ql, qa) k).1, (putN np (byteN (sumS (qa np) (nI 1) (ql np))) (ql, qa) k).2) → bV D bcl Γ 3 (wS ad cI cZ mp lf n Pb gt gp gh Pv gd Pz cr rest) 0 0 25 [(0, .ref (ad 0)), (1, .int (sumS (qa np) (nI 1) (ql np))), (2, .int (nI (k)))] [] := by
    intro d
    induction d with
    | zero =>
      intro k Pz hd hRz
      refine bV.iload_n G d_S_closePack_25 rfl ?_
      refine bV.iconst (v := nI 4) G d_S_closePack_26 (by decide) ?_
      refine bV.icmp_geN (tgt := 48) G d_S_closePack_27 (by decide) (by omega) (by omega) (fun c27 => ?_) (fun c27 => ?_)
      · refine bV.aload_n G d_S_closePack_48 rfl ?_
        refine bV.getf G cl_S 0 7 rfl (by decide) bw_80 rfl d_S_closePack_49 ?_
        refine bV.callVi G m_P_close bw_254 bw_255 bw_253 (cS_q_close hRz (by dsimp only; omega)) 17 rfl rfl rfl rfl rfl ⟨by decide, by decide⟩ ⟨by decide, by decide⟩ (Nat.le_of_ble_eq_true rfl) d_S_closePack_52 (fun x9 ws9 h9 => ?_)
        obtain ⟨rfl, Pq101, hRq102, h9e⟩ := h9
        rw [h9e]
        try dsimp only at hRq102
        try dsimp only
        refine bV.pop G d_S_closePack_55 rfl ?_
        exact bV.vretO G E0 rfl (by decide) (by decide) d_S_closePack_56 ⟨Pq101, by obtain rfl : k = 4 := (by omega); exact hRq102, rfl⟩
      · exfalso; omega
    | succ d ih =>
      intro k Pz hd hRz
      refine bV.iload_n G d_S_closePack_25 rfl ?_
      refine bV.iconst (v := nI 4) G d_S_closePack_26 (by decide) ?_
      refine bV.icmp_geN (tgt := 48) G d_S_closePack_27 (by decide) (by omega) (by omega) (fun c27 => ?_) (fun c27 => ?_)
      · exfalso; omega
      · refine bV.aload_n G d_S_closePack_30 rfl ?_
        refine bV.getf G cl_S 0 7 rfl (by decide) bw_80 rfl d_S_closePack_31 ?_
        refine bV.iload_n G d_S_closePack_34 rfl ?_
        refine bV.iload_n G d_S_closePack_35 rfl ?_
        refine bV.callSi G m_S_byteOfSum bw_386 bw_385 (c_S_byteOfSum (s := sumS (qa np) (nI 1) (ql np)) (i := k) (by omega)) rfl rfl ⟨by decide, by decide⟩ ⟨by decide, by decide⟩ (Nat.le_of_ble_eq_true rfl) d_S_closePack_36 (fun x9 ws9 h9 => ?_)
        obtain ⟨rfl, h9e⟩ := h9
        rw [h9e]
        try dsimp only
        rw [byteS_N]
        have hbyn := byteN_lt (sumS (qa np) (nI 1) (ql np)) k
        refine bV.callVo G m_P_add bw_193 bw_194 bw_192 (cS_q_add (x := byteN (sumS (qa np) (nI 1) (ql np)) k) hRz (by omega) (by dsimp only; rw [pcS_putN]; dsimp only; omega)) 17 rfl rfl rfl rfl rfl ⟨by decide, by decide⟩ ⟨by decide, by decide⟩ (Nat.le_of_ble_eq_true rfl) d_S_closePack_39 (fun ws9 h9 => ?_)
        obtain ⟨Pq101, hRq102, h9e⟩ := h9
        rw [h9e]
        try dsimp only at hRq102
        refine bV.iincN G (lv' := [(0, .ref (ad 0)), (1, .int (sumS (qa np) (nI 1) (ql np))), (2, .int (nI (k + 1)))]) d_S_closePack_42 rfl (by decide) rfl rfl ?_
        refine bV.goto (tgt := 25) G d_S_closePack_45 (by decide) ?_
        exact ih (k + 1) Pq101 (by omega) hRq102
  refine bV.aload_n G d_S_closePack_0 rfl ?_
  refine bV.getf G cl_S 0 7 rfl (by decide) bw_80 rfl d_S_closePack_1 ?_
  refine bV.iconst (v := nI 1) G d_S_closePack_4 (by decide) ?_
  refine bV.aload_n G d_S_closePack_5 rfl ?_
  refine bV.getf G cl_S 0 7 rfl (by decide) bw_80 rfl d_S_closePack_6 ?_
  refine bV.callVi G m_P_count bw_208 bw_209 bw_207 (c_P_count wS_q hRq) 17 rfl rfl rfl rfl rfl ⟨by decide, by decide⟩ ⟨by decide, by decide⟩ (Nat.le_of_ble_eq_true rfl) d_S_closePack_9 (fun x9 ws9 h9 => ?_)
  obtain ⟨rfl, h9e⟩ := h9
  rw [h9e]
  try dsimp only
  refine bV.aload_n G d_S_closePack_12 rfl ?_
  refine bV.getf G cl_S 0 7 rfl (by decide) bw_80 rfl d_S_closePack_13 ?_
  refine bV.callVi G m_P_openLength bw_185 bw_186 bw_184 (c_P_openLength wS_q hRq) 17 rfl rfl rfl rfl rfl ⟨by decide, by decide⟩ ⟨by decide, by decide⟩ (Nat.le_of_ble_eq_true rfl) d_S_closePack_16 (fun x9 ws9 h9 => ?_)
  obtain ⟨rfl, h9e⟩ := h9
  rw [h9e]
  try dsimp only
  have hl9 : ql np ≤ 664 := pc_R_len (A := (np, ql, qa)) hRq (Nat.le_refl _)
  refine bV.callVi G m_P_sum bw_331 bw_332 bw_330 (c_P_sum wS_q hRq (s0 := nI 1) (j := np) (len := ql np) (by first | omega | exact Nat.le_refl _) (by first | omega | exact Nat.le_refl _ | (dsimp only; omega))) 17 rfl rfl rfl rfl rfl ⟨by decide, by decide⟩ ⟨by decide, by decide⟩ (Nat.le_of_ble_eq_true rfl) d_S_closePack_19 (fun x9 ws9 h9 => ?_)
  obtain ⟨rfl, h9e⟩ := h9
  rw [h9e]
  try dsimp only
  refine bV.istore_n G (lv' := [(0, .ref (ad 0)), (1, .int (sumS (qa np) (nI 1) (ql np)))]) d_S_closePack_22 (by decide) rfl rfl ?_
  refine bV.iconst (v := nI 0) G d_S_closePack_23 (by decide) ?_
  refine bV.istore_n G (lv' := [(0, .ref (ad 0)), (1, .int (sumS (qa np) (nI 1) (ql np))), (2, .int (nI (0)))]) d_S_closePack_24 (by decide) rfl rfl ?_
  exact loop 4 0 Pq (by omega) hRq
theorem d_S_pack_0 : decode b_S_pack 0 = .ok (.aload_n 0, 1) := by decide +kernel
theorem d_S_pack_1 : decode b_S_pack 1 = .ok (.invokevirtual 62, 3) := by decide +kernel
theorem d_S_pack_4 : decode b_S_pack 4 = .ok (.aload_n 0, 1) := by decide +kernel
theorem d_S_pack_5 : decode b_S_pack 5 = .ok (.invokevirtual 120, 3) := by decide +kernel
theorem d_S_pack_8 : decode b_S_pack 8 = .ok (.istore_n 1, 1) := by decide +kernel
theorem d_S_pack_9 : decode b_S_pack 9 = .ok (.iload_n 1, 1) := by decide +kernel
theorem d_S_pack_10 : decode b_S_pack 10 = .ok (.ifCond .eq 13, 3) := by decide +kernel
theorem d_S_pack_13 : decode b_S_pack 13 = .ok (.aload_n 0, 1) := by decide +kernel
theorem d_S_pack_14 : decode b_S_pack 14 = .ok (.getfield 55, 3) := by decide +kernel
theorem d_S_pack_17 : decode b_S_pack 17 = .ok (.invokevirtual 82, 3) := by decide +kernel
theorem d_S_pack_20 : decode b_S_pack 20 = .ok (.ifCond .eq 5, 3) := by decide +kernel
theorem d_S_pack_23 : decode b_S_pack 23 = .ok (.iconst (-1), 1) := by decide +kernel
theorem d_S_pack_24 : decode b_S_pack 24 = .ok (.ireturn, 1) := by decide +kernel
theorem d_S_pack_25 : decode b_S_pack 25 = .ok (.aload_n 0, 1) := by decide +kernel
theorem d_S_pack_26 : decode b_S_pack 26 = .ok (.getfield 55, 3) := by decide +kernel
theorem d_S_pack_29 : decode b_S_pack 29 = .ok (.iload_n 1, 1) := by decide +kernel
theorem d_S_pack_30 : decode b_S_pack 30 = .ok (.invokevirtual 69, 3) := by decide +kernel
theorem d_S_pack_33 : decode b_S_pack 33 = .ok (.iconst 0, 1) := by decide +kernel
theorem d_S_pack_34 : decode b_S_pack 34 = .ok (.istore_n 2, 1) := by decide +kernel
theorem d_S_pack_35 : decode b_S_pack 35 = .ok (.iload_n 2, 1) := by decide +kernel
theorem d_S_pack_36 : decode b_S_pack 36 = .ok (.aload_n 0, 1) := by decide +kernel
theorem d_S_pack_37 : decode b_S_pack 37 = .ok (.getfield 21, 3) := by decide +kernel
theorem d_S_pack_40 : decode b_S_pack 40 = .ok (.invokevirtual 123, 3) := by decide +kernel
theorem d_S_pack_43 : decode b_S_pack 43 = .ok (.if_icmp .ge 22, 3) := by decide +kernel
theorem d_S_pack_46 : decode b_S_pack 46 = .ok (.aload_n 0, 1) := by decide +kernel
theorem d_S_pack_47 : decode b_S_pack 47 = .ok (.iload_n 2, 1) := by decide +kernel
theorem d_S_pack_48 : decode b_S_pack 48 = .ok (.invokevirtual 126, 3) := by decide +kernel
theorem d_S_pack_51 : decode b_S_pack 51 = .ok (.ifCond .eq 8, 3) := by decide +kernel
theorem d_S_pack_54 : decode b_S_pack 54 = .ok (.aload_n 0, 1) := by decide +kernel
theorem d_S_pack_55 : decode b_S_pack 55 = .ok (.iload_n 2, 1) := by decide +kernel
theorem d_S_pack_56 : decode b_S_pack 56 = .ok (.invokevirtual 129, 3) := by decide +kernel
theorem d_S_pack_59 : decode b_S_pack 59 = .ok (.iinc 2 1, 3) := by decide +kernel
theorem d_S_pack_62 : decode b_S_pack 62 = .ok (.goto (-27), 3) := by decide +kernel
theorem d_S_pack_65 : decode b_S_pack 65 = .ok (.aload_n 0, 1) := by decide +kernel
theorem d_S_pack_66 : decode b_S_pack 66 = .ok (.invokevirtual 132, 3) := by decide +kernel
theorem d_S_pack_69 : decode b_S_pack 69 = .ok (.aload_n 0, 1) := by decide +kernel
theorem d_S_pack_70 : decode b_S_pack 70 = .ok (.getfield 55, 3) := by decide +kernel
theorem d_S_pack_73 : decode b_S_pack 73 = .ok (.invokevirtual 135, 3) := by decide +kernel
theorem d_S_pack_76 : decode b_S_pack 76 = .ok (.ireturn, 1) := by decide +kernel
set_option maxRecDepth 20000 in
set_option maxHeartbeats 4000000 in
theorem c_S_pack {D : va_G} {cI cZ cJ : ClassId} {ad : Nat → Nat} {mp : Nat} {lf : Nat → Int32} {n : Nat} {Pb : pc_C} {gt gp gh : Nat → Int32} {Pv : pc_C} {gd : Nat → Int32} {Pq : pc_C} {cr : Bool} {rest : va_W} {nb : Nat} {bl : Nat → Nat} {ba : Nat → Nat → Nat} {mt : Nat → Bool} {mk : Nat → Bool} {np : Nat} {ql : Nat → Nat} {qa : Nat → Nat → Nat} (hRb : pc_R 600 25 Pb (nb, bl, ba)) (hRt : mk_R 24 gt mt) (hRp : mk_R 24 gp mk) (hRq : pc_R 664 (mp + 1) Pq (np, ql, qa)) (hm : mp ≤ 8) (hb24 : ∀ j, j < nb → bl j ≤ 24) (hcap : np < mp → pcS ql (np + 1) + 5 + 26 * cntU (fun b => !mk b) 24 ≤ 664) : bC D bcl (tys3 cI cZ cJ) y_S_pack ({ frames := 7, cells := 1, slots := 6, locals := 104 }) (wS ad cI cZ mp lf n Pb gt gp gh Pv gd Pq cr rest) [.ref (ad 0)] (bI (fun x ws9 => cr = false ∧ (((cntU (unp mt mk) nb = 0 ∨ np = mp) ∧ x = -1 ∧ ws9 = wS ad cI cZ mp lf n Pb gt gp gh Pv gd Pq cr rest) ∨ ((cntU (unp mt mk) nb ≠ 0 ∧ np < mp) ∧ x = nI (mp - (np + 1)) ∧ ∃ (gp1 : Nat → Int32) (Pq1 : pc_C), mk_R 24 gp1 (pkM mt mk nb) ∧ pc_R 664 (mp + 1) Pq1 (np + 1, fup ((putN np (byteN (sumS (((pkA mt mk bl ba np (putS np (cntU (unp mt mk) nb) (ql, qa)) nb)).2 np) (nI 1) (((pkA mt mk bl ba np (putS np (cntU (unp mt mk) nb) (ql, qa)) nb)).1 np))) ((pkA mt mk bl ba np (putS np (cntU (unp mt mk) nb) (ql, qa)) nb)) 4)).1 (np + 1) 0, ((putN np (byteN (sumS (((pkA mt mk bl ba np (putS np (cntU (unp mt mk) nb) (ql, qa)) nb)).2 np) (nI 1) (((pkA mt mk bl ba np (putS np (cntU (unp mt mk) nb) (ql, qa)) nb)).1 np))) ((pkA mt mk bl ba np (putS np (cntU (unp mt mk) nb) (ql, qa)) nb)) 4)).2) ∧ ws9 = wS ad cI cZ mp lf n Pb gt gp1 gh Pv gd Pq1 cr rest))) (fun E ws9 => cr = true ∧ E = "java/lang/IllegalStateException" ∧ ws9 = wS ad cI cZ mp lf n Pb gt gp gh Pv gd Pq cr rest)) := by
  have fb : nb < 25 := hRb.2.1
  have fq : np < mp + 1 := hRq.2.1
  have hcu := cntU_le (f := unp mt mk) nb
  refine bC.of (by decide) m_S_pack.1 (Nat.le_of_ble_eq_true rfl) ?_
  intro Γ G E0
  show bV D bcl Γ 3 (wS ad cI cZ mp lf n Pb gt gp gh Pv gd Pq cr rest) 0 0 0 [(0, .ref (ad 0))] []
  have loop : ∀ (d : Nat) (j : Nat) (Pz : pc_C) (gz : Nat → Int32), cr = false → cntU (unp mt mk) nb ≠ 0 → ¬ np + 1 = mp + 1 → d + j = nb → pc_R 664 (mp + 1) Pz (np, (pkA mt mk bl ba np (putS np (cntU (unp mt mk) nb) (ql, qa)) j).1, (pkA mt mk bl ba np (putS np (cntU (unp mt mk) nb) (ql, qa)) j).2) → mk_R 24 gz (pkM mt mk j) → pcS (pkA mt mk bl ba np (putS np (cntU (unp mt mk) nb) (ql, qa)) j).1 (np + 1) + 4 + 26 * cntU (fun b => !pkM mt mk j b) 24 ≤ 664 → bV D bcl Γ 3 (wS ad cI cZ mp lf n Pb gt gz gh Pv gd Pz cr rest) 1 6 35 [(0, .ref (ad 0)), (1, .int (nI (cntU (unp mt mk) nb))), (2, .int (nI (j)))] [] := by
    intro d
    induction d with
    | zero =>
      intro j Pz gz hg1 c10 c20 hd hRz hRy hcp
      refine bV.iload_n G d_S_pack_35 rfl ?_
      refine bV.aload_n G d_S_pack_36 rfl ?_
      refine bV.getf G cl_S 0 1 rfl (by decide) bw_74 rfl d_S_pack_37 ?_
      refine bV.callVi G m_P_count bw_208 bw_209 bw_207 (c_P_count wS_b hRb) 3 rfl rfl rfl rfl rfl ⟨by decide, by decide⟩ ⟨by decide, by decide⟩ (Nat.le_of_ble_eq_true rfl) d_S_pack_40 (fun x9 ws9 h9 => ?_)
      obtain ⟨rfl, h9e⟩ := h9
      rw [h9e]
      try dsimp only
      refine bV.icmp_geN (tgt := 65) G d_S_pack_43 (by decide) (by omega) (by omega) (fun c43 => ?_) (fun c43 => ?_)
      · obtain rfl : nb = j := by omega
        have hroom4 : pcS (pkA mt mk bl ba np (putS np (cntU (unp mt mk) nb) (ql, qa)) nb).1 (np + 1) + 4 ≤ 664 := by omega
        refine bV.aload_n G d_S_pack_65 rfl ?_
        refine bV.callVo G m_S_closePack bw_383 bw_s15 bw_381 (c_S_closePack hRz hm (by omega) hroom4) 0 rfl rfl rfl rfl rfl ⟨by decide, by decide⟩ ⟨by decide, by decide⟩ (Nat.le_of_ble_eq_true rfl) d_S_pack_66 (fun ws9 h9 => ?_)
        obtain ⟨Pq2, hRq2, h9e⟩ := h9
        rw [h9e]
        refine bV.aload_n G d_S_pack_69 rfl ?_
        refine bV.getf G cl_S 0 7 rfl (by decide) bw_80 rfl d_S_pack_70 ?_
        refine bV.callVi G m_P_stillFree bw_237 bw_238 bw_388 (c_P_stillFree wS_q hRq2) 17 rfl rfl rfl rfl rfl ⟨by decide, by decide⟩ ⟨by decide, by decide⟩ (Nat.le_of_ble_eq_true rfl) d_S_pack_73 (fun x9 ws9 h9 => ?_)
        obtain ⟨rfl, h9e⟩ := h9
        rw [h9e]
        try dsimp only
        exact bV.iretI G E0 rfl rfl (by decide) (by decide) d_S_pack_76 ⟨hg1, Or.inr ⟨⟨c10, by omega⟩, congrArg nI (by omega), gz, Pq2, hRy, hRq2, rfl⟩⟩
      · exfalso; omega
    | succ d ih =>
      intro j Pz gz hg1 c10 c20 hd hRz hRy hcp
      refine bV.iload_n G d_S_pack_35 rfl ?_
      refine bV.aload_n G d_S_pack_36 rfl ?_
      refine bV.getf G cl_S 0 1 rfl (by decide) bw_74 rfl d_S_pack_37 ?_
      refine bV.callVi G m_P_count bw_208 bw_209 bw_207 (c_P_count wS_b hRb) 3 rfl rfl rfl rfl rfl ⟨by decide, by decide⟩ ⟨by decide, by decide⟩ (Nat.le_of_ble_eq_true rfl) d_S_pack_40 (fun x9 ws9 h9 => ?_)
      obtain ⟨rfl, h9e⟩ := h9
      rw [h9e]
      try dsimp only
      refine bV.icmp_geN (tgt := 65) G d_S_pack_43 (by decide) (by omega) (by omega) (fun c43 => ?_) (fun c43 => ?_)
      · exfalso; omega
      · refine bV.aload_n G d_S_pack_46 rfl ?_
        refine bV.iload_n G d_S_pack_47 rfl ?_
        refine bV.callVi G m_S_isUnpacked bw_375 bw_s13 bw_373 (c_S_isUnpacked hRt hRy (j := j) (by omega)) 0 rfl rfl rfl rfl rfl ⟨by decide, by decide⟩ ⟨by decide, by decide⟩ (Nat.le_of_ble_eq_true rfl) d_S_pack_48 (fun x9 ws9 h9 => ?_)
        obtain ⟨rfl, h9e⟩ := h9
        rw [h9e]
        try dsimp only
        refine bV.if_eqB (tgt := 59) G d_S_pack_51 (by decide) (fun c51 => ?_) (fun c51 => ?_)
        · have hcj : (mt j && !mk j) = false := by rw [pkM_j] at c51; exact c51
          refine bV.iincN G (lv' := [(0, .ref (ad 0)), (1, .int (nI (cntU (unp mt mk) nb))), (2, .int (nI (j + 1)))]) d_S_pack_59 rfl (by decide) rfl rfl ?_
          refine bV.goto (tgt := 35) G d_S_pack_62 (by decide) ?_
          exact ih (j + 1) Pz gz hg1 c10 c20 (by omega) (by rw [pkA_f hcj]; exact hRz) (by rw [← pkM_f hcj]; exact hRy) (by rw [pkA_f hcj, ← pkM_f hcj]; exact hcp)
        · have hcj : (mt j && !mk j) = true := by rw [pkM_j] at c51; exact c51
          have hb8 := hb24 j (by omega)
          have hpos := pkM_cnt (show j < 24 by omega) hcj
          have hroom : pcS (pkA mt mk bl ba np (putS np (cntU (unp mt mk) nb) (ql, qa)) j).1 (np + 1) + 2 + bl j ≤ 664 := by omega
          refine bV.aload_n G d_S_pack_54 rfl ?_
          refine bV.iload_n G d_S_pack_55 rfl ?_
          refine bV.callVo G m_S_addToOpenPack bw_379 bw_s14 bw_377 (c_S_addToOpenPack hRb hRy hRz (j := j) (by omega) hroom) 0 rfl rfl rfl rfl rfl ⟨by decide, by decide⟩ ⟨by decide, by decide⟩ (Nat.le_of_ble_eq_true rfl) d_S_pack_56 (fun ws9 h9 => ?_)
          obtain ⟨Pq1, gp1, hRq1, hRp1, h9e⟩ := h9
          rw [h9e]
          refine bV.iincN G (lv' := [(0, .ref (ad 0)), (1, .int (nI (cntU (unp mt mk) nb))), (2, .int (nI (j + 1)))]) d_S_pack_59 rfl (by decide) rfl rfl ?_
          refine bV.goto (tgt := 35) G d_S_pack_62 (by decide) ?_
          exact ih (j + 1) Pq1 gp1 hg1 c10 c20 (by omega) (by rw [pkA_t hcj]; exact hRq1) (by rw [← pkM_t hcj]; exact hRp1) (by rw [pkA_t hcj, pcS_putB]; have z := pkM_cnt (show j < 24 by omega) hcj; omega)
  refine bV.aload_n G d_S_pack_0 rfl ?_
  refine bV.callVot G m_S_requireRunning bw_114 bw_s0 bw_112 (c_S_requireRunning ) 0 rfl rfl rfl rfl rfl ⟨by decide, by decide⟩ ⟨by decide, by decide⟩ (Nat.le_of_ble_eq_true rfl) d_S_pack_1 (fun ws9 h9 => ?_) (fun E9 ws9 h9 => ?_)
  · obtain ⟨hg1, h9e⟩ := h9
    rw [h9e]
    refine bV.aload_n G d_S_pack_4 rfl ?_
    refine bV.callVi G m_S_countUnpacked bw_371 bw_s12 bw_369 (c_S_countUnpacked hRb hRt hRp ) 0 rfl rfl rfl rfl rfl ⟨by decide, by decide⟩ ⟨by decide, by decide⟩ (Nat.le_of_ble_eq_true rfl) d_S_pack_5 (fun x9 ws9 h9 => ?_)
    obtain ⟨rfl, h9e⟩ := h9
    rw [h9e]
    try dsimp only
    refine bV.istore_n G (lv' := [(0, .ref (ad 0)), (1, .int (nI (cntU (unp mt mk) nb)))]) d_S_pack_8 (by decide) rfl rfl ?_
    refine bV.iload_n G d_S_pack_9 rfl ?_
    refine bV.if_eqN (tgt := 23) G d_S_pack_10 (by decide) (by omega) (fun c10 => ?_) (fun c10 => ?_)
    · refine bV.iconst (v := (-1)) G d_S_pack_23 (by decide) ?_
      exact bV.iretI G E0 rfl rfl (by decide) (by decide) d_S_pack_24 ⟨hg1, Or.inl ⟨by omega, rfl, rfl⟩⟩
    · have hcu := cntU_le (f := unp mt mk) nb
      refine bV.aload_n G d_S_pack_13 rfl ?_
      refine bV.getf G cl_S 0 7 rfl (by decide) bw_80 rfl d_S_pack_14 ?_
      refine bV.callVi G m_P_isFull bw_233 bw_234 bw_232 (c_P_isFull wS_q hRq) 17 rfl rfl rfl rfl rfl ⟨by decide, by decide⟩ ⟨by decide, by decide⟩ (Nat.le_of_ble_eq_true rfl) d_S_pack_17 (fun x9 ws9 h9 => ?_)
      obtain ⟨rfl, h9e⟩ := h9
      rw [h9e]
      try dsimp only
      refine bV.if_eqB (tgt := 25) G d_S_pack_20 (by decide) (fun c20 => ?_) (fun c20 => ?_)
      · have c20 := of_decide_eq_false c20
        refine bV.aload_n G d_S_pack_25 rfl ?_
        refine bV.getf G cl_S 0 7 rfl (by decide) bw_80 rfl d_S_pack_26 ?_
        refine bV.iload_n G d_S_pack_29 rfl ?_
        refine bV.callVo G m_P_add bw_193 bw_194 bw_192 (cS_q_add (x := cntU (unp mt mk) nb) hRq (by omega) (by dsimp only; have z := hcap (by omega); omega)) 17 rfl rfl rfl rfl rfl ⟨by decide, by decide⟩ ⟨by decide, by decide⟩ (Nat.le_of_ble_eq_true rfl) d_S_pack_30 (fun ws9 h9 => ?_)
        obtain ⟨Pq1, hRq2, h9e⟩ := h9
        rw [h9e]
        try dsimp only at hRq2
        refine bV.iconst (v := nI 0) G d_S_pack_33 (by decide) ?_
        refine bV.istore_n G (lv' := [(0, .ref (ad 0)), (1, .int (nI (cntU (unp mt mk) nb))), (2, .int (nI (0)))]) d_S_pack_34 (by decide) rfl rfl ?_
        exact loop nb 0 Pq1 gp hg1 c10 c20 (by omega) hRq2 (by rw [pkM_0]; exact hRp) (by have z := hcap (by omega); rw [pkM_0]; show pcS (fup ql np (ql np + 1)) (np + 1) + 4 + 26 * cntU (fun b => !mk b) 24 ≤ 664; rw [pcS_put]; omega)
      · have c20 := of_decide_eq_true c20
        refine bV.iconst (v := (-1)) G d_S_pack_23 (by decide) ?_
        exact bV.iretI G E0 rfl rfl (by decide) (by decide) d_S_pack_24 ⟨hg1, Or.inl ⟨by omega, rfl, rfl⟩⟩
  · obtain ⟨hz, rfl, h9e⟩ := h9
    rw [h9e]
    exact bT.leaveI G E0 rfl (by decide) (by decide) ⟨hz, rfl, rfl⟩
theorem d_S_feed_0 : decode b_S_feed 0 = .ok (.aload_n 0, 1) := by decide +kernel
theorem d_S_feed_1 : decode b_S_feed 1 = .ok (.invokevirtual 62, 3) := by decide +kernel
theorem d_S_feed_4 : decode b_S_feed 4 = .ok (.iload_n 1, 1) := by decide +kernel
theorem d_S_feed_5 : decode b_S_feed 5 = .ok (.ifCond .lt 22, 3) := by decide +kernel
theorem d_S_feed_8 : decode b_S_feed 8 = .ok (.iload_n 1, 1) := by decide +kernel
theorem d_S_feed_9 : decode b_S_feed 9 = .ok (.sipush 255, 3) := by decide +kernel
theorem d_S_feed_12 : decode b_S_feed 12 = .ok (.if_icmp .gt 15, 3) := by decide +kernel
theorem d_S_feed_15 : decode b_S_feed 15 = .ok (.aload_n 0, 1) := by decide +kernel
theorem d_S_feed_16 : decode b_S_feed 16 = .ok (.getfield 21, 3) := by decide +kernel
theorem d_S_feed_19 : decode b_S_feed 19 = .ok (.invokevirtual 65, 3) := by decide +kernel
theorem d_S_feed_22 : decode b_S_feed 22 = .ok (.bipush 24, 2) := by decide +kernel
theorem d_S_feed_24 : decode b_S_feed 24 = .ok (.if_icmp .lt 5, 3) := by decide +kernel
theorem d_S_feed_27 : decode b_S_feed 27 = .ok (.iconst 0, 1) := by decide +kernel
theorem d_S_feed_28 : decode b_S_feed 28 = .ok (.ireturn, 1) := by decide +kernel
theorem d_S_feed_29 : decode b_S_feed 29 = .ok (.aload_n 0, 1) := by decide +kernel
theorem d_S_feed_30 : decode b_S_feed 30 = .ok (.getfield 21, 3) := by decide +kernel
theorem d_S_feed_33 : decode b_S_feed 33 = .ok (.iload_n 1, 1) := by decide +kernel
theorem d_S_feed_34 : decode b_S_feed 34 = .ok (.invokevirtual 69, 3) := by decide +kernel
theorem d_S_feed_37 : decode b_S_feed 37 = .ok (.iconst 1, 1) := by decide +kernel
theorem d_S_feed_38 : decode b_S_feed 38 = .ok (.ireturn, 1) := by decide +kernel
set_option maxRecDepth 20000 in
set_option maxHeartbeats 4000000 in
theorem c_S_feed {D : va_G} {cI cZ cJ : ClassId} {ad : Nat → Nat} {mp : Nat} {lf : Nat → Int32} {n : Nat} {Pb : pc_C} {gt gp gh : Nat → Int32} {Pv : pc_C} {gd : Nat → Int32} {Pq : pc_C} {cr : Bool} {rest : va_W} {nb : Nat} {bl : Nat → Nat} {ba : Nat → Nat → Nat} (hRb : pc_R 600 25 Pb (nb, bl, ba)) {v : Int32} (hb24 : ∀ j, j ≤ nb → bl j ≤ 24) : bC D bcl (tys3 cI cZ cJ) y_S_feed ({ frames := 7, cells := 1, slots := 6, locals := 104 }) (wS ad cI cZ mp lf n Pb gt gp gh Pv gd Pq cr rest) [.ref (ad 0), .int (v)] (bI (fun x ws9 => cr = false ∧ ((¬ ((0 ≤ v ∧ v < nI 256) ∧ bl nb < 24) ∧ x = bB false ∧ ws9 = wS ad cI cZ mp lf n Pb gt gp gh Pv gd Pq cr rest) ∨ (((0 ≤ v ∧ v < nI 256) ∧ bl nb < 24) ∧ x = bB true ∧ ∃ Pb1 : pc_C, pc_R 600 25 Pb1 (nb, fup bl nb (bl nb + 1), fup2 ba nb (bl nb) v.toNatClampNeg) ∧ ws9 = wS ad cI cZ mp lf n Pb1 gt gp gh Pv gd Pq cr rest))) (fun E ws9 => cr = true ∧ E = "java/lang/IllegalStateException" ∧ ws9 = wS ad cI cZ mp lf n Pb gt gp gh Pv gd Pq cr rest)) := by
  have fb : nb < 25 := hRb.2.1
  refine bC.of (by decide) m_S_feed.1 (Nat.le_of_ble_eq_true rfl) ?_
  intro Γ G E0
  show bV D bcl Γ 2 (wS ad cI cZ mp lf n Pb gt gp gh Pv gd Pq cr rest) 0 0 0 [(0, .ref (ad 0)), (1, .int (v))] []
  refine bV.aload_n G d_S_feed_0 rfl ?_
  refine bV.callVot G m_S_requireRunning bw_114 bw_s0 bw_112 (c_S_requireRunning ) 0 rfl rfl rfl rfl rfl ⟨by decide, by decide⟩ ⟨by decide, by decide⟩ (Nat.le_of_ble_eq_true rfl) d_S_feed_1 (fun ws9 h9 => ?_) (fun E9 ws9 h9 => ?_)
  · obtain ⟨hg1, h9e⟩ := h9
    rw [h9e]
    refine bV.iload_n G d_S_feed_4 rfl ?_
    refine bV.if_lt (tgt := 27) G d_S_feed_5 (by decide) (fun c5 => ?_) (fun c5 => ?_)
    · refine bV.iconst (v := nI 0) G d_S_feed_27 (by decide) ?_
      refine bV.topi (x := nI 0) (y := bB false) (by decide) ?_
      exact bV.iretI G E0 rfl (bB_n _) (by decide) (by decide) d_S_feed_28 ⟨hg1, Or.inl ⟨fun z => by first | exact absurd c5 (Int32.not_lt.mpr z.1.1) | (have z2 := z.2; omega) | (obtain ⟨x, h1, rfl⟩ := nI_btw z.1 (by decide); exact absurd ((nI_ltI (by decide) (by omega)).mp c12) (by omega)), rfl, rfl⟩⟩
    · refine bV.iload_n G d_S_feed_8 rfl ?_
      refine bV.sipush (v := nI 255) G d_S_feed_9 (by decide) ?_
      refine bV.icmp_gt (tgt := 27) G d_S_feed_12 (by decide) (fun c12 => ?_) (fun c12 => ?_)
      · refine bV.iconst (v := nI 0) G d_S_feed_27 (by decide) ?_
        refine bV.topi (x := nI 0) (y := bB false) (by decide) ?_
        exact bV.iretI G E0 rfl (bB_n _) (by decide) (by decide) d_S_feed_28 ⟨hg1, Or.inl ⟨fun z => by first | exact absurd c5 (Int32.not_lt.mpr z.1.1) | (have z2 := z.2; omega) | (obtain ⟨x, h1, rfl⟩ := nI_btw z.1 (by decide); exact absurd ((nI_ltI (by decide) (by omega)).mp c12) (by omega)), rfl, rfl⟩⟩
      · obtain ⟨x, hx, rfl⟩ : ∃ x : Nat, x < 256 ∧ v = nI x := by obtain ⟨x, h1, rfl⟩ := nI_of c5; exact ⟨x, by have z := (nI_leI h1 (show 255 < 2 ^ 31 by decide)).mp (Int32.not_lt.mp c12); omega, rfl⟩
        refine bV.aload_n G d_S_feed_15 rfl ?_
        refine bV.getf G cl_S 0 1 rfl (by decide) bw_74 rfl d_S_feed_16 ?_
        refine bV.callVi G m_P_openLength bw_185 bw_186 bw_184 (c_P_openLength wS_b hRb) 3 rfl rfl rfl rfl rfl ⟨by decide, by decide⟩ ⟨by decide, by decide⟩ (Nat.le_of_ble_eq_true rfl) d_S_feed_19 (fun x9 ws9 h9 => ?_)
        obtain ⟨rfl, h9e⟩ := h9
        rw [h9e]
        try dsimp only
        have hl9 : bl nb ≤ 24 := hb24 nb (Nat.le_refl _)
        refine bV.bipush (v := nI 24) G d_S_feed_22 (by decide) ?_
        refine bV.icmp_ltN (tgt := 29) G d_S_feed_24 (by decide) (by omega) (by omega) (fun c24 => ?_) (fun c24 => ?_)
        · refine bV.aload_n G d_S_feed_29 rfl ?_
          refine bV.getf G cl_S 0 1 rfl (by decide) bw_74 rfl d_S_feed_30 ?_
          refine bV.iload_n G d_S_feed_33 rfl ?_
          refine bV.callVo G m_P_add bw_193 bw_194 bw_192 (cS_b_add (x := x) hRb (by omega) (by dsimp only; have z := pcS_le (pl := bl) (c := 24) nb (fun j hj => hb24 j (by omega)); show pcS bl nb + bl nb < 600; omega)) 3 rfl rfl rfl rfl rfl ⟨by decide, by decide⟩ ⟨by decide, by decide⟩ (Nat.le_of_ble_eq_true rfl) d_S_feed_34 (fun ws9 h9 => ?_)
          obtain ⟨Pb1, hRb2, h9e⟩ := h9
          rw [h9e]
          try dsimp only at hRb2
          refine bV.iconst (v := nI 1) G d_S_feed_37 (by decide) ?_
          refine bV.topi (x := nI 1) (y := bB true) (by decide) ?_
          exact bV.iretI G E0 rfl (bB_n _) (by decide) (by decide) d_S_feed_38 ⟨hg1, Or.inr ⟨⟨⟨nI_pos' (by omega), nI_lt (by omega) (by decide)⟩, by omega⟩, rfl, Pb1, by rw [nI_clamp (by omega)]; exact hRb2, rfl⟩⟩
        · refine bV.iconst (v := nI 0) G d_S_feed_27 (by decide) ?_
          refine bV.topi (x := nI 0) (y := bB false) (by decide) ?_
          exact bV.iretI G E0 rfl (bB_n _) (by decide) (by decide) d_S_feed_28 ⟨hg1, Or.inl ⟨fun z => by first | exact absurd c5 (Int32.not_lt.mpr z.1.1) | (have z2 := z.2; omega) | (obtain ⟨x, h1, rfl⟩ := nI_btw z.1 (by decide); exact absurd ((nI_ltI (by decide) (by omega)).mp c12) (by omega)), rfl, rfl⟩⟩
  · obtain ⟨hz, rfl, h9e⟩ := h9
    rw [h9e]
    exact bT.leaveI G E0 rfl (by decide) (by decide) ⟨hz, rfl, rfl⟩
theorem d_S_block_0 : decode b_S_block 0 = .ok (.aload_n 0, 1) := by decide +kernel
theorem d_S_block_1 : decode b_S_block 1 = .ok (.invokevirtual 62, 3) := by decide +kernel
theorem d_S_block_4 : decode b_S_block 4 = .ok (.aload_n 0, 1) := by decide +kernel
theorem d_S_block_5 : decode b_S_block 5 = .ok (.getfield 40, 3) := by decide +kernel
theorem d_S_block_8 : decode b_S_block 8 = .ok (.invokevirtual 65, 3) := by decide +kernel
theorem d_S_block_11 : decode b_S_block 11 = .ok (.bipush 8, 2) := by decide +kernel
theorem d_S_block_13 : decode b_S_block 13 = .ok (.if_icmp .lt 5, 3) := by decide +kernel
theorem d_S_block_16 : decode b_S_block 16 = .ok (.iconst (-1), 1) := by decide +kernel
theorem d_S_block_17 : decode b_S_block 17 = .ok (.ireturn, 1) := by decide +kernel
theorem d_S_block_18 : decode b_S_block 18 = .ok (.aload_n 0, 1) := by decide +kernel
theorem d_S_block_19 : decode b_S_block 19 = .ok (.invokevirtual 72, 3) := by decide +kernel
theorem d_S_block_22 : decode b_S_block 22 = .ok (.istore_n 1, 1) := by decide +kernel
theorem d_S_block_23 : decode b_S_block 23 = .ok (.iload_n 1, 1) := by decide +kernel
theorem d_S_block_24 : decode b_S_block 24 = .ok (.iconst (-1), 1) := by decide +kernel
theorem d_S_block_25 : decode b_S_block 25 = .ok (.if_icmp .ne 10, 3) := by decide +kernel
theorem d_S_block_28 : decode b_S_block 28 = .ok (.aload_n 0, 1) := by decide +kernel
theorem d_S_block_29 : decode b_S_block 29 = .ok (.invokevirtual 75, 3) := by decide +kernel
theorem d_S_block_32 : decode b_S_block 32 = .ok (.goto 8, 3) := by decide +kernel
theorem d_S_block_35 : decode b_S_block 35 = .ok (.aload_n 0, 1) := by decide +kernel
theorem d_S_block_36 : decode b_S_block 36 = .ok (.iload_n 1, 1) := by decide +kernel
theorem d_S_block_37 : decode b_S_block 37 = .ok (.invokevirtual 78, 3) := by decide +kernel
theorem d_S_block_40 : decode b_S_block 40 = .ok (.ireturn, 1) := by decide +kernel
set_option maxRecDepth 20000 in
set_option maxHeartbeats 4000000 in
theorem c_S_block {D : va_G} {cI cZ cJ : ClassId} {ad : Nat → Nat} {mp : Nat} {lf : Nat → Int32} {n : Nat} {Pb : pc_C} {gt gp gh : Nat → Int32} {Pv : pc_C} {gd : Nat → Int32} {Pq : pc_C} {cr : Bool} {rest : va_W} {lg : Nat → Nat} {nb : Nat} {bl : Nat → Nat} {ba : Nat → Nat → Nat} {mt : Nat → Bool} {nv : Nat} {vl : Nat → Nat} {va : Nat → Nat → Nat} (hRl : lg_R lf n lg) (hRb : pc_R 600 25 Pb (nb, bl, ba)) (hRt : mk_R 24 gt mt) (hRv : pc_R 104 13 Pv (nv, vl, va)) (hbl : bl nb ≤ 24) (hby : ∀ i, i < bl nb → ba nb i < 256) (hv8 : ∀ v, v ≤ nv → vl v ≤ 8) : bC D bcl (tys3 cI cZ cJ) y_S_block ({ frames := 7, cells := 1, slots := 6, locals := 115 }) (wS ad cI cZ mp lf n Pb gt gp gh Pv gd Pq cr rest) [.ref (ad 0)] (bI (fun x ws9 => cr = false ∧ ((8 ≤ vl nv ∧ x = -1 ∧ ws9 = wS ad cI cZ mp lf n Pb gt gp gh Pv gd Pq cr rest) ∨ (vl nv < 8 ∧ ((∃ j, j < nb ∧ eqF mt bl ba nb j ∧ (∀ j0, j0 < j → ¬ eqF mt bl ba nb j0) ∧ ((400 < n + 2 ∧ x = -1 ∧ ws9 = wS ad cI cZ mp lf n Pb gt gp gh Pv gd Pq cr rest) ∨ (n + 2 ≤ 400 ∧ x = nI j ∧ ∃ (lf1 : Nat → Int32) (Pb1 Pv1 : pc_C), lg_R lf1 (n + 2) (rec2 lg n 2 j) ∧ pc_R 600 25 Pb1 (nb, fup bl nb 0, ba) ∧ pc_R 104 13 Pv1 (nv, fup vl nv (vl nv + 1), fup2 va nv (vl nv) j) ∧ ws9 = wS ad cI cZ mp lf1 (n + 2) Pb1 gt gp gh Pv1 gd Pq cr rest))) ∨ ((∀ j, j < nb → ¬ eqF mt bl ba nb j) ∧ (((nb = 24 ∨ 400 < n + 2 + bl nb) ∧ x = -1 ∧ ws9 = wS ad cI cZ mp lf n Pb gt gp gh Pv gd Pq cr rest) ∨ ((nb < 24 ∧ n + 2 + bl nb ≤ 400) ∧ x = nI nb ∧ ∃ lf1, lg_R lf1 (n + 2 + bl nb) (rec1 lg n (bl nb) (ba nb)) ∧ ∃ (Pb1 : pc_C) (gt1 : Nat → Int32) (Pv1 : pc_C), pc_R 600 25 Pb1 (nb + 1, fup bl (nb + 1) 0, ba) ∧ mk_R 24 gt1 (mk_up mt nb true) ∧ pc_R 104 13 Pv1 (nv, fup vl nv (vl nv + 1), fup2 va nv (vl nv) nb) ∧ ws9 = wS ad cI cZ mp lf1 (n + 2 + bl nb) Pb1 gt1 gp gh Pv1 gd Pq cr rest))))))) (fun E ws9 => cr = true ∧ E = "java/lang/IllegalStateException" ∧ ws9 = wS ad cI cZ mp lf n Pb gt gp gh Pv gd Pq cr rest)) := by
  have fl : n ≤ 400 := hRl.1
  have fb : nb < 25 := hRb.2.1
  have fv : nv < 13 := hRv.2.1
  refine bC.of (by decide) m_S_block.1 (Nat.le_of_ble_eq_true rfl) ?_
  intro Γ G E0
  show bV D bcl Γ 2 (wS ad cI cZ mp lf n Pb gt gp gh Pv gd Pq cr rest) 0 0 0 [(0, .ref (ad 0))] []
  refine bV.aload_n G d_S_block_0 rfl ?_
  refine bV.callVot G m_S_requireRunning bw_114 bw_s0 bw_112 (c_S_requireRunning ) 0 rfl rfl rfl rfl rfl ⟨by decide, by decide⟩ ⟨by decide, by decide⟩ (Nat.le_of_ble_eq_true rfl) d_S_block_1 (fun ws9 h9 => ?_) (fun E9 ws9 h9 => ?_)
  · obtain ⟨hg1, h9e⟩ := h9
    rw [h9e]
    refine bV.aload_n G d_S_block_4 rfl ?_
    refine bV.getf G cl_S 0 5 rfl (by decide) bw_78 rfl d_S_block_5 ?_
    refine bV.callVi G m_P_openLength bw_185 bw_186 bw_184 (c_P_openLength wS_v hRv) 12 rfl rfl rfl rfl rfl ⟨by decide, by decide⟩ ⟨by decide, by decide⟩ (Nat.le_of_ble_eq_true rfl) d_S_block_8 (fun x9 ws9 h9 => ?_)
    obtain ⟨rfl, h9e⟩ := h9
    rw [h9e]
    try dsimp only
    have hl9 : vl nv ≤ 8 := hv8 nv (Nat.le_refl _)
    refine bV.bipush (v := nI 8) G d_S_block_11 (by decide) ?_
    refine bV.icmp_ltN (tgt := 18) G d_S_block_13 (by decide) (by omega) (by omega) (fun c13 => ?_) (fun c13 => ?_)
    · have hr : pcS vl (nv + 1) < 104 := by have z := pcS_le (pl := vl) (c := 8) nv (fun j hj => hv8 j (by omega)); show pcS vl nv + vl nv < 104; omega
      refine bV.aload_n G d_S_block_18 rfl ?_
      refine bV.callVi G m_S_equalOfFed bw_205 bw_s2 bw_203 (c_S_equalOfFed hRb hRt ) 0 rfl rfl rfl rfl rfl ⟨by decide, by decide⟩ ⟨by decide, by decide⟩ (Nat.le_of_ble_eq_true rfl) d_S_block_19 (fun x9 ws9 h9 => ?_)
      obtain ⟨h9d, h9e⟩ := h9
      rw [h9e]
      refine bV.istore_n G (lv' := [(0, .ref (ad 0)), (1, .int (x9))]) d_S_block_22 (by decide) rfl rfl ?_
      refine bV.iload_n G d_S_block_23 rfl ?_
      refine bV.iconst (v := (-1)) G d_S_block_24 (by decide) ?_
      refine bV.icmp_ne (tgt := 35) G d_S_block_25 (by decide) (fun c25 => ?_) (fun c25 => ?_)
      · obtain ⟨j, hj, rfl, hje, hjm⟩ : ∃ j, j < nb ∧ x9 = nI j ∧ eqF mt bl ba nb j ∧ ∀ j0, j0 < j → ¬ eqF mt bl ba nb j0 := h9d.resolve_right (fun z => c25 z.1)
        refine bV.aload_n G d_S_block_35 rfl ?_
        refine bV.iload_n G d_S_block_36 rfl ?_
        refine bV.callVi G m_S_takeOldBlock bw_263 bw_s5 bw_261 (c_S_takeOldBlock hRl hRb hRv (j := j) hj hr) 0 rfl rfl rfl rfl rfl ⟨by decide, by decide⟩ ⟨by decide, by decide⟩ (Nat.le_of_ble_eq_true rfl) d_S_block_37 (fun x9 ws9 h9 => ?_)
        have hTO := h9
        exact bV.iretI G E0 rfl rfl (by decide) (by decide) d_S_block_40 ⟨hg1, Or.inr ⟨by omega, Or.inl ⟨j, hj, hje, hjm, hTO⟩⟩⟩
      · have hno : ∀ j, j < nb → ¬ eqF mt bl ba nb j := (h9d.resolve_left (fun ⟨j, h1, h2, _⟩ => nI_nm1 (by omega) (h2.symm.trans c25))).2
        refine bV.aload_n G d_S_block_28 rfl ?_
        refine bV.callVi G m_S_takeNewBlock bw_230 bw_s3 bw_228 (c_S_takeNewBlock hRl hRb hRt hRv hbl hby hr) 0 rfl rfl rfl rfl rfl ⟨by decide, by decide⟩ ⟨by decide, by decide⟩ (Nat.le_of_ble_eq_true rfl) d_S_block_29 (fun x9 ws9 h9 => ?_)
        have hTN := h9
        refine bV.goto (tgt := 40) G d_S_block_32 (by decide) ?_
        exact bV.iretI G E0 rfl rfl (by decide) (by decide) d_S_block_40 ⟨hg1, Or.inr ⟨by omega, Or.inr ⟨hno, hTN⟩⟩⟩
    · refine bV.iconst (v := (-1)) G d_S_block_16 (by decide) ?_
      exact bV.iretI G E0 rfl rfl (by decide) (by decide) d_S_block_17 ⟨hg1, Or.inl ⟨by omega, rfl, rfl⟩⟩
  · obtain ⟨hz, rfl, h9e⟩ := h9
    rw [h9e]
    exact bT.leaveI G E0 rfl (by decide) (by decide) ⟨hz, rfl, rfl⟩
theorem d_S_version_0 : decode b_S_version 0 = .ok (.aload_n 0, 1) := by decide +kernel
theorem d_S_version_1 : decode b_S_version 1 = .ok (.invokevirtual 62, 3) := by decide +kernel
theorem d_S_version_4 : decode b_S_version 4 = .ok (.aload_n 0, 1) := by decide +kernel
theorem d_S_version_5 : decode b_S_version 5 = .ok (.getfield 40, 3) := by decide +kernel
theorem d_S_version_8 : decode b_S_version 8 = .ok (.invokevirtual 82, 3) := by decide +kernel
theorem d_S_version_11 : decode b_S_version 11 = .ok (.ifCond .ne 14, 3) := by decide +kernel
theorem d_S_version_14 : decode b_S_version 14 = .ok (.aload_n 0, 1) := by decide +kernel
theorem d_S_version_15 : decode b_S_version 15 = .ok (.getfield 12, 3) := by decide +kernel
theorem d_S_version_18 : decode b_S_version 18 = .ok (.iconst 1, 1) := by decide +kernel
theorem d_S_version_19 : decode b_S_version 19 = .ok (.invokevirtual 86, 3) := by decide +kernel
theorem d_S_version_22 : decode b_S_version 22 = .ok (.ifCond .ne 5, 3) := by decide +kernel
theorem d_S_version_25 : decode b_S_version 25 = .ok (.iconst (-1), 1) := by decide +kernel
theorem d_S_version_26 : decode b_S_version 26 = .ok (.ireturn, 1) := by decide +kernel
theorem d_S_version_27 : decode b_S_version 27 = .ok (.aload_n 0, 1) := by decide +kernel
theorem d_S_version_28 : decode b_S_version 28 = .ok (.getfield 12, 3) := by decide +kernel
theorem d_S_version_31 : decode b_S_version 31 = .ok (.iconst 3, 1) := by decide +kernel
theorem d_S_version_32 : decode b_S_version 32 = .ok (.invokevirtual 90, 3) := by decide +kernel
theorem d_S_version_35 : decode b_S_version 35 = .ok (.aload_n 0, 1) := by decide +kernel
theorem d_S_version_36 : decode b_S_version 36 = .ok (.getfield 40, 3) := by decide +kernel
theorem d_S_version_39 : decode b_S_version 39 = .ok (.invokevirtual 91, 3) := by decide +kernel
theorem d_S_version_42 : decode b_S_version 42 = .ok (.ireturn, 1) := by decide +kernel
set_option maxRecDepth 20000 in
set_option maxHeartbeats 4000000 in
theorem c_S_version {D : va_G} {cI cZ cJ : ClassId} {ad : Nat → Nat} {mp : Nat} {lf : Nat → Int32} {n : Nat} {Pb : pc_C} {gt gp gh : Nat → Int32} {Pv : pc_C} {gd : Nat → Int32} {Pq : pc_C} {cr : Bool} {rest : va_W} {lg : Nat → Nat} {nv : Nat} {vl : Nat → Nat} {va : Nat → Nat → Nat} (hRl : lg_R lf n lg) (hRv : pc_R 104 13 Pv (nv, vl, va))  : bC D bcl (tys3 cI cZ cJ) y_S_version ({ frames := 7, cells := 1, slots := 6, locals := 104 }) (wS ad cI cZ mp lf n Pb gt gp gh Pv gd Pq cr rest) [.ref (ad 0)] (bI (fun x ws9 => cr = false ∧ (((nv = 12 ∨ n = 400) ∧ x = -1 ∧ ws9 = wS ad cI cZ mp lf n Pb gt gp gh Pv gd Pq cr rest) ∨ ((nv < 12 ∧ n < 400) ∧ x = nI nv ∧ ∃ (lf1 : Nat → Int32) (Pv1 : pc_C), lg_R lf1 (n + 1) (fup lg n 3) ∧ pc_R 104 13 Pv1 (nv + 1, fup vl (nv + 1) 0, va) ∧ ws9 = wS ad cI cZ mp lf1 (n + 1) Pb gt gp gh Pv1 gd Pq cr rest))) (fun E ws9 => cr = true ∧ E = "java/lang/IllegalStateException" ∧ ws9 = wS ad cI cZ mp lf n Pb gt gp gh Pv gd Pq cr rest)) := by
  have fl : n ≤ 400 := hRl.1
  have fv : nv < 13 := hRv.2.1
  refine bC.of (by decide) m_S_version.1 (Nat.le_of_ble_eq_true rfl) ?_
  intro Γ G E0
  show bV D bcl Γ 1 (wS ad cI cZ mp lf n Pb gt gp gh Pv gd Pq cr rest) 0 0 0 [(0, .ref (ad 0))] []
  refine bV.aload_n G d_S_version_0 rfl ?_
  refine bV.callVot G m_S_requireRunning bw_114 bw_s0 bw_112 (c_S_requireRunning ) 0 rfl rfl rfl rfl rfl ⟨by decide, by decide⟩ ⟨by decide, by decide⟩ (Nat.le_of_ble_eq_true rfl) d_S_version_1 (fun ws9 h9 => ?_) (fun E9 ws9 h9 => ?_)
  · obtain ⟨hg1, h9e⟩ := h9
    rw [h9e]
    refine bV.aload_n G d_S_version_4 rfl ?_
    refine bV.getf G cl_S 0 5 rfl (by decide) bw_78 rfl d_S_version_5 ?_
    refine bV.callVi G m_P_isFull bw_233 bw_234 bw_232 (c_P_isFull wS_v hRv) 12 rfl rfl rfl rfl rfl ⟨by decide, by decide⟩ ⟨by decide, by decide⟩ (Nat.le_of_ble_eq_true rfl) d_S_version_8 (fun x9 ws9 h9 => ?_)
    obtain ⟨rfl, h9e⟩ := h9
    rw [h9e]
    try dsimp only
    refine bV.if_neB (tgt := 25) G d_S_version_11 (by decide) (fun c11 => ?_) (fun c11 => ?_)
    · have h11 := of_decide_eq_true c11
      refine bV.iconst (v := (-1)) G d_S_version_25 (by decide) ?_
      exact bV.iretI G E0 rfl rfl (by decide) (by decide) d_S_version_26 ⟨hg1, Or.inl ⟨by omega, rfl, rfl⟩⟩
    · have h11 := of_decide_eq_false c11
      refine bV.aload_n G d_S_version_14 rfl ?_
      refine bV.getf G cl_S 0 0 rfl (by decide) bw_73 rfl d_S_version_15 ?_
      refine bV.iconst (v := nI 1) G d_S_version_18 (by decide) ?_
      refine bV.callVi G m_L_hasRoom bw_241 bw_242 bw_240 (c_L_hasRoom wS_l hRl (y := 1) (by omega)) 1 rfl rfl rfl rfl rfl ⟨by decide, by decide⟩ ⟨by decide, by decide⟩ (Nat.le_of_ble_eq_true rfl) d_S_version_19 (fun x9 ws9 h9 => ?_)
      obtain ⟨rfl, h9e⟩ := h9
      rw [h9e]
      try dsimp only
      refine bV.if_neB (tgt := 27) G d_S_version_22 (by decide) (fun c22 => ?_) (fun c22 => ?_)
      · have h22 := of_decide_eq_true c22
        refine bV.aload_n G d_S_version_27 rfl ?_
        refine bV.getf G cl_S 0 0 rfl (by decide) bw_73 rfl d_S_version_28 ?_
        refine bV.iconst (v := nI 3) G d_S_version_31 (by decide) ?_
        refine bV.callVo G m_L_add bw_245 bw_246 bw_244 (cS_l_add (x := 3) hRl (by omega) (by omega)) 1 rfl rfl rfl rfl rfl ⟨by decide, by decide⟩ ⟨by decide, by decide⟩ (Nat.le_of_ble_eq_true rfl) d_S_version_32 (fun ws9 h9 => ?_)
        obtain ⟨lf1, hRl2, h9e⟩ := h9
        rw [h9e]
        refine bV.aload_n G d_S_version_35 rfl ?_
        refine bV.getf G cl_S 0 5 rfl (by decide) bw_78 rfl d_S_version_36 ?_
        refine bV.callVi G m_P_close bw_254 bw_255 bw_253 (cS_v_close hRv (by dsimp only; omega)) 12 rfl rfl rfl rfl rfl ⟨by decide, by decide⟩ ⟨by decide, by decide⟩ (Nat.le_of_ble_eq_true rfl) d_S_version_39 (fun x9 ws9 h9 => ?_)
        obtain ⟨rfl, Pv3, hRv4, h9e⟩ := h9
        rw [h9e]
        try dsimp only at hRv4
        try dsimp only
        exact bV.iretI G E0 rfl rfl (by decide) (by decide) d_S_version_42 ⟨hg1, Or.inr ⟨⟨by omega, by omega⟩, rfl, lf1, Pv3, hRl2, hRv4, rfl⟩⟩
      · have h22 := of_decide_eq_false c22
        refine bV.iconst (v := (-1)) G d_S_version_25 (by decide) ?_
        exact bV.iretI G E0 rfl rfl (by decide) (by decide) d_S_version_26 ⟨hg1, Or.inl ⟨by omega, rfl, rfl⟩⟩
  · obtain ⟨hz, rfl, h9e⟩ := h9
    rw [h9e]
    exact bT.leaveI G E0 rfl (by decide) (by decide) ⟨hz, rfl, rfl⟩
theorem d_S_sweep_0 : decode b_S_sweep 0 = .ok (.aload_n 0, 1) := by decide +kernel
theorem d_S_sweep_1 : decode b_S_sweep 1 = .ok (.invokevirtual 62, 3) := by decide +kernel
theorem d_S_sweep_4 : decode b_S_sweep 4 = .ok (.aload_n 0, 1) := by decide +kernel
theorem d_S_sweep_5 : decode b_S_sweep 5 = .ok (.getfield 12, 3) := by decide +kernel
theorem d_S_sweep_8 : decode b_S_sweep 8 = .ok (.iconst 1, 1) := by decide +kernel
theorem d_S_sweep_9 : decode b_S_sweep 9 = .ok (.invokevirtual 86, 3) := by decide +kernel
theorem d_S_sweep_12 : decode b_S_sweep 12 = .ok (.ifCond .ne 5, 3) := by decide +kernel
theorem d_S_sweep_15 : decode b_S_sweep 15 = .ok (.iconst 0, 1) := by decide +kernel
theorem d_S_sweep_16 : decode b_S_sweep 16 = .ok (.ireturn, 1) := by decide +kernel
theorem d_S_sweep_17 : decode b_S_sweep 17 = .ok (.aload_n 0, 1) := by decide +kernel
theorem d_S_sweep_18 : decode b_S_sweep 18 = .ok (.getfield 12, 3) := by decide +kernel
theorem d_S_sweep_21 : decode b_S_sweep 21 = .ok (.iconst 5, 1) := by decide +kernel
theorem d_S_sweep_22 : decode b_S_sweep 22 = .ok (.invokevirtual 90, 3) := by decide +kernel
theorem d_S_sweep_25 : decode b_S_sweep 25 = .ok (.aload_n 0, 1) := by decide +kernel
theorem d_S_sweep_26 : decode b_S_sweep 26 = .ok (.invokevirtual 117, 3) := by decide +kernel
theorem d_S_sweep_29 : decode b_S_sweep 29 = .ok (.ireturn, 1) := by decide +kernel
set_option maxRecDepth 20000 in
set_option maxHeartbeats 4000000 in
theorem c_S_sweep {D : va_G} {cI cZ cJ : ClassId} {ad : Nat → Nat} {mp : Nat} {lf : Nat → Int32} {n : Nat} {Pb : pc_C} {gt gp gh : Nat → Int32} {Pv : pc_C} {gd : Nat → Int32} {Pq : pc_C} {cr : Bool} {rest : va_W} {lg : Nat → Nat} {nb : Nat} {bl : Nat → Nat} {ba : Nat → Nat → Nat} {mt : Nat → Bool} {nv : Nat} {vl : Nat → Nat} {va : Nat → Nat → Nat} {md : Nat → Bool} {mh : Nat → Bool} (hRl : lg_R lf n lg) (hRb : pc_R 600 25 Pb (nb, bl, ba)) (hRt : mk_R 24 gt mt) (hRv : pc_R 104 13 Pv (nv, vl, va)) (hRd : mk_R 12 gd md) (hRh : mk_R 24 gh mh) (hvb : ∀ v k, v ≤ nv → k < vl v → va v k < nb) : bC D bcl (tys3 cI cZ cJ) y_S_sweep ({ frames := 7, cells := 1, slots := 6, locals := 104 }) (wS ad cI cZ mp lf n Pb gt gp gh Pv gd Pq cr rest) [.ref (ad 0)] (bI (fun x ws9 => cr = false ∧ ((n = 400 ∧ x = nI 0 ∧ ws9 = wS ad cI cZ mp lf n Pb gt gp gh Pv gd Pq cr rest) ∨ (n < 400 ∧ x = nI (cntU (fun b => mt b && !hlB md vl va nv b) nb) ∧ ∃ (lf1 gt1 gh1 : Nat → Int32), lg_R lf1 (n + 1) (fup lg n 5) ∧ mk_R 24 gt1 (swS mt (hlB md vl va nv) nb) ∧ mk_R 24 gh1 (hlB md vl va nv) ∧ ws9 = wS ad cI cZ mp lf1 (n + 1) Pb gt1 gp gh1 Pv gd Pq cr rest))) (fun E ws9 => cr = true ∧ E = "java/lang/IllegalStateException" ∧ ws9 = wS ad cI cZ mp lf n Pb gt gp gh Pv gd Pq cr rest)) := by
  have fl : n ≤ 400 := hRl.1
  have fb : nb < 25 := hRb.2.1
  have fv : nv < 13 := hRv.2.1
  refine bC.of (by decide) m_S_sweep.1 (Nat.le_of_ble_eq_true rfl) ?_
  intro Γ G E0
  show bV D bcl Γ 1 (wS ad cI cZ mp lf n Pb gt gp gh Pv gd Pq cr rest) 0 0 0 [(0, .ref (ad 0))] []
  refine bV.aload_n G d_S_sweep_0 rfl ?_
  refine bV.callVot G m_S_requireRunning bw_114 bw_s0 bw_112 (c_S_requireRunning ) 0 rfl rfl rfl rfl rfl ⟨by decide, by decide⟩ ⟨by decide, by decide⟩ (Nat.le_of_ble_eq_true rfl) d_S_sweep_1 (fun ws9 h9 => ?_) (fun E9 ws9 h9 => ?_)
  · obtain ⟨hg1, h9e⟩ := h9
    rw [h9e]
    refine bV.aload_n G d_S_sweep_4 rfl ?_
    refine bV.getf G cl_S 0 0 rfl (by decide) bw_73 rfl d_S_sweep_5 ?_
    refine bV.iconst (v := nI 1) G d_S_sweep_8 (by decide) ?_
    refine bV.callVi G m_L_hasRoom bw_241 bw_242 bw_240 (c_L_hasRoom wS_l hRl (y := 1) (by omega)) 1 rfl rfl rfl rfl rfl ⟨by decide, by decide⟩ ⟨by decide, by decide⟩ (Nat.le_of_ble_eq_true rfl) d_S_sweep_9 (fun x9 ws9 h9 => ?_)
    obtain ⟨rfl, h9e⟩ := h9
    rw [h9e]
    try dsimp only
    refine bV.if_neB (tgt := 17) G d_S_sweep_12 (by decide) (fun c12 => ?_) (fun c12 => ?_)
    · have h12 := of_decide_eq_true c12
      refine bV.aload_n G d_S_sweep_17 rfl ?_
      refine bV.getf G cl_S 0 0 rfl (by decide) bw_73 rfl d_S_sweep_18 ?_
      refine bV.iconst (v := nI 5) G d_S_sweep_21 (by decide) ?_
      refine bV.callVo G m_L_add bw_245 bw_246 bw_244 (cS_l_add (x := 5) hRl (by omega) (by omega)) 1 rfl rfl rfl rfl rfl ⟨by decide, by decide⟩ ⟨by decide, by decide⟩ (Nat.le_of_ble_eq_true rfl) d_S_sweep_22 (fun ws9 h9 => ?_)
      obtain ⟨lf1, hRl2, h9e⟩ := h9
      rw [h9e]
      refine bV.aload_n G d_S_sweep_25 rfl ?_
      refine bV.callVi G m_S_removeUnheldBlocks bw_348 bw_s10 bw_346 (c_S_removeUnheldBlocks hRb hRt hRv hRd hRh hvb) 0 rfl rfl rfl rfl rfl ⟨by decide, by decide⟩ ⟨by decide, by decide⟩ (Nat.le_of_ble_eq_true rfl) d_S_sweep_26 (fun x9 ws9 h9 => ?_)
      obtain ⟨rfl, gt1, gh1, hRt1, hRh1, h9e⟩ := h9
      rw [h9e]
      try dsimp only
      exact bV.iretI G E0 rfl rfl (by decide) (by decide) d_S_sweep_29 ⟨hg1, Or.inr ⟨by omega, rfl, lf1, gt1, gh1, hRl2, hRt1, hRh1, rfl⟩⟩
    · have h12 := of_decide_eq_false c12
      refine bV.iconst (v := nI 0) G d_S_sweep_15 (by decide) ?_
      exact bV.iretI G E0 rfl rfl (by decide) (by decide) d_S_sweep_16 ⟨hg1, Or.inl ⟨by omega, rfl, rfl⟩⟩
  · obtain ⟨hz, rfl, h9e⟩ := h9
    rw [h9e]
    exact bT.leaveI G E0 rfl (by decide) (by decide) ⟨hz, rfl, rfl⟩
theorem d_S_drop_0 : decode b_S_drop 0 = .ok (.aload_n 0, 1) := by decide +kernel
theorem d_S_drop_1 : decode b_S_drop 1 = .ok (.invokevirtual 62, 3) := by decide +kernel
theorem d_S_drop_4 : decode b_S_drop 4 = .ok (.aload_n 0, 1) := by decide +kernel
theorem d_S_drop_5 : decode b_S_drop 5 = .ok (.iload_n 1, 1) := by decide +kernel
theorem d_S_drop_6 : decode b_S_drop 6 = .ok (.invokevirtual 94, 3) := by decide +kernel
theorem d_S_drop_9 : decode b_S_drop 9 = .ok (.aload_n 0, 1) := by decide +kernel
theorem d_S_drop_10 : decode b_S_drop 10 = .ok (.getfield 43, 3) := by decide +kernel
theorem d_S_drop_13 : decode b_S_drop 13 = .ok (.iload_n 1, 1) := by decide +kernel
theorem d_S_drop_14 : decode b_S_drop 14 = .ok (.invokevirtual 141, 3) := by decide +kernel
theorem d_S_drop_17 : decode b_S_drop 17 = .ok (.ifCond .ne 14, 3) := by decide +kernel
theorem d_S_drop_20 : decode b_S_drop 20 = .ok (.aload_n 0, 1) := by decide +kernel
theorem d_S_drop_21 : decode b_S_drop 21 = .ok (.getfield 12, 3) := by decide +kernel
theorem d_S_drop_24 : decode b_S_drop 24 = .ok (.iconst 2, 1) := by decide +kernel
theorem d_S_drop_25 : decode b_S_drop 25 = .ok (.invokevirtual 86, 3) := by decide +kernel
theorem d_S_drop_28 : decode b_S_drop 28 = .ok (.ifCond .ne 5, 3) := by decide +kernel
theorem d_S_drop_31 : decode b_S_drop 31 = .ok (.iconst 0, 1) := by decide +kernel
theorem d_S_drop_32 : decode b_S_drop 32 = .ok (.ireturn, 1) := by decide +kernel
theorem d_S_drop_33 : decode b_S_drop 33 = .ok (.aload_n 0, 1) := by decide +kernel
theorem d_S_drop_34 : decode b_S_drop 34 = .ok (.getfield 12, 3) := by decide +kernel
theorem d_S_drop_37 : decode b_S_drop 37 = .ok (.iconst 4, 1) := by decide +kernel
theorem d_S_drop_38 : decode b_S_drop 38 = .ok (.invokevirtual 90, 3) := by decide +kernel
theorem d_S_drop_41 : decode b_S_drop 41 = .ok (.aload_n 0, 1) := by decide +kernel
theorem d_S_drop_42 : decode b_S_drop 42 = .ok (.getfield 12, 3) := by decide +kernel
theorem d_S_drop_45 : decode b_S_drop 45 = .ok (.iload_n 1, 1) := by decide +kernel
theorem d_S_drop_46 : decode b_S_drop 46 = .ok (.invokevirtual 90, 3) := by decide +kernel
theorem d_S_drop_49 : decode b_S_drop 49 = .ok (.aload_n 0, 1) := by decide +kernel
theorem d_S_drop_50 : decode b_S_drop 50 = .ok (.getfield 43, 3) := by decide +kernel
theorem d_S_drop_53 : decode b_S_drop 53 = .ok (.iload_n 1, 1) := by decide +kernel
theorem d_S_drop_54 : decode b_S_drop 54 = .ok (.invokevirtual 180, 3) := by decide +kernel
theorem d_S_drop_57 : decode b_S_drop 57 = .ok (.iconst 1, 1) := by decide +kernel
theorem d_S_drop_58 : decode b_S_drop 58 = .ok (.ireturn, 1) := by decide +kernel
set_option maxRecDepth 20000 in
set_option maxHeartbeats 4000000 in
theorem c_S_drop {D : va_G} {cI cZ cJ : ClassId} {ad : Nat → Nat} {mp : Nat} {lf : Nat → Int32} {n : Nat} {Pb : pc_C} {gt gp gh : Nat → Int32} {Pv : pc_C} {gd : Nat → Int32} {Pq : pc_C} {cr : Bool} {rest : va_W} {lg : Nat → Nat} {nv : Nat} {vl : Nat → Nat} {va : Nat → Nat → Nat} {md : Nat → Bool} (hRl : lg_R lf n lg) (hRv : pc_R 104 13 Pv (nv, vl, va)) (hRd : mk_R 12 gd md) {v : Int32} : bC D bcl (tys3 cI cZ cJ) y_S_drop ({ frames := 7, cells := 2, slots := 12, locals := 105 }) (wS ad cI cZ mp lf n Pb gt gp gh Pv gd Pq cr rest) [.ref (ad 0), .int (v)] (bI (fun x ws9 => cr = false ∧ (0 ≤ v ∧ v < nI nv) ∧ (((md v.toNatClampNeg = true ∨ 400 < n + 2) ∧ x = bB false ∧ ws9 = wS ad cI cZ mp lf n Pb gt gp gh Pv gd Pq cr rest) ∨ ((md v.toNatClampNeg = false ∧ n + 2 ≤ 400) ∧ x = bB true ∧ ∃ (lf1 gd1 : Nat → Int32), lg_R lf1 (n + 2) (rec2 lg n 4 v.toNatClampNeg) ∧ mk_R 12 gd1 (mk_up md v.toNatClampNeg true) ∧ ws9 = wS ad cI cZ mp lf1 (n + 2) Pb gt gp gh Pv gd1 Pq cr rest))) (fun E ws9 => (cr = true ∧ E = "java/lang/IllegalStateException" ∧ ws9 = wS ad cI cZ mp lf n Pb gt gp gh Pv gd Pq cr rest) ∨ (cr = false ∧ ¬ (0 ≤ v ∧ v < nI nv) ∧ E = "java/lang/IndexOutOfBoundsException" ∧ ws9 = wS ad cI cZ mp lf n Pb gt gp gh Pv gd Pq cr rest))) := by
  have fl : n ≤ 400 := hRl.1
  have fv : nv < 13 := hRv.2.1
  refine bC.of (by decide) m_S_drop.1 (Nat.le_of_ble_eq_true rfl) ?_
  intro Γ G E0
  show bV D bcl Γ 2 (wS ad cI cZ mp lf n Pb gt gp gh Pv gd Pq cr rest) 0 0 0 [(0, .ref (ad 0)), (1, .int (v))] []
  refine bV.aload_n G d_S_drop_0 rfl ?_
  refine bV.callVot G m_S_requireRunning bw_114 bw_s0 bw_112 (c_S_requireRunning ) 0 rfl rfl rfl rfl rfl ⟨by decide, by decide⟩ ⟨by decide, by decide⟩ (Nat.le_of_ble_eq_true rfl) d_S_drop_1 (fun ws9 h9 => ?_) (fun E9 ws9 h9 => ?_)
  · obtain ⟨hg1, h9e⟩ := h9
    rw [h9e]
    refine bV.aload_n G d_S_drop_4 rfl ?_
    refine bV.iload_n G d_S_drop_5 rfl ?_
    refine bV.callVot G m_S_requireVersion bw_286 bw_s6 bw_284 (c_S_requireVersion hRv (v := v)) 0 rfl rfl rfl rfl rfl ⟨by decide, by decide⟩ ⟨by decide, by decide⟩ (Nat.le_of_ble_eq_true rfl) d_S_drop_6 (fun ws9 h9 => ?_) (fun E9 ws9 h9 => ?_)
    · obtain ⟨hg6, h9e⟩ := h9
      rw [h9e]
      have hg6b := hg6
      obtain ⟨j, hj, rfl⟩ := nI_btw hg6 (by omega)
      refine bV.aload_n G d_S_drop_9 rfl ?_
      refine bV.getf G cl_S 0 6 rfl (by decide) bw_79 rfl d_S_drop_10 ?_
      refine bV.iload_n G d_S_drop_13 rfl ?_
      refine bV.callVi G m_K_isOn bw_212 bw_213 bw_211 (c_K_isOn wS_d hRd (j := j) (by omega)) 15 rfl rfl rfl rfl rfl ⟨by decide, by decide⟩ ⟨by decide, by decide⟩ (Nat.le_of_ble_eq_true rfl) d_S_drop_14 (fun x9 ws9 h9 => ?_)
      obtain ⟨rfl, h9e⟩ := h9
      rw [h9e]
      try dsimp only
      rw [decide_eq_true (show j < 12 by omega), Bool.true_and]
      refine bV.if_neB (tgt := 31) G d_S_drop_17 (by decide) (fun c17 => ?_) (fun c17 => ?_)
      · refine bV.iconst (v := nI 0) G d_S_drop_31 (by decide) ?_
        refine bV.topi (x := nI 0) (y := bB false) (by decide) ?_
        exact bV.iretI G E0 rfl (bB_n _) (by decide) (by decide) d_S_drop_32 ⟨hg1, hg6b, by rw [nI_clamp (by omega)]; exact Or.inl ⟨by first | exact Or.inl c17 | exact Or.inr (by omega), rfl, rfl⟩⟩
      · refine bV.aload_n G d_S_drop_20 rfl ?_
        refine bV.getf G cl_S 0 0 rfl (by decide) bw_73 rfl d_S_drop_21 ?_
        refine bV.iconst (v := nI 2) G d_S_drop_24 (by decide) ?_
        refine bV.callVi G m_L_hasRoom bw_241 bw_242 bw_240 (c_L_hasRoom wS_l hRl (y := 2) (by omega)) 1 rfl rfl rfl rfl rfl ⟨by decide, by decide⟩ ⟨by decide, by decide⟩ (Nat.le_of_ble_eq_true rfl) d_S_drop_25 (fun x9 ws9 h9 => ?_)
        obtain ⟨rfl, h9e⟩ := h9
        rw [h9e]
        try dsimp only
        refine bV.if_neB (tgt := 33) G d_S_drop_28 (by decide) (fun c28 => ?_) (fun c28 => ?_)
        · have h28 := of_decide_eq_true c28
          refine bV.aload_n G d_S_drop_33 rfl ?_
          refine bV.getf G cl_S 0 0 rfl (by decide) bw_73 rfl d_S_drop_34 ?_
          refine bV.iconst (v := nI 4) G d_S_drop_37 (by decide) ?_
          refine bV.callVo G m_L_add bw_245 bw_246 bw_244 (cS_l_add (x := 4) hRl (by omega) (by omega)) 1 rfl rfl rfl rfl rfl ⟨by decide, by decide⟩ ⟨by decide, by decide⟩ (Nat.le_of_ble_eq_true rfl) d_S_drop_38 (fun ws9 h9 => ?_)
          obtain ⟨lf1, hRl2, h9e⟩ := h9
          rw [h9e]
          refine bV.aload_n G d_S_drop_41 rfl ?_
          refine bV.getf G cl_S 0 0 rfl (by decide) bw_73 rfl d_S_drop_42 ?_
          refine bV.iload_n G d_S_drop_45 rfl ?_
          refine bV.callVo G m_L_add bw_245 bw_246 bw_244 (cS_l_add (x := j) hRl2 (by omega) (by omega)) 1 rfl rfl rfl rfl rfl ⟨by decide, by decide⟩ ⟨by decide, by decide⟩ (Nat.le_of_ble_eq_true rfl) d_S_drop_46 (fun ws9 h9 => ?_)
          obtain ⟨lf3, hRl4, h9e⟩ := h9
          rw [h9e]
          refine bV.aload_n G d_S_drop_49 rfl ?_
          refine bV.getf G cl_S 0 6 rfl (by decide) bw_79 rfl d_S_drop_50 ?_
          refine bV.iload_n G d_S_drop_53 rfl ?_
          refine bV.callVo G m_K_turnOn bw_258 bw_259 bw_257 (cS_d_turnOn (j := j) hRd (by omega)) 15 rfl rfl rfl rfl rfl ⟨by decide, by decide⟩ ⟨by decide, by decide⟩ (Nat.le_of_ble_eq_true rfl) d_S_drop_54 (fun ws9 h9 => ?_)
          obtain ⟨gd5, hRd6, h9e⟩ := h9
          rw [h9e]
          refine bV.iconst (v := nI 1) G d_S_drop_57 (by decide) ?_
          refine bV.topi (x := nI 1) (y := bB true) (by decide) ?_
          exact bV.iretI G E0 rfl (bB_n _) (by decide) (by decide) d_S_drop_58 ⟨hg1, hg6b, by rw [nI_clamp (by omega)]; exact Or.inr ⟨⟨c17, by omega⟩, rfl, lf3, gd5, hRl4, hRd6, rfl⟩⟩
        · have h28 := of_decide_eq_false c28
          refine bV.iconst (v := nI 0) G d_S_drop_31 (by decide) ?_
          refine bV.topi (x := nI 0) (y := bB false) (by decide) ?_
          exact bV.iretI G E0 rfl (bB_n _) (by decide) (by decide) d_S_drop_32 ⟨hg1, hg6b, by rw [nI_clamp (by omega)]; exact Or.inl ⟨by first | exact Or.inl c17 | exact Or.inr (by omega), rfl, rfl⟩⟩
    · obtain ⟨hz, rfl, h9e⟩ := h9
      rw [h9e]
      exact bT.leaveI G E0 rfl (by decide) (by decide) (Or.inr ⟨hg1, hz, rfl, rfl⟩)
  · obtain ⟨hz, rfl, h9e⟩ := h9
    rw [h9e]
    exact bT.leaveI G E0 rfl (by decide) (by decide) (Or.inl ⟨hz, rfl, rfl⟩)
theorem d_S_poke_0 : decode b_S_poke 0 = .ok (.aload_n 0, 1) := by decide +kernel
theorem d_S_poke_1 : decode b_S_poke 1 = .ok (.invokevirtual 62, 3) := by decide +kernel
theorem d_S_poke_4 : decode b_S_poke 4 = .ok (.aload_n 0, 1) := by decide +kernel
theorem d_S_poke_5 : decode b_S_poke 5 = .ok (.iload_n 1, 1) := by decide +kernel
theorem d_S_poke_6 : decode b_S_poke 6 = .ok (.iload_n 2, 1) := by decide +kernel
theorem d_S_poke_7 : decode b_S_poke 7 = .ok (.invokevirtual 164, 3) := by decide +kernel
theorem d_S_poke_10 : decode b_S_poke 10 = .ok (.aload_n 0, 1) := by decide +kernel
theorem d_S_poke_11 : decode b_S_poke 11 = .ok (.getfield 55, 3) := by decide +kernel
theorem d_S_poke_14 : decode b_S_poke 14 = .ok (.iload_n 1, 1) := by decide +kernel
theorem d_S_poke_15 : decode b_S_poke 15 = .ok (.iload_n 2, 1) := by decide +kernel
theorem d_S_poke_16 : decode b_S_poke 16 = .ok (.invokevirtual 107, 3) := by decide +kernel
theorem d_S_poke_19 : decode b_S_poke 19 = .ok (.istore 4, 2) := by decide +kernel
theorem d_S_poke_21 : decode b_S_poke 21 = .ok (.iload 4, 2) := by decide +kernel
theorem d_S_poke_23 : decode b_S_poke 23 = .ok (.iload_n 3, 1) := by decide +kernel
theorem d_S_poke_24 : decode b_S_poke 24 = .ok (.sipush 255, 3) := by decide +kernel
theorem d_S_poke_27 : decode b_S_poke 27 = .ok (.iand, 1) := by decide +kernel
theorem d_S_poke_28 : decode b_S_poke 28 = .ok (.ixor, 1) := by decide +kernel
theorem d_S_poke_29 : decode b_S_poke 29 = .ok (.istore 5, 2) := by decide +kernel
theorem d_S_poke_31 : decode b_S_poke 31 = .ok (.aload_n 0, 1) := by decide +kernel
theorem d_S_poke_32 : decode b_S_poke 32 = .ok (.getfield 55, 3) := by decide +kernel
theorem d_S_poke_35 : decode b_S_poke 35 = .ok (.iload_n 1, 1) := by decide +kernel
theorem d_S_poke_36 : decode b_S_poke 36 = .ok (.iload_n 2, 1) := by decide +kernel
theorem d_S_poke_37 : decode b_S_poke 37 = .ok (.iload 5, 2) := by decide +kernel
theorem d_S_poke_39 : decode b_S_poke 39 = .ok (.invokevirtual 167, 3) := by decide +kernel
theorem d_S_poke_42 : decode b_S_poke 42 = .ok (.iload 5, 2) := by decide +kernel
theorem d_S_poke_44 : decode b_S_poke 44 = .ok (.iload 4, 2) := by decide +kernel
theorem d_S_poke_46 : decode b_S_poke 46 = .ok (.if_icmp .eq 7, 3) := by decide +kernel
theorem d_S_poke_49 : decode b_S_poke 49 = .ok (.iconst 1, 1) := by decide +kernel
theorem d_S_poke_50 : decode b_S_poke 50 = .ok (.goto 4, 3) := by decide +kernel
theorem d_S_poke_53 : decode b_S_poke 53 = .ok (.iconst 0, 1) := by decide +kernel
theorem d_S_poke_54 : decode b_S_poke 54 = .ok (.ireturn, 1) := by decide +kernel
set_option maxRecDepth 20000 in
set_option maxHeartbeats 4000000 in
theorem c_S_poke {D : va_G} {cI cZ cJ : ClassId} {ad : Nat → Nat} {mp : Nat} {lf : Nat → Int32} {n : Nat} {Pb : pc_C} {gt gp gh : Nat → Int32} {Pv : pc_C} {gd : Nat → Int32} {Pq : pc_C} {cr : Bool} {rest : va_W} {np : Nat} {ql : Nat → Nat} {qa : Nat → Nat → Nat} (hRq : pc_R 664 (mp + 1) Pq (np, ql, qa)) {v u mm : Int32} (hm : mp ≤ 8) (hq256 : ∀ p i, p < np → i < ql p → qa p i < 256) : bC D bcl (tys3 cI cZ cJ) y_S_poke ({ frames := 7, cells := 2, slots := 12, locals := 106 }) (wS ad cI cZ mp lf n Pb gt gp gh Pv gd Pq cr rest) [.ref (ad 0), .int (v), .int (u), .int (mm)] (bI (fun x ws9 => cr = false ∧ ((0 ≤ v ∧ v < nI np) ∧ 0 ≤ u ∧ u < nI (ql v.toNatClampNeg)) ∧ x = bB (decide (mkN mm ≠ 0)) ∧ ∃ Pq1 : pc_C, pc_R 664 (mp + 1) Pq1 (np, ql, fup2 qa v.toNatClampNeg u.toNatClampNeg (pkX (qa v.toNatClampNeg u.toNatClampNeg) mm)) ∧ ws9 = wS ad cI cZ mp lf n Pb gt gp gh Pv gd Pq1 cr rest) (fun E ws9 => (cr = true ∧ E = "java/lang/IllegalStateException" ∧ ws9 = wS ad cI cZ mp lf n Pb gt gp gh Pv gd Pq cr rest) ∨ (cr = false ∧ ¬ ((0 ≤ v ∧ v < nI np) ∧ 0 ≤ u ∧ u < nI (ql v.toNatClampNeg)) ∧ E = "java/lang/IndexOutOfBoundsException" ∧ ws9 = wS ad cI cZ mp lf n Pb gt gp gh Pv gd Pq cr rest))) := by
  have fq : np < mp + 1 := hRq.2.1
  refine bC.of (by decide) m_S_poke.1 (Nat.le_of_ble_eq_true rfl) ?_
  intro Γ G E0
  show bV D bcl Γ 6 (wS ad cI cZ mp lf n Pb gt gp gh Pv gd Pq cr rest) 0 0 0 [(0, .ref (ad 0)), (1, .int (v)), (2, .int (u)), (3, .int (mm))] []
  refine bV.aload_n G d_S_poke_0 rfl ?_
  refine bV.callVot G m_S_requireRunning bw_114 bw_s0 bw_112 (c_S_requireRunning ) 0 rfl rfl rfl rfl rfl ⟨by decide, by decide⟩ ⟨by decide, by decide⟩ (Nat.le_of_ble_eq_true rfl) d_S_poke_1 (fun ws9 h9 => ?_) (fun E9 ws9 h9 => ?_)
  · obtain ⟨hg1, h9e⟩ := h9
    rw [h9e]
    refine bV.aload_n G d_S_poke_4 rfl ?_
    refine bV.iload_n G d_S_poke_5 rfl ?_
    refine bV.iload_n G d_S_poke_6 rfl ?_
    refine bV.callVot G m_S_requireByteOfPack bw_488 bw_s23 bw_486 (c_S_requireByteOfPack hRq (v := v) (u := u) hm) 0 rfl rfl rfl rfl rfl ⟨by decide, by decide⟩ ⟨by decide, by decide⟩ (Nat.le_of_ble_eq_true rfl) d_S_poke_7 (fun ws9 h9 => ?_) (fun E9 ws9 h9 => ?_)
    · obtain ⟨hg7, h9e⟩ := h9
      rw [h9e]
      have hg7b := hg7
      obtain ⟨j, hj, rfl⟩ := nI_btw hg7.1 (by omega)
      have hl9 : ql j ≤ 664 := pc_R_len (A := (np, ql, qa)) hRq (Nat.le_of_lt hj)
      have hg8 : 0 ≤ u ∧ u < nI (ql j) := ⟨hg7.2.1, by have z3 := hg7.2.2; rw [nI_clamp (by omega)] at z3; exact z3⟩
      obtain ⟨i, hi, rfl⟩ := nI_btw hg8 (by omega)
      have hq8 := hq256 j i hj hi
      have hq9 := pkX_lt hq8 mm
      refine bV.aload_n G d_S_poke_10 rfl ?_
      refine bV.getf G cl_S 0 7 rfl (by decide) bw_80 rfl d_S_poke_11 ?_
      refine bV.iload_n G d_S_poke_14 rfl ?_
      refine bV.iload_n G d_S_poke_15 rfl ?_
      refine bV.callVi G m_P_at bw_221 bw_222 bw_322 (c_P_at wS_q hRq (j := j) (i := i) (by first | omega | exact Nat.le_refl _) (by omega)) 17 rfl rfl rfl rfl rfl ⟨by decide, by decide⟩ ⟨by decide, by decide⟩ (Nat.le_of_ble_eq_true rfl) d_S_poke_16 (fun x9 ws9 h9 => ?_)
      obtain ⟨rfl, h9e⟩ := h9
      rw [h9e]
      try dsimp only
      rw [if_pos (by show i < ql j; omega)]
      refine bV.istore G (lv' := [(0, .ref (ad 0)), (1, .int (nI (j))), (2, .int (nI (i))), (3, .int (mm)), (4, .int (nI (qa j i)))]) d_S_poke_19 (by decide) rfl rfl ?_
      refine bV.iload G d_S_poke_21 rfl ?_
      refine bV.iload_n G d_S_poke_23 rfl ?_
      refine bV.sipush (v := nI 255) G d_S_poke_24 (by decide) ?_
      refine bV.iand G d_S_poke_27 ?_
      refine bV.ixor G d_S_poke_28 ?_
      refine bV.topi (y := (nI (pkX (qa j i) mm))) (pkX_e _ _) ?_
      refine bV.istore G (lv' := [(0, .ref (ad 0)), (1, .int (nI (j))), (2, .int (nI (i))), (3, .int (mm)), (4, .int (nI (qa j i))), (5, .int (nI (pkX (qa j i) mm)))]) d_S_poke_29 (by decide) rfl rfl ?_
      refine bV.aload_n G d_S_poke_31 rfl ?_
      refine bV.getf G cl_S 0 7 rfl (by decide) bw_80 rfl d_S_poke_32 ?_
      refine bV.iload_n G d_S_poke_35 rfl ?_
      refine bV.iload_n G d_S_poke_36 rfl ?_
      refine bV.iload G d_S_poke_37 rfl ?_
      refine bV.callVo G m_P_put bw_492 bw_493 bw_491 (cS_q_put (j := j) (i := i) (x := pkX (qa j i) mm) hRq (by show j ≤ np; omega) (by show i < ql j; omega) (by omega)) 17 rfl rfl rfl rfl rfl ⟨by decide, by decide⟩ ⟨by decide, by decide⟩ (Nat.le_of_ble_eq_true rfl) d_S_poke_39 (fun ws9 h9 => ?_)
      obtain ⟨Pq1, hRq2, h9e⟩ := h9
      rw [h9e]
      try dsimp only at hRq2
      refine bV.iload G d_S_poke_42 rfl ?_
      refine bV.iload G d_S_poke_44 rfl ?_
      refine bV.icmp_eqN (tgt := 53) G d_S_poke_46 (by decide) (by omega) (by omega) (fun c46 => ?_) (fun c46 => ?_)
      · refine bV.iconst (v := nI 0) G d_S_poke_53 (by decide) ?_
        refine bV.topi (x := nI 0) (y := bB false) (by decide) ?_
        exact bV.iretI G E0 rfl (bB_n _) (by decide) (by decide) d_S_poke_54 ⟨hg1, hg7b, by rw [decide_eq_false (p := mkN mm ≠ 0) (fun z => z ((pkX_eq _ _).mp c46))], Pq1, by rw [nI_clamp (by omega), nI_clamp (by omega)]; exact hRq2, rfl⟩
      · refine bV.iconst (v := nI 1) G d_S_poke_49 (by decide) ?_
        refine bV.goto (tgt := 54) G d_S_poke_50 (by decide) ?_
        refine bV.topi (x := nI 1) (y := bB true) (by decide) ?_
        exact bV.iretI G E0 rfl (bB_n _) (by decide) (by decide) d_S_poke_54 ⟨hg1, hg7b, by rw [decide_eq_true (p := mkN mm ≠ 0) (fun z => c46 ((pkX_eq _ _).mpr z))], Pq1, by rw [nI_clamp (by omega), nI_clamp (by omega)]; exact hRq2, rfl⟩
    · obtain ⟨hz, rfl, h9e⟩ := h9
      rw [h9e]
      exact bT.leaveI G E0 rfl (by decide) (by decide) (Or.inr ⟨hg1, hz, rfl, rfl⟩)
  · obtain ⟨hz, rfl, h9e⟩ := h9
    rw [h9e]
    exact bT.leaveI G E0 rfl (by decide) (by decide) (Or.inl ⟨hz, rfl, rfl⟩)
theorem d_S_crash_0 : decode b_S_crash 0 = .ok (.aload_n 0, 1) := by decide +kernel
theorem d_S_crash_1 : decode b_S_crash 1 = .ok (.invokevirtual 62, 3) := by decide +kernel
theorem d_S_crash_4 : decode b_S_crash 4 = .ok (.aload_n 0, 1) := by decide +kernel
theorem d_S_crash_5 : decode b_S_crash 5 = .ok (.iload_n 1, 1) := by decide +kernel
theorem d_S_crash_6 : decode b_S_crash 6 = .ok (.invokevirtual 144, 3) := by decide +kernel
theorem d_S_crash_9 : decode b_S_crash 9 = .ok (.aload_n 0, 1) := by decide +kernel
theorem d_S_crash_10 : decode b_S_crash 10 = .ok (.getfield 12, 3) := by decide +kernel
theorem d_S_crash_13 : decode b_S_crash 13 = .ok (.invokevirtual 147, 3) := by decide +kernel
theorem d_S_crash_16 : decode b_S_crash 16 = .ok (.iload_n 1, 1) := by decide +kernel
theorem d_S_crash_17 : decode b_S_crash 17 = .ok (.if_icmp .le 7, 3) := by decide +kernel
theorem d_S_crash_20 : decode b_S_crash 20 = .ok (.iconst 1, 1) := by decide +kernel
theorem d_S_crash_21 : decode b_S_crash 21 = .ok (.goto 4, 3) := by decide +kernel
theorem d_S_crash_24 : decode b_S_crash 24 = .ok (.iconst 0, 1) := by decide +kernel
theorem d_S_crash_25 : decode b_S_crash 25 = .ok (.istore_n 2, 1) := by decide +kernel
theorem d_S_crash_26 : decode b_S_crash 26 = .ok (.aload_n 0, 1) := by decide +kernel
theorem d_S_crash_27 : decode b_S_crash 27 = .ok (.getfield 12, 3) := by decide +kernel
theorem d_S_crash_30 : decode b_S_crash 30 = .ok (.iload_n 1, 1) := by decide +kernel
theorem d_S_crash_31 : decode b_S_crash 31 = .ok (.invokevirtual 149, 3) := by decide +kernel
theorem d_S_crash_34 : decode b_S_crash 34 = .ok (.aload_n 0, 1) := by decide +kernel
theorem d_S_crash_35 : decode b_S_crash 35 = .ok (.invokevirtual 152, 3) := by decide +kernel
theorem d_S_crash_38 : decode b_S_crash 38 = .ok (.aload_n 0, 1) := by decide +kernel
theorem d_S_crash_39 : decode b_S_crash 39 = .ok (.iconst 1, 1) := by decide +kernel
theorem d_S_crash_40 : decode b_S_crash 40 = .ok (.putfield 58, 3) := by decide +kernel
theorem d_S_crash_43 : decode b_S_crash 43 = .ok (.iload_n 2, 1) := by decide +kernel
theorem d_S_crash_44 : decode b_S_crash 44 = .ok (.ireturn, 1) := by decide +kernel
set_option maxRecDepth 20000 in
set_option maxHeartbeats 4000000 in
theorem c_S_crash {D : va_G} {cI cZ cJ : ClassId} {ad : Nat → Nat} {mp : Nat} {lf : Nat → Int32} {n : Nat} {Pb : pc_C} {gt gp gh : Nat → Int32} {Pv : pc_C} {gd : Nat → Int32} {Pq : pc_C} {cr : Bool} {rest : va_W} {lg : Nat → Nat} {nb : Nat} {bl : Nat → Nat} {ba : Nat → Nat → Nat} {mt : Nat → Bool} {mk : Nat → Bool} {nv : Nat} {vl : Nat → Nat} {va : Nat → Nat → Nat} {md : Nat → Bool} {np : Nat} {ql : Nat → Nat} {qa : Nat → Nat → Nat} (hRl : lg_R lf n lg) (hRb : pc_R 600 25 Pb (nb, bl, ba)) (hRt : mk_R 24 gt mt) (hRp : mk_R 24 gp mk) (hRv : pc_R 104 13 Pv (nv, vl, va)) (hRd : mk_R 12 gd md) (hRq : pc_R 664 (mp + 1) Pq (np, ql, qa)) {v : Int32} : bC D bcl (tys3 cI cZ cJ) y_S_crash ({ frames := 7, cells := 2, slots := 12, locals := 105 }) (wS ad cI cZ mp lf n Pb gt gp gh Pv gd Pq cr rest) [.ref (ad 0), .int (v)] (bI (fun x ws9 => cr = false ∧ (0 ≤ v ∧ v ≤ nI n) ∧ x = bB (decide (v.toNatClampNeg < n)) ∧ lg_R lf v.toNatClampNeg lg ∧ ∃ (Pb1 : pc_C) (gt1 gp1 : Nat → Int32) (Pv1 : pc_C) (gd1 : Nat → Int32) (Pq1 : pc_C), pc_R 600 25 Pb1 (0, (fun _ => 0), ba) ∧ mk_R 24 gt1 (fun _ => false) ∧ mk_R 24 gp1 (fun _ => false) ∧ pc_R 104 13 Pv1 (0, (fun _ => 0), va) ∧ mk_R 12 gd1 (fun _ => false) ∧ pc_R 664 (mp + 1) Pq1 (0, (fun _ => 0), qa) ∧ ws9 = wS ad cI cZ mp lf v.toNatClampNeg Pb1 gt1 gp1 gh Pv1 gd1 Pq1 true rest) (fun E ws9 => (cr = true ∧ E = "java/lang/IllegalStateException" ∧ ws9 = wS ad cI cZ mp lf n Pb gt gp gh Pv gd Pq cr rest) ∨ (cr = false ∧ ¬ (0 ≤ v ∧ v ≤ nI n) ∧ E = "java/lang/IllegalArgumentException" ∧ ws9 = wS ad cI cZ mp lf n Pb gt gp gh Pv gd Pq cr rest))) := by
  have fl : n ≤ 400 := hRl.1
  have fb : nb < 25 := hRb.2.1
  have fv : nv < 13 := hRv.2.1
  have fq : np < mp + 1 := hRq.2.1
  refine bC.of (by decide) m_S_crash.1 (Nat.le_of_ble_eq_true rfl) ?_
  intro Γ G E0
  show bV D bcl Γ 3 (wS ad cI cZ mp lf n Pb gt gp gh Pv gd Pq cr rest) 0 0 0 [(0, .ref (ad 0)), (1, .int (v))] []
  refine bV.aload_n G d_S_crash_0 rfl ?_
  refine bV.callVot G m_S_requireRunning bw_114 bw_s0 bw_112 (c_S_requireRunning ) 0 rfl rfl rfl rfl rfl ⟨by decide, by decide⟩ ⟨by decide, by decide⟩ (Nat.le_of_ble_eq_true rfl) d_S_crash_1 (fun ws9 h9 => ?_) (fun E9 ws9 h9 => ?_)
  · obtain ⟨hg1, h9e⟩ := h9
    rw [h9e]
    refine bV.aload_n G d_S_crash_4 rfl ?_
    refine bV.iload_n G d_S_crash_5 rfl ?_
    refine bV.callVot G m_S_requireKeepable bw_411 bw_s17 bw_409 (c_S_requireKeepable hRl (v := v)) 0 rfl rfl rfl rfl rfl ⟨by decide, by decide⟩ ⟨by decide, by decide⟩ (Nat.le_of_ble_eq_true rfl) d_S_crash_6 (fun ws9 h9 => ?_) (fun E9 ws9 h9 => ?_)
    · obtain ⟨hg6, h9e⟩ := h9
      rw [h9e]
      have hg6b := hg6
      obtain ⟨j, hj, rfl⟩ := kp_btw hg6 (by omega)
      refine bV.aload_n G d_S_crash_9 rfl ?_
      refine bV.getf G cl_S 0 0 rfl (by decide) bw_73 rfl d_S_crash_10 ?_
      refine bV.callVi G m_L_length bw_414 bw_415 bw_413 (c_L_length wS_l hRl) 1 rfl rfl rfl rfl rfl ⟨by decide, by decide⟩ ⟨by decide, by decide⟩ (Nat.le_of_ble_eq_true rfl) d_S_crash_13 (fun x9 ws9 h9 => ?_)
      obtain ⟨rfl, h9e⟩ := h9
      rw [h9e]
      try dsimp only
      refine bV.iload_n G d_S_crash_16 rfl ?_
      refine bV.icmp_leN (tgt := 24) G d_S_crash_17 (by decide) (by omega) (by omega) (fun c17 => ?_) (fun c17 => ?_)
      · refine bV.iconst (v := nI 0) G d_S_crash_24 (by decide) ?_
        refine bV.istore_n G (lv' := [(0, .ref (ad 0)), (1, .int (nI (j))), (2, .int (nI (0)))]) d_S_crash_25 (by decide) rfl rfl ?_
        refine bV.aload_n G d_S_crash_26 rfl ?_
        refine bV.getf G cl_S 0 0 rfl (by decide) bw_73 rfl d_S_crash_27 ?_
        refine bV.iload_n G d_S_crash_30 rfl ?_
        refine bV.callVo G m_L_cutTo bw_434 bw_435 bw_433 (cS_l_cutTo (i := j) hRl (by omega)) 1 rfl rfl rfl rfl rfl ⟨by decide, by decide⟩ ⟨by decide, by decide⟩ (Nat.le_of_ble_eq_true rfl) d_S_crash_31 (fun ws9 h9 => ?_)
        rw [h9]
        have hRl1 := lg_R_cut hRl (k := j) (by omega)
        refine bV.aload_n G d_S_crash_34 rfl ?_
        refine bV.callVo G m_S_forgetAllButLog bw_439 bw_s18 bw_437 (c_S_forgetAllButLog hRb hRt hRp hRv hRd hRq ) 0 rfl rfl rfl rfl rfl ⟨by decide, by decide⟩ ⟨by decide, by decide⟩ (Nat.le_of_ble_eq_true rfl) d_S_crash_35 (fun ws9 h9 => ?_)
        obtain ⟨Pb1, gt1, gp1, Pv1, gd1, Pq1, hRb1, hRt1, hRp1, hRv1, hRd1, hRq1, h9e⟩ := h9
        rw [h9e]
        refine bV.aload_n G d_S_crash_38 rfl ?_
        refine bV.iconst (v := nI 1) G d_S_crash_39 (by decide) ?_
        refine bV.topi (x := nI 1) (y := bB true) (by decide) ?_
        refine bV.putf G (ws' := (wS ad cI cZ mp lf j Pb1 gt1 gp1 gh Pv1 gd1 Pq1 true rest)) cl_S 0 8 rfl (by decide) bw_81 rfl (bB_n _) (bB_f _) (Nat.le_of_ble_eq_true rfl) d_S_crash_40 rfl ?_
        refine bV.iload_n G d_S_crash_43 rfl ?_
        refine bV.topi (x := nI 0) (y := bB false) (by decide) ?_
        exact bV.iretI G E0 rfl (bB_n _) (by decide) (by decide) d_S_crash_44 ⟨hg1, hg6b, by rw [nI_clamp (by omega)]; first | rw [decide_eq_true (show j < n by omega)] | rw [decide_eq_false (show ¬ j < n by omega)], by rw [nI_clamp (by omega)]; exact hRl1, Pb1, gt1, gp1, Pv1, gd1, Pq1, hRb1, hRt1, hRp1, hRv1, hRd1, hRq1, by rw [nI_clamp (by omega)]⟩
      · refine bV.iconst (v := nI 1) G d_S_crash_20 (by decide) ?_
        refine bV.goto (tgt := 25) G d_S_crash_21 (by decide) ?_
        refine bV.istore_n G (lv' := [(0, .ref (ad 0)), (1, .int (nI (j))), (2, .int (nI (1)))]) d_S_crash_25 (by decide) rfl rfl ?_
        refine bV.aload_n G d_S_crash_26 rfl ?_
        refine bV.getf G cl_S 0 0 rfl (by decide) bw_73 rfl d_S_crash_27 ?_
        refine bV.iload_n G d_S_crash_30 rfl ?_
        refine bV.callVo G m_L_cutTo bw_434 bw_435 bw_433 (cS_l_cutTo (i := j) hRl (by omega)) 1 rfl rfl rfl rfl rfl ⟨by decide, by decide⟩ ⟨by decide, by decide⟩ (Nat.le_of_ble_eq_true rfl) d_S_crash_31 (fun ws9 h9 => ?_)
        rw [h9]
        have hRl2 := lg_R_cut hRl (k := j) (by omega)
        refine bV.aload_n G d_S_crash_34 rfl ?_
        refine bV.callVo G m_S_forgetAllButLog bw_439 bw_s18 bw_437 (c_S_forgetAllButLog hRb hRt hRp hRv hRd hRq ) 0 rfl rfl rfl rfl rfl ⟨by decide, by decide⟩ ⟨by decide, by decide⟩ (Nat.le_of_ble_eq_true rfl) d_S_crash_35 (fun ws9 h9 => ?_)
        obtain ⟨Pb1, gt1, gp1, Pv1, gd1, Pq1, hRb1, hRt1, hRp1, hRv1, hRd1, hRq1, h9e⟩ := h9
        rw [h9e]
        refine bV.aload_n G d_S_crash_38 rfl ?_
        refine bV.iconst (v := nI 1) G d_S_crash_39 (by decide) ?_
        refine bV.topi (x := nI 1) (y := bB true) (by decide) ?_
        refine bV.putf G (ws' := (wS ad cI cZ mp lf j Pb1 gt1 gp1 gh Pv1 gd1 Pq1 true rest)) cl_S 0 8 rfl (by decide) bw_81 rfl (bB_n _) (bB_f _) (Nat.le_of_ble_eq_true rfl) d_S_crash_40 rfl ?_
        refine bV.iload_n G d_S_crash_43 rfl ?_
        refine bV.topi (x := nI 1) (y := bB true) (by decide) ?_
        exact bV.iretI G E0 rfl (bB_n _) (by decide) (by decide) d_S_crash_44 ⟨hg1, hg6b, by rw [nI_clamp (by omega)]; first | rw [decide_eq_true (show j < n by omega)] | rw [decide_eq_false (show ¬ j < n by omega)], by rw [nI_clamp (by omega)]; exact hRl2, Pb1, gt1, gp1, Pv1, gd1, Pq1, hRb1, hRt1, hRp1, hRv1, hRd1, hRq1, by rw [nI_clamp (by omega)]⟩
    · obtain ⟨hz, rfl, h9e⟩ := h9
      rw [h9e]
      exact bT.leaveI G E0 rfl (by decide) (by decide) (Or.inr ⟨hg1, hz, rfl, rfl⟩)
  · obtain ⟨hz, rfl, h9e⟩ := h9
    rw [h9e]
    exact bT.leaveI G E0 rfl (by decide) (by decide) (Or.inl ⟨hz, rfl, rfl⟩)
