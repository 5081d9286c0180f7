/-! ===== the reference: its world, its own walk over the log ===== -/
def wM (am : Nat → Nat) (cI cZ : ClassId) (mp th : Nat) (cr : Bool) (fd : Nat) (fo : Nat → Int32) (n : Nat) (lo : Nat → Int32) (np : Nat) (ps pb ip : Nat → Int32) (nb : Nat) (fr ln tr : Nat → Int32) (nv : Nat) (ct rw dr : Nat → Int32) (en sw : Nat) (rest : va_W) : va_W :=
  (am 0, .inr (4, [.int (nI th), .int (nI mp), .int (bB cr), .int (nI fd), .ref (am 1), .int (nI n), .ref (am 2), .int (nI np), .ref (am 3), .ref (am 4), .ref (am 5), .int (nI nb), .ref (am 6), .ref (am 7), .ref (am 8), .int (nI nv), .ref (am 9), .ref (am 10), .ref (am 11), .int (nI en), .int (nI sw)])) ::
  (am 1, .inl (cI, 24, .inl fo)) :: (am 2, .inl (cI, 400, .inl lo)) :: (am 3, .inl (cI, 8, .inl ps)) :: (am 4, .inl (cI, 5600, .inl pb)) :: (am 5, .inl (cZ, 24, .inl ip)) :: (am 6, .inl (cI, 24, .inl fr)) :: (am 7, .inl (cI, 24, .inl ln)) :: (am 8, .inl (cZ, 24, .inl tr)) :: (am 9, .inl (cI, 13, .inl ct)) :: (am 10, .inl (cI, 104, .inl rw)) :: (am 11, .inl (cZ, 13, .inl dr)) :: rest
abbrev lvS (S : aS) (v : Nat) : Nat := lenV (sDr S) (sCt S) v
def ctR (S : aS) (ct : Nat → Int32) : Prop := ∀ v, v ≤ sNv S → ct v = nI (lvS S v)
def rwR (S : aS) (rw : Nat → Int32) : Prop := ∀ v k, v ≤ sNv S → k < lvS S v → rw (8 * v + k) = nI (sRw S v k)
def dvR (S : aS) (fr ln tr ct rw dr : Nat → Int32) : Prop := (∀ b, b < sNb S → fr b = nI (sFr S b)) ∧ (∀ b, b < sNb S → ln b = nI (sLn S b)) ∧ (∀ b, b < sNb S → tr b = bB (sTh S b)) ∧ ctR S ct ∧ rwR S rw ∧ (∀ v, v ≤ sNv S → dr v = bB (sDr S v))
theorem lvS_8 {a : Nat} {S : aS} (h : okS a S) {v : Nat} (hv : v ≤ sNv S) : lvS S v ≤ 8 := Nat.le_trans (lenV_le _ _ _) (h.2.2.1 v hv)
theorem rwS_b {a : Nat} {S : aS} (h : okS a S) {v k : Nat} (hv : v ≤ sNv S) (hk : k < lvS S v) : sRw S v k < sNb S := h.2.2.2.1 v k hv (Nat.lt_of_lt_of_le hk (lenV_le _ _ _))
def szM (lg : Nat → Nat) (n p : Nat) : Nat := if lg p = 1 then (if p + 1 < n then 2 + lg (p + 1) else 2) else if lg p = 2 ∨ lg p = 4 then 2 else 1
theorem szM_full {lg : Nat → Nat} {n p : Nat} (h : p + rlen lg p ≤ n) : szM lg n p = rlen lg p := by
  unfold szM rlen
  by_cases k : lg p = 1
  · rw [if_pos k, if_pos k]
    unfold rlen at h
    rw [if_pos k] at h
    rw [if_pos (by omega)]
  · rw [if_neg k, if_neg k]
theorem szM_cut {lg : Nat → Nat} {n p : Nat} (hp : p < n) (h : n < p + rlen lg p) : n < p + szM lg n p := by
  unfold szM
  unfold rlen at h
  by_cases k : lg p = 1
  · rw [if_pos k] at h ⊢
    by_cases k2 : p + 1 < n
    · rw [if_pos k2]; exact h
    · rw [if_neg k2]; omega
  · rw [if_neg k] at h ⊢
    exact h
theorem szM_le {lg : Nat → Nat} {n p : Nat} (h : ∀ i, i < n → lg i < 256) : szM lg n p ≤ 258 := by
  unfold szM
  split
  · split
    · have := h (p + 1) (by omega); omega
    · omega
  · split <;> omega
theorem d_M_thrown_0 : decode b_M_thrown 0 = .ok (.aload_n 0, 1) := by decide +kernel
theorem d_M_thrown_1 : decode b_M_thrown 1 = .ok (.getfield 48, 3) := by decide +kernel
theorem d_M_thrown_4 : decode b_M_thrown 4 = .ok (.ireturn, 1) := by decide +kernel
set_option maxRecDepth 20000 in
set_option maxHeartbeats 4000000 in
theorem c_M_thrown {D : va_G} {cI cZ cJ : ClassId} {am : Nat → Nat} {mp : Nat} {th : Nat} {cr : Bool} {fd : Nat} {fo : Nat → Int32} {n : Nat} {lo : Nat → Int32} {np : Nat} {ps : Nat → Int32} {pb : Nat → Int32} {ip : Nat → Int32} {nb : Nat} {fr : Nat → Int32} {ln : Nat → Int32} {tr : Nat → Int32} {nv : Nat} {ct : Nat → Int32} {rw : Nat → Int32} {dr : Nat → Int32} {en : Nat} {sw : Nat} {rest : va_W}  : bC D bcl (tys3 cI cZ cJ) y_M_thrown ({ frames := 0, cells := 0, slots := 0, locals := 0 }) (wM am cI cZ mp th cr fd fo n lo np ps pb ip nb fr ln tr nv ct rw dr en sw rest) [.ref (am 0)] (bI (fun x ws9 => x = nI th ∧ ws9 = wM am cI cZ mp th cr fd fo n lo np ps pb ip nb fr ln tr nv ct rw dr en sw rest) bno) := by
  refine bC.of (by decide) m_M_thrown.1 (Nat.le_of_ble_eq_true rfl) ?_
  intro Γ G E0
  show bV D bcl Γ 1 (wM am cI cZ mp th cr fd fo n lo np ps pb ip nb fr ln tr nv ct rw dr en sw rest) 0 0 0 [(0, .ref (am 0))] []
  refine bV.aload_n G d_M_thrown_0 rfl ?_
  refine bV.getf G cl_M 0 0 rfl (by decide) bw_545 rfl d_M_thrown_1 ?_
  exact bV.iretI G E0 rfl rfl (by decide) (by decide) d_M_thrown_4 ⟨rfl, rfl⟩
theorem d_M_append_0 : decode b_M_append 0 = .ok (.aload_n 0, 1) := by decide +kernel
theorem d_M_append_1 : decode b_M_append 1 = .ok (.getfield 38, 3) := by decide +kernel
theorem d_M_append_4 : decode b_M_append 4 = .ok (.bipush 8, 2) := by decide +kernel
theorem d_M_append_6 : decode b_M_append 6 = .ok (.aload_n 0, 1) := by decide +kernel
theorem d_M_append_7 : decode b_M_append 7 = .ok (.getfield 51, 3) := by decide +kernel
theorem d_M_append_10 : decode b_M_append 10 = .ok (.imul, 1) := by decide +kernel
theorem d_M_append_11 : decode b_M_append 11 = .ok (.aload_n 0, 1) := by decide +kernel
theorem d_M_append_12 : decode b_M_append 12 = .ok (.getfield 35, 3) := by decide +kernel
theorem d_M_append_15 : decode b_M_append 15 = .ok (.aload_n 0, 1) := by decide +kernel
theorem d_M_append_16 : decode b_M_append 16 = .ok (.getfield 51, 3) := by decide +kernel
theorem d_M_append_19 : decode b_M_append 19 = .ok (.iaload, 1) := by decide +kernel
theorem d_M_append_20 : decode b_M_append 20 = .ok (.iadd, 1) := by decide +kernel
theorem d_M_append_21 : decode b_M_append 21 = .ok (.iload_n 1, 1) := by decide +kernel
theorem d_M_append_22 : decode b_M_append 22 = .ok (.iastore, 1) := by decide +kernel
theorem d_M_append_23 : decode b_M_append 23 = .ok (.aload_n 0, 1) := by decide +kernel
theorem d_M_append_24 : decode b_M_append 24 = .ok (.getfield 35, 3) := by decide +kernel
theorem d_M_append_27 : decode b_M_append 27 = .ok (.aload_n 0, 1) := by decide +kernel
theorem d_M_append_28 : decode b_M_append 28 = .ok (.getfield 51, 3) := by decide +kernel
theorem d_M_append_31 : decode b_M_append 31 = .ok (.dup2, 1) := by decide +kernel
theorem d_M_append_32 : decode b_M_append 32 = .ok (.iaload, 1) := by decide +kernel
theorem d_M_append_33 : decode b_M_append 33 = .ok (.iconst 1, 1) := by decide +kernel
theorem d_M_append_34 : decode b_M_append 34 = .ok (.iadd, 1) := by decide +kernel
theorem d_M_append_35 : decode b_M_append 35 = .ok (.iastore, 1) := by decide +kernel
theorem d_M_append_36 : decode b_M_append 36 = .ok (.return_, 1) := by decide +kernel
set_option maxRecDepth 20000 in
set_option maxHeartbeats 4000000 in
theorem c_M_append {D : va_G} {cI cZ cJ : ClassId} {am : Nat → Nat} {mp : Nat} {th : Nat} {cr : Bool} {fd : Nat} {fo : Nat → Int32} {n : Nat} {lo : Nat → Int32} {np : Nat} {ps : Nat → Int32} {pb : Nat → Int32} {ip : Nat → Int32} {nb : Nat} {fr : Nat → Int32} {ln : Nat → Int32} {tr : Nat → Int32} {nv : Nat} {ct : Nat → Int32} {rw : Nat → Int32} {dr : Nat → Int32} {en : Nat} {sw : Nat} {rest : va_W} {b c : Nat} (hnv : nv ≤ 12) (hc : ct nv = nI c) (hc8 : c < 8) : bC D bcl (tys3 cI cZ cJ) y_M_append ({ frames := 0, cells := 0, slots := 0, locals := 0 }) (wM am cI cZ mp th cr fd fo n lo np ps pb ip nb fr ln tr nv ct rw dr en sw rest) [.ref (am 0), .int (nI (b))] (bO (fun ws9 => ws9 = wM am cI cZ mp th cr fd fo n lo np ps pb ip nb fr ln tr nv (upd ct nv (nI (c + 1))) (upd rw (8 * nv + c) (nI b)) dr en sw rest) bno) := by
  refine bC.of (by decide) m_M_append.1 (Nat.le_of_ble_eq_true rfl) ?_
  intro Γ G E0
  show bV D bcl Γ 2 (wM am cI cZ mp th cr fd fo n lo np ps pb ip nb fr ln tr nv ct rw dr en sw rest) 0 0 0 [(0, .ref (am 0)), (1, .int (nI (b)))] []
  refine bV.aload_n G d_M_append_0 rfl ?_
  refine bV.getf G cl_M 0 17 rfl (by decide) bw_562 rfl d_M_append_1 ?_
  refine bV.bipush (v := nI 8) G d_M_append_4 (by decide) ?_
  refine bV.aload_n G d_M_append_6 rfl ?_
  refine bV.getf G cl_M 0 15 rfl (by decide) bw_560 rfl d_M_append_7 ?_
  refine bV.imulN G d_M_append_10 ?_
  refine bV.aload_n G d_M_append_11 rfl ?_
  refine bV.getf G cl_M 0 16 rfl (by decide) bw_561 rfl d_M_append_12 ?_
  refine bV.aload_n G d_M_append_15 rfl ?_
  refine bV.getf G cl_M 0 15 rfl (by decide) bw_560 rfl d_M_append_16 ?_
  refine bV.ialoadN G 9 0 rfl rfl (by omega) (by omega) d_M_append_19 ?_
  refine bV.topi (y := (nI (c))) hc ?_
  refine bV.iaddN G d_M_append_20 ?_
  refine bV.iload_n G d_M_append_21 rfl ?_
  refine bV.iastoreN G (ws' := (wM am cI cZ mp th cr fd fo n lo np ps pb ip nb fr ln tr nv ct (upd rw ((8 * nv) + c) ((nI (b)))) dr en sw rest)) 10 0 rfl rfl (by omega) (by omega) d_M_append_22 rfl ?_
  refine bV.aload_n G d_M_append_23 rfl ?_
  refine bV.getf G cl_M 0 16 rfl (by decide) bw_561 rfl d_M_append_24 ?_
  refine bV.aload_n G d_M_append_27 rfl ?_
  refine bV.getf G cl_M 0 15 rfl (by decide) bw_560 rfl d_M_append_28 ?_
  refine bV.dup2 G d_M_append_31 rfl rfl ?_
  refine bV.ialoadN G 9 0 rfl rfl (by omega) (by omega) d_M_append_32 ?_
  refine bV.topi (y := (nI (c))) hc ?_
  refine bV.iconst (v := nI 1) G d_M_append_33 (by decide) ?_
  refine bV.iaddN G d_M_append_34 ?_
  refine bV.iastoreN G (ws' := (wM am cI cZ mp th cr fd fo n lo np ps pb ip nb fr ln tr nv (upd ct nv ((nI (c + 1)))) (upd rw ((8 * nv) + c) ((nI (b)))) dr en sw rest)) 9 0 rfl rfl (by omega) (by omega) d_M_append_35 rfl ?_
  exact bV.vretO G E0 rfl (by decide) (by decide) d_M_append_36 rfl
theorem d_M_isHeld_0 : decode b_M_isHeld 0 = .ok (.iconst 0, 1) := by decide +kernel
theorem d_M_isHeld_1 : decode b_M_isHeld 1 = .ok (.istore_n 2, 1) := by decide +kernel
theorem d_M_isHeld_2 : decode b_M_isHeld 2 = .ok (.iconst 0, 1) := by decide +kernel
theorem d_M_isHeld_3 : decode b_M_isHeld 3 = .ok (.istore_n 3, 1) := by decide +kernel
theorem d_M_isHeld_4 : decode b_M_isHeld 4 = .ok (.iload_n 3, 1) := by decide +kernel
theorem d_M_isHeld_5 : decode b_M_isHeld 5 = .ok (.aload_n 0, 1) := by decide +kernel
theorem d_M_isHeld_6 : decode b_M_isHeld 6 = .ok (.getfield 51, 3) := by decide +kernel
theorem d_M_isHeld_9 : decode b_M_isHeld 9 = .ok (.if_icmp .gt 55, 3) := by decide +kernel
theorem d_M_isHeld_12 : decode b_M_isHeld 12 = .ok (.iconst 0, 1) := by decide +kernel
theorem d_M_isHeld_13 : decode b_M_isHeld 13 = .ok (.istore 4, 2) := by decide +kernel
theorem d_M_isHeld_15 : decode b_M_isHeld 15 = .ok (.iload 4, 2) := by decide +kernel
theorem d_M_isHeld_17 : decode b_M_isHeld 17 = .ok (.aload_n 0, 1) := by decide +kernel
theorem d_M_isHeld_18 : decode b_M_isHeld 18 = .ok (.getfield 35, 3) := by decide +kernel
theorem d_M_isHeld_21 : decode b_M_isHeld 21 = .ok (.iload_n 3, 1) := by decide +kernel
theorem d_M_isHeld_22 : decode b_M_isHeld 22 = .ok (.iaload, 1) := by decide +kernel
theorem d_M_isHeld_23 : decode b_M_isHeld 23 = .ok (.if_icmp .ge 35, 3) := by decide +kernel
theorem d_M_isHeld_26 : decode b_M_isHeld 26 = .ok (.iload_n 2, 1) := by decide +kernel
theorem d_M_isHeld_27 : decode b_M_isHeld 27 = .ok (.ifCond .ne 19, 3) := by decide +kernel
theorem d_M_isHeld_30 : decode b_M_isHeld 30 = .ok (.aload_n 0, 1) := by decide +kernel
theorem d_M_isHeld_31 : decode b_M_isHeld 31 = .ok (.getfield 38, 3) := by decide +kernel
theorem d_M_isHeld_34 : decode b_M_isHeld 34 = .ok (.bipush 8, 2) := by decide +kernel
theorem d_M_isHeld_36 : decode b_M_isHeld 36 = .ok (.iload_n 3, 1) := by decide +kernel
theorem d_M_isHeld_37 : decode b_M_isHeld 37 = .ok (.imul, 1) := by decide +kernel
theorem d_M_isHeld_38 : decode b_M_isHeld 38 = .ok (.iload 4, 2) := by decide +kernel
theorem d_M_isHeld_40 : decode b_M_isHeld 40 = .ok (.iadd, 1) := by decide +kernel
theorem d_M_isHeld_41 : decode b_M_isHeld 41 = .ok (.iaload, 1) := by decide +kernel
theorem d_M_isHeld_42 : decode b_M_isHeld 42 = .ok (.iload_n 1, 1) := by decide +kernel
theorem d_M_isHeld_43 : decode b_M_isHeld 43 = .ok (.if_icmp .ne 7, 3) := by decide +kernel
theorem d_M_isHeld_46 : decode b_M_isHeld 46 = .ok (.iconst 1, 1) := by decide +kernel
theorem d_M_isHeld_47 : decode b_M_isHeld 47 = .ok (.goto 4, 3) := by decide +kernel
theorem d_M_isHeld_50 : decode b_M_isHeld 50 = .ok (.iconst 0, 1) := by decide +kernel
theorem d_M_isHeld_51 : decode b_M_isHeld 51 = .ok (.istore_n 2, 1) := by decide +kernel
theorem d_M_isHeld_52 : decode b_M_isHeld 52 = .ok (.iinc 4 1, 3) := by decide +kernel
theorem d_M_isHeld_55 : decode b_M_isHeld 55 = .ok (.goto (-40), 3) := by decide +kernel
theorem d_M_isHeld_58 : decode b_M_isHeld 58 = .ok (.iinc 3 1, 3) := by decide +kernel
theorem d_M_isHeld_61 : decode b_M_isHeld 61 = .ok (.goto (-57), 3) := by decide +kernel
theorem d_M_isHeld_64 : decode b_M_isHeld 64 = .ok (.iload_n 2, 1) := by decide +kernel
theorem d_M_isHeld_65 : decode b_M_isHeld 65 = .ok (.ireturn, 1) := by decide +kernel
set_option maxRecDepth 20000 in
set_option maxHeartbeats 4000000 in
theorem c_M_isHeld {D : va_G} {cI cZ cJ : ClassId} {am : Nat → Nat} {mp : Nat} {th : Nat} {cr : Bool} {fd : Nat} {fo : Nat → Int32} {n : Nat} {lo : Nat → Int32} {np : Nat} {ps : Nat → Int32} {pb : Nat → Int32} {ip : Nat → Int32} {fr : Nat → Int32} {ln : Nat → Int32} {tr : Nat → Int32} {ct : Nat → Int32} {rw : Nat → Int32} {dr : Nat → Int32} {en : Nat} {sw : Nat} {rest : va_W} {S : aS} {a b : Nat} (hok : okS a S) (hb : b < 2 ^ 31) (hct : ctR S ct) (hrw : rwR S rw) : bC D bcl (tys3 cI cZ cJ) y_M_isHeld ({ frames := 0, cells := 0, slots := 0, locals := 0 }) (wM am cI cZ mp th cr fd fo n lo np ps pb ip (sNb S) fr ln tr (sNv S) ct rw dr en sw rest) [.ref (am 0), .int (nI (b))] (bI (fun x ws9 => x = bB (hlB (sDr S) (sCt S) (sRw S) (sNv S) b) ∧ ws9 = wM am cI cZ mp th cr fd fo n lo np ps pb ip (sNb S) fr ln tr (sNv S) ct rw dr en sw rest) bno) := by
  have h12 := hok.2.1
  have h24 := hok.1
  refine bC.of (by decide) m_M_isHeld.1 (Nat.le_of_ble_eq_true rfl) ?_
  intro Γ G E0
  show bV D bcl Γ 5 (wM am cI cZ mp th cr fd fo n lo np ps pb ip (sNb S) fr ln tr (sNv S) ct rw dr en sw rest) 0 0 0 [(0, .ref (am 0)), (1, .int (nI (b)))] []
  have inner : ∀ (d : Nat) (v k : Nat) (hd : Bool), (∀ hd : Bool, (hd = true ↔ ∃ v0, v0 < v + 1 ∧ ∃ k0, k0 < lvS S v0 ∧ sRw S v0 k0 = b) → bV D bcl Γ 5 (wM am cI cZ mp th cr fd fo n lo np ps pb ip (sNb S) fr ln tr (sNv S) ct rw dr en sw rest) 0 0 58 [(0, .ref (am 0)), (1, .int (nI b)), (2, .int (bB hd)), (3, .int (nI v))] []) → v ≤ sNv S → d + k = lvS S v → (hd = true ↔ (∃ v0, v0 < v ∧ ∃ k0, k0 < lvS S v0 ∧ sRw S v0 k0 = b) ∨ ∃ k0, k0 < k ∧ sRw S v k0 = b) → bV D bcl Γ 5 (wM am cI cZ mp th cr fd fo n lo np ps pb ip (sNb S) fr ln tr (sNv S) ct rw dr en sw rest) 0 0 15 [(0, .ref (am 0)), (1, .int (nI (b))), (2, .int (bB (hd))), (3, .int (nI (v))), (4, .int (nI (k)))] [] := by
    intro d
    induction d with
    | zero =>
      intro v k hd cont hv hd0 hh
      have hl8 := lvS_8 hok hv
      refine bV.iload G d_M_isHeld_15 rfl ?_
      refine bV.aload_n G d_M_isHeld_17 rfl ?_
      refine bV.getf G cl_M 0 16 rfl (by decide) bw_561 rfl d_M_isHeld_18 ?_
      refine bV.iload_n G d_M_isHeld_21 rfl ?_
      refine bV.ialoadN G 9 0 rfl rfl (by omega) (by omega) d_M_isHeld_22 ?_
      refine bV.topi (y := (nI (lvS S v))) (hct _ (by omega)) ?_
      refine bV.icmp_geN (tgt := 58) G d_M_isHeld_23 (by decide) (by omega) (by omega) (fun c23 => ?_) (fun c23 => ?_)
      · refine bV.ltake (lv' := [(0, .ref (am 0)), (1, .int (nI (b))), (2, .int (bB (hd))), (3, .int (nI (v)))]) (ex := [(4, .int (nI (k)))]) rfl ?_
        exact cont hd (hh.trans ⟨fun z => z.elim (fun ⟨v0, z1, z2⟩ => ⟨v0, by omega, z2⟩) (fun ⟨k0, z1, z2⟩ => ⟨v, by omega, k0, by omega, z2⟩), fun ⟨v0, z1, k0, z2, z3⟩ => by rcases Nat.lt_or_ge v0 v with y | y; exact Or.inl ⟨v0, y, k0, z2, z3⟩; obtain rfl : v0 = v := (by omega); exact Or.inr ⟨k0, by omega, z3⟩⟩)
      · exfalso; omega
    | succ d ih =>
      intro v k hd cont hv hd0 hh
      have hl8 := lvS_8 hok hv
      refine bV.iload G d_M_isHeld_15 rfl ?_
      refine bV.aload_n G d_M_isHeld_17 rfl ?_
      refine bV.getf G cl_M 0 16 rfl (by decide) bw_561 rfl d_M_isHeld_18 ?_
      refine bV.iload_n G d_M_isHeld_21 rfl ?_
      refine bV.ialoadN G 9 0 rfl rfl (by omega) (by omega) d_M_isHeld_22 ?_
      refine bV.topi (y := (nI (lvS S v))) (hct _ (by omega)) ?_
      refine bV.icmp_geN (tgt := 58) G d_M_isHeld_23 (by decide) (by omega) (by omega) (fun c23 => ?_) (fun c23 => ?_)
      · exfalso; omega
      · refine bV.iload_n G d_M_isHeld_26 rfl ?_
        refine bV.if_neB (tgt := 46) G d_M_isHeld_27 (by decide) (fun c27 => ?_) (fun c27 => ?_)
        · refine bV.iconst (v := bB true) G d_M_isHeld_46 (by decide) ?_
          refine bV.goto (tgt := 51) G d_M_isHeld_47 (by decide) ?_
          refine bV.istore_n G (lv' := [(0, .ref (am 0)), (1, .int (nI (b))), (2, .int (bB (true))), (3, .int (nI (v))), (4, .int (nI (k)))]) d_M_isHeld_51 (by decide) rfl rfl ?_
          refine bV.iincN G (lv' := [(0, .ref (am 0)), (1, .int (nI (b))), (2, .int (bB (true))), (3, .int (nI (v))), (4, .int (nI (k + 1)))]) d_M_isHeld_52 rfl (by decide) rfl rfl ?_
          refine bV.goto (tgt := 15) G d_M_isHeld_55 (by decide) ?_
          exact ih v (k + 1) true cont hv (by omega) ⟨fun _ => by first | exact Or.inr ⟨k, by omega, c43⟩ | exact (hh.mp c27).elim Or.inl (fun ⟨k0, z1, z2⟩ => Or.inr ⟨k0, by omega, z2⟩), fun _ => rfl⟩
        · have hrb := rwS_b hok hv (show k < lvS S v by omega)
          refine bV.aload_n G d_M_isHeld_30 rfl ?_
          refine bV.getf G cl_M 0 17 rfl (by decide) bw_562 rfl d_M_isHeld_31 ?_
          refine bV.bipush (v := nI 8) G d_M_isHeld_34 (by decide) ?_
          refine bV.iload_n G d_M_isHeld_36 rfl ?_
          refine bV.imulN G d_M_isHeld_37 ?_
          refine bV.iload G d_M_isHeld_38 rfl ?_
          refine bV.iaddN G d_M_isHeld_40 ?_
          refine bV.ialoadN G 10 0 rfl rfl (by omega) (by omega) d_M_isHeld_41 ?_
          refine bV.topi (y := (nI (sRw S v k))) (hrw v k (by omega) (by omega)) ?_
          refine bV.iload_n G d_M_isHeld_42 rfl ?_
          refine bV.icmp_neN (tgt := 50) G d_M_isHeld_43 (by decide) (by omega) (by omega) (fun c43 => ?_) (fun c43 => ?_)
          · refine bV.iconst (v := bB false) G d_M_isHeld_50 (by decide) ?_
            refine bV.istore_n G (lv' := [(0, .ref (am 0)), (1, .int (nI (b))), (2, .int (bB (false))), (3, .int (nI (v))), (4, .int (nI (k)))]) d_M_isHeld_51 (by decide) rfl rfl ?_
            refine bV.iincN G (lv' := [(0, .ref (am 0)), (1, .int (nI (b))), (2, .int (bB (false))), (3, .int (nI (v))), (4, .int (nI (k + 1)))]) d_M_isHeld_52 rfl (by decide) rfl rfl ?_
            refine bV.goto (tgt := 15) G d_M_isHeld_55 (by decide) ?_
            exact ih v (k + 1) false cont hv (by omega) ⟨fun z => (by cases z), fun z => z.elim (fun y => absurd (hh.mpr (Or.inl y)) (by rw [c27]; decide)) (fun ⟨k0, z1, z2⟩ => by rcases Nat.lt_or_ge k0 k with y | y; exact absurd (hh.mpr (Or.inr ⟨k0, y, z2⟩)) (by rw [c27]; decide); obtain rfl : k0 = k := (by omega); exact absurd z2 c43)⟩
          · refine bV.iconst (v := bB true) G d_M_isHeld_46 (by decide) ?_
            refine bV.goto (tgt := 51) G d_M_isHeld_47 (by decide) ?_
            refine bV.istore_n G (lv' := [(0, .ref (am 0)), (1, .int (nI (b))), (2, .int (bB (true))), (3, .int (nI (v))), (4, .int (nI (k)))]) d_M_isHeld_51 (by decide) rfl rfl ?_
            refine bV.iincN G (lv' := [(0, .ref (am 0)), (1, .int (nI (b))), (2, .int (bB (true))), (3, .int (nI (v))), (4, .int (nI (k + 1)))]) d_M_isHeld_52 rfl (by decide) rfl rfl ?_
            refine bV.goto (tgt := 15) G d_M_isHeld_55 (by decide) ?_
            exact ih v (k + 1) true cont hv (by omega) ⟨fun _ => by first | exact Or.inr ⟨k, by omega, c43⟩ | exact (hh.mp c27).elim Or.inl (fun ⟨k0, z1, z2⟩ => Or.inr ⟨k0, by omega, z2⟩), fun _ => rfl⟩
  have loop : ∀ (d : Nat) (v : Nat) (hd : Bool), d + v = sNv S + 1 → (hd = true ↔ ∃ v0, v0 < v ∧ ∃ k0, k0 < lvS S v0 ∧ sRw S v0 k0 = b) → bV D bcl Γ 5 (wM am cI cZ mp th cr fd fo n lo np ps pb ip (sNb S) fr ln tr (sNv S) ct rw dr en sw rest) 0 0 4 [(0, .ref (am 0)), (1, .int (nI (b))), (2, .int (bB (hd))), (3, .int (nI (v)))] [] := by
    intro d
    induction d with
    | zero =>
      intro v hd hd0 hh
      refine bV.iload_n G d_M_isHeld_4 rfl ?_
      refine bV.aload_n G d_M_isHeld_5 rfl ?_
      refine bV.getf G cl_M 0 15 rfl (by decide) bw_560 rfl d_M_isHeld_6 ?_
      refine bV.icmp_gtN (tgt := 64) G d_M_isHeld_9 (by decide) (by omega) (by omega) (fun c9 => ?_) (fun c9 => ?_)
      · refine bV.iload_n G d_M_isHeld_64 rfl ?_
        exact bV.iretI G E0 rfl (bB_n _) (by decide) (by decide) d_M_isHeld_65 ⟨congrArg bB (show hd = dcd _ by cases e : hd; exact (dcd_f (fun ⟨v0, z1, z2⟩ => by have z3 := hh.mpr ⟨v0, by omega, z2⟩; rw [e] at z3; cases z3)).symm; exact (dcd_t (by obtain ⟨v0, z1, z2⟩ := hh.mp e; exact ⟨v0, by omega, z2⟩)).symm), rfl⟩
      · exfalso; omega
    | succ d ih =>
      intro v hd hd0 hh
      refine bV.iload_n G d_M_isHeld_4 rfl ?_
      refine bV.aload_n G d_M_isHeld_5 rfl ?_
      refine bV.getf G cl_M 0 15 rfl (by decide) bw_560 rfl d_M_isHeld_6 ?_
      refine bV.icmp_gtN (tgt := 64) G d_M_isHeld_9 (by decide) (by omega) (by omega) (fun c9 => ?_) (fun c9 => ?_)
      · exfalso; omega
      · refine bV.iconst (v := nI 0) G d_M_isHeld_12 (by decide) ?_
        refine bV.istore G (lv' := [(0, .ref (am 0)), (1, .int (nI (b))), (2, .int (bB (hd))), (3, .int (nI (v))), (4, .int (nI (0)))]) d_M_isHeld_13 (by decide) rfl rfl ?_
        refine inner (lvS S v) v 0 hd (fun hd hh => ?_) (by omega) (by omega) (hh.trans ⟨Or.inl, fun z => z.elim id (fun ⟨k0, z1, _⟩ => absurd z1 (Nat.not_lt_zero _))⟩)
        refine bV.iincN G (lv' := [(0, .ref (am 0)), (1, .int (nI (b))), (2, .int (bB (hd))), (3, .int (nI (v + 1)))]) d_M_isHeld_58 rfl (by decide) rfl rfl ?_
        refine bV.goto (tgt := 4) G d_M_isHeld_61 (by decide) ?_
        exact ih (v + 1) hd (by omega) hh
  refine bV.iconst (v := bB false) G d_M_isHeld_0 (by decide) ?_
  refine bV.istore_n G (lv' := [(0, .ref (am 0)), (1, .int (nI (b))), (2, .int (bB (false)))]) d_M_isHeld_1 (by decide) rfl rfl ?_
  refine bV.iconst (v := nI 0) G d_M_isHeld_2 (by decide) ?_
  refine bV.istore_n G (lv' := [(0, .ref (am 0)), (1, .int (nI (b))), (2, .int (bB (false))), (3, .int (nI (0)))]) d_M_isHeld_3 (by decide) rfl rfl ?_
  exact loop (sNv S + 1) 0 false (by omega) ⟨fun z => (by cases z), fun ⟨v0, z1, _⟩ => absurd z1 (Nat.not_lt_zero _)⟩
theorem d_M_sweepAll_0 : decode b_M_sweepAll 0 = .ok (.aload_n 0, 1) := by decide +kernel
theorem d_M_sweepAll_1 : decode b_M_sweepAll 1 = .ok (.iconst 0, 1) := by decide +kernel
theorem d_M_sweepAll_2 : decode b_M_sweepAll 2 = .ok (.putfield 54, 3) := by decide +kernel
theorem d_M_sweepAll_5 : decode b_M_sweepAll 5 = .ok (.iconst 0, 1) := by decide +kernel
theorem d_M_sweepAll_6 : decode b_M_sweepAll 6 = .ok (.istore_n 1, 1) := by decide +kernel
theorem d_M_sweepAll_7 : decode b_M_sweepAll 7 = .ok (.iload_n 1, 1) := by decide +kernel
theorem d_M_sweepAll_8 : decode b_M_sweepAll 8 = .ok (.aload_n 0, 1) := by decide +kernel
theorem d_M_sweepAll_9 : decode b_M_sweepAll 9 = .ok (.getfield 57, 3) := by decide +kernel
theorem d_M_sweepAll_12 : decode b_M_sweepAll 12 = .ok (.if_icmp .ge 46, 3) := by decide +kernel
theorem d_M_sweepAll_15 : decode b_M_sweepAll 15 = .ok (.aload_n 0, 1) := by decide +kernel
theorem d_M_sweepAll_16 : decode b_M_sweepAll 16 = .ok (.getfield 32, 3) := by decide +kernel
theorem d_M_sweepAll_19 : decode b_M_sweepAll 19 = .ok (.iload_n 1, 1) := by decide +kernel
theorem d_M_sweepAll_20 : decode b_M_sweepAll 20 = .ok (.baload, 1) := by decide +kernel
theorem d_M_sweepAll_21 : decode b_M_sweepAll 21 = .ok (.ifCond .eq 31, 3) := by decide +kernel
theorem d_M_sweepAll_24 : decode b_M_sweepAll 24 = .ok (.aload_n 0, 1) := by decide +kernel
theorem d_M_sweepAll_25 : decode b_M_sweepAll 25 = .ok (.iload_n 1, 1) := by decide +kernel
theorem d_M_sweepAll_26 : decode b_M_sweepAll 26 = .ok (.invokevirtual 60, 3) := by decide +kernel
theorem d_M_sweepAll_29 : decode b_M_sweepAll 29 = .ok (.ifCond .eq 6, 3) := by decide +kernel
theorem d_M_sweepAll_32 : decode b_M_sweepAll 32 = .ok (.goto 20, 3) := by decide +kernel
theorem d_M_sweepAll_35 : decode b_M_sweepAll 35 = .ok (.aload_n 0, 1) := by decide +kernel
theorem d_M_sweepAll_36 : decode b_M_sweepAll 36 = .ok (.getfield 32, 3) := by decide +kernel
theorem d_M_sweepAll_39 : decode b_M_sweepAll 39 = .ok (.iload_n 1, 1) := by decide +kernel
theorem d_M_sweepAll_40 : decode b_M_sweepAll 40 = .ok (.iconst 0, 1) := by decide +kernel
theorem d_M_sweepAll_41 : decode b_M_sweepAll 41 = .ok (.bastore, 1) := by decide +kernel
theorem d_M_sweepAll_42 : decode b_M_sweepAll 42 = .ok (.aload_n 0, 1) := by decide +kernel
theorem d_M_sweepAll_43 : decode b_M_sweepAll 43 = .ok (.dup, 1) := by decide +kernel
theorem d_M_sweepAll_44 : decode b_M_sweepAll 44 = .ok (.getfield 54, 3) := by decide +kernel
theorem d_M_sweepAll_47 : decode b_M_sweepAll 47 = .ok (.iconst 1, 1) := by decide +kernel
theorem d_M_sweepAll_48 : decode b_M_sweepAll 48 = .ok (.iadd, 1) := by decide +kernel
theorem d_M_sweepAll_49 : decode b_M_sweepAll 49 = .ok (.putfield 54, 3) := by decide +kernel
theorem d_M_sweepAll_52 : decode b_M_sweepAll 52 = .ok (.iinc 1 1, 3) := by decide +kernel
theorem d_M_sweepAll_55 : decode b_M_sweepAll 55 = .ok (.goto (-48), 3) := by decide +kernel
theorem d_M_sweepAll_58 : decode b_M_sweepAll 58 = .ok (.return_, 1) := by decide +kernel
set_option maxRecDepth 20000 in
set_option maxHeartbeats 4000000 in
theorem c_M_sweepAll {D : va_G} {cI cZ cJ : ClassId} {am : Nat → Nat} {mp : Nat} {th : Nat} {cr : Bool} {fd : Nat} {fo : Nat → Int32} {n : Nat} {lo : Nat → Int32} {np : Nat} {ps : Nat → Int32} {pb : Nat → Int32} {ip : Nat → Int32} {fr : Nat → Int32} {ln : Nat → Int32} {tr : Nat → Int32} {ct : Nat → Int32} {rw : Nat → Int32} {dr : Nat → Int32} {en : Nat} {sw : Nat} {rest : va_W} {S : aS} {a : Nat} (hok : okS a S) (htr : ∀ b, b < sNb S → tr b = bB (sTh S b)) (hct : ctR S ct) (hrw : rwR S rw) : bC D bcl (tys3 cI cZ cJ) y_M_sweepAll ({ frames := 1, cells := 0, slots := 0, locals := 24 }) (wM am cI cZ mp th cr fd fo n lo np ps pb ip (sNb S) fr ln tr (sNv S) ct rw dr en sw rest) [.ref (am 0)] (bO (fun ws9 => ∃ tr1 : Nat → Int32, (∀ b, b < sNb S → tr1 b = bB (swS (sTh S) (hlB (sDr S) (sCt S) (sRw S) (sNv S)) (sNb S) b)) ∧ ws9 = wM am cI cZ mp th cr fd fo n lo np ps pb ip (sNb S) fr ln tr1 (sNv S) ct rw dr en (cntU (fun b => sTh S b && !hlB (sDr S) (sCt S) (sRw S) (sNv S) b) (sNb S)) rest) bno) := by
  have h24 := hok.1
  refine bC.of (by decide) m_M_sweepAll.1 (Nat.le_of_ble_eq_true rfl) ?_
  intro Γ G E0
  show bV D bcl Γ 2 (wM am cI cZ mp th cr fd fo n lo np ps pb ip (sNb S) fr ln tr (sNv S) ct rw dr en sw rest) 0 0 0 [(0, .ref (am 0))] []
  have loop : ∀ (d : Nat) (j : Nat) (tz : Nat → Int32), d + j = sNb S → (∀ b, b < sNb S → tz b = bB (swS (sTh S) (hlB (sDr S) (sCt S) (sRw S) (sNv S)) j b)) → bV D bcl Γ 2 (wM am cI cZ mp th cr fd fo n lo np ps pb ip (sNb S) fr ln tz (sNv S) ct rw dr en (cntU (fun b => sTh S b && !hlB (sDr S) (sCt S) (sRw S) (sNv S) b) j) rest) 0 0 7 [(0, .ref (am 0)), (1, .int (nI (j)))] [] := by
    intro d
    induction d with
    | zero =>
      intro j tz hd htz
      refine bV.iload_n G d_M_sweepAll_7 rfl ?_
      refine bV.aload_n G d_M_sweepAll_8 rfl ?_
      refine bV.getf G cl_M 0 11 rfl (by decide) bw_556 rfl d_M_sweepAll_9 ?_
      refine bV.icmp_geN (tgt := 58) G d_M_sweepAll_12 (by decide) (by omega) (by omega) (fun c12 => ?_) (fun c12 => ?_)
      · exact bV.vretO G E0 rfl (by decide) (by decide) d_M_sweepAll_58 ⟨tz, fun b hb => by obtain e : sNb S = j := (by omega); rw [e]; exact htz b hb, by obtain e : sNb S = j := (by omega); rw [← e]⟩
      · exfalso; omega
    | succ d ih =>
      intro j tz hd htz
      refine bV.iload_n G d_M_sweepAll_7 rfl ?_
      refine bV.aload_n G d_M_sweepAll_8 rfl ?_
      refine bV.getf G cl_M 0 11 rfl (by decide) bw_556 rfl d_M_sweepAll_9 ?_
      refine bV.icmp_geN (tgt := 58) G d_M_sweepAll_12 (by decide) (by omega) (by omega) (fun c12 => ?_) (fun c12 => ?_)
      · exfalso; omega
      · refine bV.aload_n G d_M_sweepAll_15 rfl ?_
        refine bV.getf G cl_M 0 14 rfl (by decide) bw_559 rfl d_M_sweepAll_16 ?_
        refine bV.iload_n G d_M_sweepAll_19 rfl ?_
        refine bV.zaloadN G 8 1 rfl rfl (by omega) (by omega) d_M_sweepAll_20 ?_
        refine bV.topi (y := (bB (swS (sTh S) (hlB (sDr S) (sCt S) (sRw S) (sNv S)) j j))) (htz _ (by omega)) ?_
        refine bV.if_eqB (tgt := 52) G d_M_sweepAll_21 (by decide) (fun c21 => ?_) (fun c21 => ?_)
        · refine bV.iincN G (lv' := [(0, .ref (am 0)), (1, .int (nI (j + 1)))]) d_M_sweepAll_52 rfl (by decide) rfl rfl ?_
          refine bV.goto (tgt := 7) G d_M_sweepAll_55 (by decide) ?_
          have hj0 : sTh S j = false ∨ hlB (sDr S) (sCt S) (sRw S) (sNv S) j = true := by first | exact Or.inr c29 | exact Or.inl (by rw [← swS_j (mt := sTh S) (hl := hlB (sDr S) (sCt S) (sRw S) (sNv S))]; exact c21)
          have e := ih (j + 1) tz (by omega) (fun b hb => by rw [← swS_on hj0]; exact htz b hb)
          rw [cntU_f (f := (fun b => sTh S b && !hlB (sDr S) (sCt S) (sRw S) (sNv S) b)) (show (sTh S j && !hlB (sDr S) (sCt S) (sRw S) (sNv S) j) = false by rcases hj0 with z | z <;> rw [z]; rfl; exact Bool.and_false _)] at e
          exact e
        · refine bV.aload_n G d_M_sweepAll_24 rfl ?_
          refine bV.iload_n G d_M_sweepAll_25 rfl ?_
          refine bV.callVi G m_M_isHeld bw_643 bw_s32 bw_641 (c_M_isHeld (b := j) hok (by omega) hct hrw) 0 rfl rfl rfl rfl rfl ⟨by decide, by decide⟩ ⟨by decide, by decide⟩ (Nat.le_of_ble_eq_true rfl) d_M_sweepAll_26 (fun x9 ws9 h9 => ?_)
          obtain ⟨rfl, h9e⟩ := h9
          rw [h9e]
          try dsimp only
          refine bV.if_eqB (tgt := 35) G d_M_sweepAll_29 (by decide) (fun c29 => ?_) (fun c29 => ?_)
          · refine bV.aload_n G d_M_sweepAll_35 rfl ?_
            refine bV.getf G cl_M 0 14 rfl (by decide) bw_559 rfl d_M_sweepAll_36 ?_
            refine bV.iload_n G d_M_sweepAll_39 rfl ?_
            refine bV.iconst (v := nI 0) G d_M_sweepAll_40 (by decide) ?_
            refine bV.topi (x := nI 0) (y := bB false) (by decide) ?_
            refine bV.zastoreN G (ws' := (wM am cI cZ mp th cr fd fo n lo np ps pb ip (sNb S) fr ln (upd tz j ((bB (false)))) (sNv S) ct rw dr en (cntU (fun b => sTh S b && !hlB (sDr S) (sCt S) (sRw S) (sNv S) b) j) rest)) 8 1 rfl rfl (by omega) (by omega) d_M_sweepAll_41 rfl ?_
            refine bV.aload_n G d_M_sweepAll_42 rfl ?_
            refine bV.dup G d_M_sweepAll_43 rfl ?_
            refine bV.getf G cl_M 0 20 rfl (by decide) bw_565 rfl d_M_sweepAll_44 ?_
            refine bV.iconst (v := nI 1) G d_M_sweepAll_47 (by decide) ?_
            refine bV.iaddN G d_M_sweepAll_48 ?_
            refine bV.putf G (ws' := (wM am cI cZ mp th cr fd fo n lo np ps pb ip (sNb S) fr ln (upd tz j ((bB (false)))) (sNv S) ct rw dr en ((cntU (fun b => sTh S b && !hlB (sDr S) (sCt S) (sRw S) (sNv S) b) j) + 1) rest)) cl_M 0 20 rfl (by decide) bw_565 rfl rfl rfl (Nat.le_of_ble_eq_true rfl) d_M_sweepAll_49 rfl ?_
            refine bV.iincN G (lv' := [(0, .ref (am 0)), (1, .int (nI (j + 1)))]) d_M_sweepAll_52 rfl (by decide) rfl rfl ?_
            refine bV.goto (tgt := 7) G d_M_sweepAll_55 (by decide) ?_
            have hj0 : sTh S j = true := by rw [← swS_j (mt := sTh S) (hl := hlB (sDr S) (sCt S) (sRw S) (sNv S))]; exact c21
            have e := ih (j + 1) (upd tz j (bB false)) (by omega) (fun b hb => by by_cases z : b = j; subst z; rw [pk_us, ← swS_off c29]; show bB false = bB (if b = b then false else _); rw [if_pos rfl]; rw [pk_un z, htz b hb, ← swS_off c29]; show _ = bB (if b = j then false else _); rw [if_neg z])
            rw [cntU_t (f := (fun b => sTh S b && !hlB (sDr S) (sCt S) (sRw S) (sNv S) b)) (show (sTh S j && !hlB (sDr S) (sCt S) (sRw S) (sNv S) j) = true by rw [hj0, c29]; rfl)] at e
            exact e
          · refine bV.goto (tgt := 52) G d_M_sweepAll_32 (by decide) ?_
            refine bV.iincN G (lv' := [(0, .ref (am 0)), (1, .int (nI (j + 1)))]) d_M_sweepAll_52 rfl (by decide) rfl rfl ?_
            refine bV.goto (tgt := 7) G d_M_sweepAll_55 (by decide) ?_
            have hj0 : sTh S j = false ∨ hlB (sDr S) (sCt S) (sRw S) (sNv S) j = true := by first | exact Or.inr c29 | exact Or.inl (by rw [← swS_j (mt := sTh S) (hl := hlB (sDr S) (sCt S) (sRw S) (sNv S))]; exact c21)
            have e := ih (j + 1) tz (by omega) (fun b hb => by rw [← swS_on hj0]; exact htz b hb)
            rw [cntU_f (f := (fun b => sTh S b && !hlB (sDr S) (sCt S) (sRw S) (sNv S) b)) (show (sTh S j && !hlB (sDr S) (sCt S) (sRw S) (sNv S) j) = false by rcases hj0 with z | z <;> rw [z]; rfl; exact Bool.and_false _)] at e
            exact e
  refine bV.aload_n G d_M_sweepAll_0 rfl ?_
  refine bV.iconst (v := nI 0) G d_M_sweepAll_1 (by decide) ?_
  refine bV.putf G (ws' := (wM am cI cZ mp th cr fd fo n lo np ps pb ip (sNb S) fr ln tr (sNv S) ct rw dr en 0 rest)) cl_M 0 20 rfl (by decide) bw_565 rfl rfl rfl (Nat.le_of_ble_eq_true rfl) d_M_sweepAll_2 rfl ?_
  refine bV.iconst (v := nI 0) G d_M_sweepAll_5 (by decide) ?_
  refine bV.istore_n G (lv' := [(0, .ref (am 0)), (1, .int (nI (0)))]) d_M_sweepAll_6 (by decide) rfl rfl ?_
  exact loop (sNb S) 0 tr (by omega) (fun b hb => by rw [swS_0]; exact htr b hb)
theorem d_M_sizeOf_0 : decode b_M_sizeOf 0 = .ok (.aload_n 0, 1) := by decide +kernel
theorem d_M_sizeOf_1 : decode b_M_sizeOf 1 = .ok (.getfield 13, 3) := by decide +kernel
theorem d_M_sizeOf_4 : decode b_M_sizeOf 4 = .ok (.iload_n 1, 1) := by decide +kernel
theorem d_M_sizeOf_5 : decode b_M_sizeOf 5 = .ok (.iaload, 1) := by decide +kernel
theorem d_M_sizeOf_6 : decode b_M_sizeOf 6 = .ok (.istore_n 2, 1) := by decide +kernel
theorem d_M_sizeOf_7 : decode b_M_sizeOf 7 = .ok (.iload_n 2, 1) := by decide +kernel
theorem d_M_sizeOf_8 : decode b_M_sizeOf 8 = .ok (.iconst 1, 1) := by decide +kernel
theorem d_M_sizeOf_9 : decode b_M_sizeOf 9 = .ok (.if_icmp .ne 30, 3) := by decide +kernel
theorem d_M_sizeOf_12 : decode b_M_sizeOf 12 = .ok (.iload_n 1, 1) := by decide +kernel
theorem d_M_sizeOf_13 : decode b_M_sizeOf 13 = .ok (.iconst 1, 1) := by decide +kernel
theorem d_M_sizeOf_14 : decode b_M_sizeOf 14 = .ok (.iadd, 1) := by decide +kernel
theorem d_M_sizeOf_15 : decode b_M_sizeOf 15 = .ok (.aload_n 0, 1) := by decide +kernel
theorem d_M_sizeOf_16 : decode b_M_sizeOf 16 = .ok (.getfield 64, 3) := by decide +kernel
theorem d_M_sizeOf_19 : decode b_M_sizeOf 19 = .ok (.if_icmp .ge 16, 3) := by decide +kernel
theorem d_M_sizeOf_22 : decode b_M_sizeOf 22 = .ok (.iconst 2, 1) := by decide +kernel
theorem d_M_sizeOf_23 : decode b_M_sizeOf 23 = .ok (.aload_n 0, 1) := by decide +kernel
theorem d_M_sizeOf_24 : decode b_M_sizeOf 24 = .ok (.getfield 13, 3) := by decide +kernel
theorem d_M_sizeOf_27 : decode b_M_sizeOf 27 = .ok (.iload_n 1, 1) := by decide +kernel
theorem d_M_sizeOf_28 : decode b_M_sizeOf 28 = .ok (.iconst 1, 1) := by decide +kernel
theorem d_M_sizeOf_29 : decode b_M_sizeOf 29 = .ok (.iadd, 1) := by decide +kernel
theorem d_M_sizeOf_30 : decode b_M_sizeOf 30 = .ok (.iaload, 1) := by decide +kernel
theorem d_M_sizeOf_31 : decode b_M_sizeOf 31 = .ok (.iadd, 1) := by decide +kernel
theorem d_M_sizeOf_32 : decode b_M_sizeOf 32 = .ok (.goto 22, 3) := by decide +kernel
theorem d_M_sizeOf_35 : decode b_M_sizeOf 35 = .ok (.iconst 2, 1) := by decide +kernel
theorem d_M_sizeOf_36 : decode b_M_sizeOf 36 = .ok (.goto 18, 3) := by decide +kernel
theorem d_M_sizeOf_39 : decode b_M_sizeOf 39 = .ok (.iload_n 2, 1) := by decide +kernel
theorem d_M_sizeOf_40 : decode b_M_sizeOf 40 = .ok (.iconst 2, 1) := by decide +kernel
theorem d_M_sizeOf_41 : decode b_M_sizeOf 41 = .ok (.if_icmp .eq 8, 3) := by decide +kernel
theorem d_M_sizeOf_44 : decode b_M_sizeOf 44 = .ok (.iload_n 2, 1) := by decide +kernel
theorem d_M_sizeOf_45 : decode b_M_sizeOf 45 = .ok (.iconst 4, 1) := by decide +kernel
theorem d_M_sizeOf_46 : decode b_M_sizeOf 46 = .ok (.if_icmp .ne 7, 3) := by decide +kernel
theorem d_M_sizeOf_49 : decode b_M_sizeOf 49 = .ok (.iconst 2, 1) := by decide +kernel
theorem d_M_sizeOf_50 : decode b_M_sizeOf 50 = .ok (.goto 4, 3) := by decide +kernel
theorem d_M_sizeOf_53 : decode b_M_sizeOf 53 = .ok (.iconst 1, 1) := by decide +kernel
theorem d_M_sizeOf_54 : decode b_M_sizeOf 54 = .ok (.ireturn, 1) := by decide +kernel
set_option maxRecDepth 20000 in
set_option maxHeartbeats 4000000 in
theorem c_M_sizeOf {D : va_G} {cI cZ cJ : ClassId} {am : Nat → Nat} {mp : Nat} {th : Nat} {cr : Bool} {fd : Nat} {fo : Nat → Int32} {n : Nat} {lo : Nat → Int32} {np : Nat} {ps : Nat → Int32} {pb : Nat → Int32} {ip : Nat → Int32} {nb : Nat} {fr : Nat → Int32} {ln : Nat → Int32} {tr : Nat → Int32} {nv : Nat} {ct : Nat → Int32} {rw : Nat → Int32} {dr : Nat → Int32} {en : Nat} {sw : Nat} {rest : va_W} {lg : Nat → Nat} {p : Nat} (hRl : lg_R lo n lg) (hp : p < n) : bC D bcl (tys3 cI cZ cJ) y_M_sizeOf ({ frames := 0, cells := 0, slots := 0, locals := 0 }) (wM am cI cZ mp th cr fd fo n lo np ps pb ip nb fr ln tr nv ct rw dr en sw rest) [.ref (am 0), .int (nI (p))] (bI (fun x ws9 => x = nI (szM lg n p) ∧ ws9 = wM am cI cZ mp th cr fd fo n lo np ps pb ip nb fr ln tr nv ct rw dr en sw rest) bno) := by
  have h4 := hRl.1
  refine bC.of (by decide) m_M_sizeOf.1 (Nat.le_of_ble_eq_true rfl) ?_
  intro Γ G E0
  show bV D bcl Γ 3 (wM am cI cZ mp th cr fd fo n lo np ps pb ip nb fr ln tr nv ct rw dr en sw rest) 0 0 0 [(0, .ref (am 0)), (1, .int (nI (p)))] []
  refine bV.aload_n G d_M_sizeOf_0 rfl ?_
  refine bV.getf G cl_M 0 6 rfl (by decide) bw_551 rfl d_M_sizeOf_1 ?_
  refine bV.iload_n G d_M_sizeOf_4 rfl ?_
  refine bV.ialoadN G 2 0 rfl rfl (by omega) (by omega) d_M_sizeOf_5 ?_
  refine bV.topi (y := (nI (lg p))) (hRl.2.1 _ (by omega)) ?_
  refine bV.istore_n G (lv' := [(0, .ref (am 0)), (1, .int (nI (p))), (2, .int (nI (lg p)))]) d_M_sizeOf_6 (by decide) rfl rfl ?_
  have hv0 : lg p < 256 := hRl.2.2 _ hp
  refine bV.iload_n G d_M_sizeOf_7 rfl ?_
  refine bV.iconst (v := nI 1) G d_M_sizeOf_8 (by decide) ?_
  refine bV.icmp_neN (tgt := 39) G d_M_sizeOf_9 (by decide) (by omega) (by omega) (fun c9 => ?_) (fun c9 => ?_)
  · refine bV.iload_n G d_M_sizeOf_39 rfl ?_
    refine bV.iconst (v := nI 2) G d_M_sizeOf_40 (by decide) ?_
    refine bV.icmp_eqN (tgt := 49) G d_M_sizeOf_41 (by decide) (by omega) (by omega) (fun c41 => ?_) (fun c41 => ?_)
    · refine bV.iconst (v := nI 2) G d_M_sizeOf_49 (by decide) ?_
      refine bV.goto (tgt := 54) G d_M_sizeOf_50 (by decide) ?_
      exact bV.iretI G E0 rfl rfl (by decide) (by decide) d_M_sizeOf_54 ⟨by unfold szM; first | rw [if_pos (by omega), if_pos (by omega)] | rw [if_pos (by omega), if_neg (by omega)] | rw [if_neg (by omega), if_pos (by omega)] | rw [if_neg (by omega), if_neg (by omega)], rfl⟩
    · refine bV.iload_n G d_M_sizeOf_44 rfl ?_
      refine bV.iconst (v := nI 4) G d_M_sizeOf_45 (by decide) ?_
      refine bV.icmp_neN (tgt := 53) G d_M_sizeOf_46 (by decide) (by omega) (by omega) (fun c46 => ?_) (fun c46 => ?_)
      · refine bV.iconst (v := nI 1) G d_M_sizeOf_53 (by decide) ?_
        exact bV.iretI G E0 rfl rfl (by decide) (by decide) d_M_sizeOf_54 ⟨by unfold szM; first | rw [if_pos (by omega), if_pos (by omega)] | rw [if_pos (by omega), if_neg (by omega)] | rw [if_neg (by omega), if_pos (by omega)] | rw [if_neg (by omega), if_neg (by omega)], rfl⟩
      · refine bV.iconst (v := nI 2) G d_M_sizeOf_49 (by decide) ?_
        refine bV.goto (tgt := 54) G d_M_sizeOf_50 (by decide) ?_
        exact bV.iretI G E0 rfl rfl (by decide) (by decide) d_M_sizeOf_54 ⟨by unfold szM; first | rw [if_pos (by omega), if_pos (by omega)] | rw [if_pos (by omega), if_neg (by omega)] | rw [if_neg (by omega), if_pos (by omega)] | rw [if_neg (by omega), if_neg (by omega)], rfl⟩
  · refine bV.iload_n G d_M_sizeOf_12 rfl ?_
    refine bV.iconst (v := nI 1) G d_M_sizeOf_13 (by decide) ?_
    refine bV.iaddN G d_M_sizeOf_14 ?_
    refine bV.aload_n G d_M_sizeOf_15 rfl ?_
    refine bV.getf G cl_M 0 5 rfl (by decide) bw_550 rfl d_M_sizeOf_16 ?_
    refine bV.icmp_geN (tgt := 35) G d_M_sizeOf_19 (by decide) (by omega) (by omega) (fun c19 => ?_) (fun c19 => ?_)
    · refine bV.iconst (v := nI 2) G d_M_sizeOf_35 (by decide) ?_
      refine bV.goto (tgt := 54) G d_M_sizeOf_36 (by decide) ?_
      exact bV.iretI G E0 rfl rfl (by decide) (by decide) d_M_sizeOf_54 ⟨by unfold szM; first | rw [if_pos (by omega), if_pos (by omega)] | rw [if_pos (by omega), if_neg (by omega)] | rw [if_neg (by omega), if_pos (by omega)] | rw [if_neg (by omega), if_neg (by omega)], rfl⟩
    · refine bV.iconst (v := nI 2) G d_M_sizeOf_22 (by decide) ?_
      refine bV.aload_n G d_M_sizeOf_23 rfl ?_
      refine bV.getf G cl_M 0 6 rfl (by decide) bw_551 rfl d_M_sizeOf_24 ?_
      refine bV.iload_n G d_M_sizeOf_27 rfl ?_
      refine bV.iconst (v := nI 1) G d_M_sizeOf_28 (by decide) ?_
      refine bV.iaddN G d_M_sizeOf_29 ?_
      refine bV.ialoadN G 2 0 rfl rfl (by omega) (by omega) d_M_sizeOf_30 ?_
      refine bV.topi (y := (nI (lg (p + 1)))) (hRl.2.1 _ (by omega)) ?_
      have hv1 : lg (p + 1) < 256 := hRl.2.2 _ (by omega)
      refine bV.iaddN G d_M_sizeOf_31 ?_
      refine bV.goto (tgt := 54) G d_M_sizeOf_32 (by decide) ?_
      exact bV.iretI G E0 rfl rfl (by decide) (by decide) d_M_sizeOf_54 ⟨by unfold szM; first | rw [if_pos (by omega), if_pos (by omega)] | rw [if_pos (by omega), if_neg (by omega)] | rw [if_neg (by omega), if_pos (by omega)] | rw [if_neg (by omega), if_neg (by omega)], rfl⟩
