/-! ===== the law: one call of a script ===== -/
theorem ob_feed {A A' : aA} {v : Int32} {x : Int32} (h : OP_feed A v x A') : ∃ b : Bool, x = bB b := by rcases h.2 with z | z <;> exact ⟨_, z.2.1⟩
theorem ob_holds {A A' : aA} {v : Int32} {u : Int32} {x : Int32} (h : OP_holds A v u x A') : ∃ b : Bool, x = bB b := by exact ⟨_, h.2.2.1⟩
theorem ob_crash {A A' : aA} {v : Int32} {x : Int32} (h : OP_crash A v x A') : ∃ b : Bool, x = bB b := by exact ⟨_, h.2.2.1⟩
theorem ob_poke {A A' : aA} {v : Int32} {u : Int32} {mm : Int32} {x : Int32} (h : OP_poke A v u mm x A') : ∃ b : Bool, x = bB b := by exact ⟨_, h.2.2.1⟩
theorem ob_drop {A A' : aA} {v : Int32} {x : Int32} (h : OP_drop A v x A') : ∃ b : Bool, x = bB b := by rcases h.2.2 with z | z <;> exact ⟨_, z.2.1⟩
set_option maxRecDepth 20000 in
set_option maxHeartbeats 4000000 in
theorem lc_feed {D : va_G} {cI cZ cJ : ClassId} {Γ : bCtx} {ret0 : Option FieldType} {nm : String} {tb : bTb} {ad am : Nat → Nat} {ao mp : Nat} {lf : Nat → Int32} {Pb : pc_C} {gt gp gh : Nat → Int32} {Pv : pc_C} {gd : Nat → Int32} {Pq : pc_C} {A : aA} {of : Nat → Int64} {th : Nat} {fo lo ps pb ip : Nat → Int32} {nb nv en sw : Nat} {fr ln tr ct rw dr : Nat → Int32} {b L i k n : Nat} {xs : Nat → Int32} (G : bG D bcl (tys3 cI cZ cJ) Γ "BoardStoreLaw" code 7 ret0 nm tb room_1) (hX : bSX Γ b L xs) (hA : AI mp A) (hC : CL mp A lf Pb gt gp gh Pv gd Pq) (hM : MO A fo lo ps pb ip) (hi : i + 4 ≤ L) (hL : L ≤ 2049) (hk : k + 3 ≤ 601024) (hn : n + 18 ≤ 7293000) (cont : ∀ (A : aA) (lf : Nat → Int32) (Pb : pc_C) (gt gp gh : Nat → Int32) (Pv : pc_C) (gd : Nat → Int32) (Pq : pc_C) (of : Nat → Int64) (th : Nat) (fo lo ps pb ip : Nat → Int32) (nb nv en sw : Nat) (fr ln tr ct rw dr : Nat → Int32), AI mp A → CL mp A lf Pb gt gp gh Pv gd Pq → MO A fo lo ps pb ip → bV D bcl Γ 7 (wS ad cI cZ mp lf (aN A) Pb gt gp gh Pv gd Pq (aCr A) ((ao, .inl (cJ, 1, .inr (.inl of))) :: wM am cI cZ mp th (aCr A) (aFd A) fo (aN A) lo (aNp A) ps pb ip nb fr ln tr nv ct rw dr en sw [])) (k + 3) (n + 18) 1071 [(0, .ref b), (1, .ref (ad 0)), (2, .ref (am 0)), (3, .ref ao), (4, .int (nI (i)))] []) : bV D bcl Γ 7 (wS ad cI cZ mp lf (aN A) Pb gt gp gh Pv gd Pq (aCr A) ((ao, .inl (cJ, 1, .inr (.inl of))) :: wM am cI cZ mp th (aCr A) (aFd A) fo (aN A) lo (aNp A) ps pb ip nb fr ln tr nv ct rw dr en sw [])) k n 128 [(0, .ref b), (1, .ref (ad 0)), (2, .ref (am 0)), (3, .ref ao), (4, .int (nI (i)))] [] := by
  refine bV.aload_n G d_law_128 rfl ?_
  refine bV.aload_n G d_law_129 rfl ?_
  refine bV.iload G d_law_130 rfl ?_
  refine bV.iconst (v := nI 1) G d_law_132 (by decide) ?_
  refine bV.iaddN G d_law_133 ?_
  refine bV.sld G hX (vp_in_nI (by omega) (by omega)) d_law_134 ?_
  refine bV.aload_n G d_law_135 rfl ?_
  refine bV.callSi G m_W_feed bw_105 bw_104 (h_feed hA hC (v := (xs (nI (i + 1)).toNatClampNeg)) ) rfl rfl ⟨by decide, by decide⟩ ⟨by show k + 1 ≤ 601024; omega, by show n + 6 ≤ 7293000; omega⟩ (Nat.le_of_ble_eq_true rfl) d_law_136 (fun x9 ws9 h9 => ?_)
  obtain ⟨k9, A1, lf1, Pb1, gt1, gp1, gh1, Pv1, gd1, Pq1, of1, rfl, hk9, hHK, hA1, hC1, h9e⟩ := h9
  rw [h9e]
  refine bV.istore G (lv' := [(0, .ref b), (1, .ref (ad 0)), (2, .ref (am 0)), (3, .ref ao), (4, .int (nI (i))), (5, .int (nI (k9)))]) d_law_139 (by decide) rfl rfl ?_
  refine bV.aload_n G d_law_141 rfl ?_
  refine bV.aload_n G d_law_142 rfl ?_
  refine bV.iload G d_law_143 rfl ?_
  refine bV.iconst (v := nI 1) G d_law_145 (by decide) ?_
  refine bV.iaddN G d_law_146 ?_
  refine bV.sld G hX (vp_in_nI (by omega) (by omega)) d_law_147 ?_
  refine bV.perm (ws' := (wM am cI cZ mp th (aCr A) (aFd A) fo (aN A) lo (aNp A) ps pb ip nb fr ln tr nv ct rw dr en sw (wS ad cI cZ mp lf1 (aN A1) Pb1 gt1 gp1 gh1 Pv1 gd1 Pq1 (aCr A1) [(ao, .inl (cJ, 1, .inr (.inl of1)))]))) [21, 22, 23, 24, 25, 26, 27, 28, 29, 30, 31, 32, 0, 1, 2, 3, 4, 5, 6, 7, 8, 9, 10, 11, 12, 13, 14, 15, 16, 17, 18, 19, 20] (by decide) rfl ?_
  refine bV.callVi G m_M_feed bw_614 bw_615 bw_613 (r_feed hA hM (v := (xs (nI (i + 1)).toNatClampNeg)) ) 0 rfl rfl rfl rfl rfl ⟨by decide, by decide⟩ ⟨by show k + 1 + 0 ≤ 601024; omega, by show n + 6 + 0 ≤ 7293000; omega⟩ (Nat.le_of_ble_eq_true rfl) d_law_148 (fun x8 ws8 h8 => ?_)
  obtain ⟨A2, th1, fo1, lo1, ps1, pb1, ip1, nb1, nv1, en1, sw1, fr1, ln1, tr1, ct1, rw1, dr1, hHM, hM1, h8e⟩ := h8
  rw [h8e]
  obtain ⟨rfl, rfl, hv9⟩ := u_feed (ov := of1 0) hHK hHM
  refine bV.istore G (lv' := [(0, .ref b), (1, .ref (ad 0)), (2, .ref (am 0)), (3, .ref ao), (4, .int (nI (i))), (5, .int (nI (k9))), (6, .int (x8))]) d_law_151 (by decide) rfl rfl ?_
  refine bV.aload_n G d_law_153 rfl ?_
  refine bV.callVi G m_M_thrown bw_610 bw_611 bw_609 c_M_thrown 0 rfl rfl rfl rfl rfl ⟨by decide, by decide⟩ ⟨by show k + 1 + 0 + 0 ≤ 601024; omega, by show n + 6 + 0 + 0 ≤ 7293000; omega⟩ (Nat.le_of_ble_eq_true rfl) d_law_154 (fun x7 ws7 h7 => ?_)
  obtain ⟨rfl, h7e⟩ := h7
  rw [h7e]
  refine bV.iload G d_law_157 rfl ?_
  refine bV.icmp_eqN (tgt := 164) G d_law_159 (by decide) (by omega) (by omega) (fun _ => ?_) (fun c => absurd rfl c)
  refine bV.iload G d_law_164 rfl ?_
  refine bV.if_neN (tgt := 188) G d_law_166 (by decide) (by omega) (fun c0 => ?_) (fun c0 => ?_)
  · refine bV.goto (tgt := 1071) G d_law_188 (by decide) ?_
    refine bV.perm (ws' := (wS ad cI cZ mp lf1 (aN A1) Pb1 gt1 gp1 gh1 Pv1 gd1 Pq1 (aCr A1) ((ao, .inl (cJ, 1, .inr (.inl of1))) :: wM am cI cZ mp k9 (aCr A1) (aFd A1) fo1 (aN A1) lo1 (aNp A1) ps1 pb1 ip1 nb1 fr1 ln1 tr1 nv1 ct1 rw1 dr1 en1 sw1 []))) [12, 13, 14, 15, 16, 17, 18, 19, 20, 21, 22, 23, 24, 25, 26, 27, 28, 29, 30, 31, 32, 0, 1, 2, 3, 4, 5, 6, 7, 8, 9, 10, 11] (by decide) rfl ?_
    refine bV.ltake (lv' := [(0, .ref b), (1, .ref (ad 0)), (2, .ref (am 0)), (3, .ref ao), (4, .int (nI (i)))]) (ex := [(5, .int (nI (k9))), (6, .int (x8))]) rfl ?_
    refine bV.widen (k' := k + 3) (n' := n + 18) (by show k + 1 + 0 + 0 ≤ k + 3; omega) (by show n + 6 + 0 + 0 ≤ n + 18; omega) ?_
    exact cont A1 lf1 Pb1 gt1 gp1 gh1 Pv1 gd1 Pq1 of1 k9 fo1 lo1 ps1 pb1 ip1 nb1 nv1 en1 sw1 fr1 ln1 tr1 ct1 rw1 dr1 hA1 hC1 hM1
  · refine bV.aload_n G d_law_169 rfl ?_
    refine bV.iconst (v := nI 0) G d_law_170 (by decide) ?_
    refine bV.laload G 32 2 rfl rfl (vp_in_nI (by decide) (by decide)) d_law_171 ?_
    refine bV.iload G d_law_172 rfl ?_
    refine bV.if_eq (tgt := 181) G d_law_174 (by decide) (fun c6 => ?_) (fun c6 => ?_)
    · refine bV.lconst (v := 0) G d_law_181 (by decide) ?_
      refine bV.lcmp G d_law_182 ?_
      refine bV.topi (y := 0) (lg_cmp_self (by rw [nI_clamp (by decide), hv9 c0, c6]; rfl)) ?_
      refine bV.if_eq (tgt := 188) G d_law_183 (by decide) (fun _ => ?_) (fun c => absurd rfl c)
      refine bV.goto (tgt := 1071) G d_law_188 (by decide) ?_
      refine bV.perm (ws' := (wS ad cI cZ mp lf1 (aN A1) Pb1 gt1 gp1 gh1 Pv1 gd1 Pq1 (aCr A1) ((ao, .inl (cJ, 1, .inr (.inl of1))) :: wM am cI cZ mp k9 (aCr A1) (aFd A1) fo1 (aN A1) lo1 (aNp A1) ps1 pb1 ip1 nb1 fr1 ln1 tr1 nv1 ct1 rw1 dr1 en1 sw1 []))) [12, 13, 14, 15, 16, 17, 18, 19, 20, 21, 22, 23, 24, 25, 26, 27, 28, 29, 30, 31, 32, 0, 1, 2, 3, 4, 5, 6, 7, 8, 9, 10, 11] (by decide) rfl ?_
      refine bV.ltake (lv' := [(0, .ref b), (1, .ref (ad 0)), (2, .ref (am 0)), (3, .ref ao), (4, .int (nI (i)))]) (ex := [(5, .int (nI (k9))), (6, .int (x8))]) rfl ?_
      refine bV.widen (k' := k + 3) (n' := n + 18) (by show k + 1 + 0 + 0 ≤ k + 3; omega) (by show n + 6 + 0 + 0 ≤ n + 18; omega) ?_
      exact cont A1 lf1 Pb1 gt1 gp1 gh1 Pv1 gd1 Pq1 of1 k9 fo1 lo1 ps1 pb1 ip1 nb1 nv1 en1 sw1 fr1 ln1 tr1 ct1 rw1 dr1 hA1 hC1 hM1
    · obtain ⟨b9, hb9⟩ := ob_feed (hHM.elim (fun z => z.2) (fun z => absurd c0 z.1))
      refine bV.lconst (v := 1) G d_law_177 (by decide) ?_
      refine bV.goto (tgt := 182) G d_law_178 (by decide) ?_
      refine bV.lcmp G d_law_182 ?_
      refine bV.topi (y := 0) (lg_cmp_self (by rw [nI_clamp (by decide), hv9 c0, hb9]; cases b9; exact absurd hb9 c6; rfl)) ?_
      refine bV.if_eq (tgt := 188) G d_law_183 (by decide) (fun _ => ?_) (fun c => absurd rfl c)
      refine bV.goto (tgt := 1071) G d_law_188 (by decide) ?_
      refine bV.perm (ws' := (wS ad cI cZ mp lf1 (aN A1) Pb1 gt1 gp1 gh1 Pv1 gd1 Pq1 (aCr A1) ((ao, .inl (cJ, 1, .inr (.inl of1))) :: wM am cI cZ mp k9 (aCr A1) (aFd A1) fo1 (aN A1) lo1 (aNp A1) ps1 pb1 ip1 nb1 fr1 ln1 tr1 nv1 ct1 rw1 dr1 en1 sw1 []))) [12, 13, 14, 15, 16, 17, 18, 19, 20, 21, 22, 23, 24, 25, 26, 27, 28, 29, 30, 31, 32, 0, 1, 2, 3, 4, 5, 6, 7, 8, 9, 10, 11] (by decide) rfl ?_
      refine bV.ltake (lv' := [(0, .ref b), (1, .ref (ad 0)), (2, .ref (am 0)), (3, .ref ao), (4, .int (nI (i)))]) (ex := [(5, .int (nI (k9))), (6, .int (x8))]) rfl ?_
      refine bV.widen (k' := k + 3) (n' := n + 18) (by show k + 1 + 0 + 0 ≤ k + 3; omega) (by show n + 6 + 0 + 0 ≤ n + 18; omega) ?_
      exact cont A1 lf1 Pb1 gt1 gp1 gh1 Pv1 gd1 Pq1 of1 k9 fo1 lo1 ps1 pb1 ip1 nb1 nv1 en1 sw1 fr1 ln1 tr1 ct1 rw1 dr1 hA1 hC1 hM1
set_option maxRecDepth 20000 in
set_option maxHeartbeats 4000000 in
theorem lc_block {D : va_G} {cI cZ cJ : ClassId} {Γ : bCtx} {ret0 : Option FieldType} {nm : String} {tb : bTb} {ad am : Nat → Nat} {ao mp : Nat} {lf : Nat → Int32} {Pb : pc_C} {gt gp gh : Nat → Int32} {Pv : pc_C} {gd : Nat → Int32} {Pq : pc_C} {A : aA} {of : Nat → Int64} {th : Nat} {fo lo ps pb ip : Nat → Int32} {nb nv en sw : Nat} {fr ln tr ct rw dr : Nat → Int32} {b L i k n : Nat} {xs : Nat → Int32} (G : bG D bcl (tys3 cI cZ cJ) Γ "BoardStoreLaw" code 7 ret0 nm tb room_1) (hX : bSX Γ b L xs) (hA : AI mp A) (hC : CL mp A lf Pb gt gp gh Pv gd Pq) (hM : MO A fo lo ps pb ip) (hi : i + 4 ≤ L) (hL : L ≤ 2049) (hk : k + 3 ≤ 601024) (hn : n + 18 ≤ 7293000) (cont : ∀ (A : aA) (lf : Nat → Int32) (Pb : pc_C) (gt gp gh : Nat → Int32) (Pv : pc_C) (gd : Nat → Int32) (Pq : pc_C) (of : Nat → Int64) (th : Nat) (fo lo ps pb ip : Nat → Int32) (nb nv en sw : Nat) (fr ln tr ct rw dr : Nat → Int32), AI mp A → CL mp A lf Pb gt gp gh Pv gd Pq → MO A fo lo ps pb ip → bV D bcl Γ 7 (wS ad cI cZ mp lf (aN A) Pb gt gp gh Pv gd Pq (aCr A) ((ao, .inl (cJ, 1, .inr (.inl of))) :: wM am cI cZ mp th (aCr A) (aFd A) fo (aN A) lo (aNp A) ps pb ip nb fr ln tr nv ct rw dr en sw [])) (k + 3) (n + 18) 1071 [(0, .ref b), (1, .ref (ad 0)), (2, .ref (am 0)), (3, .ref ao), (4, .int (nI (i)))] []) : bV D bcl Γ 7 (wS ad cI cZ mp lf (aN A) Pb gt gp gh Pv gd Pq (aCr A) ((ao, .inl (cJ, 1, .inr (.inl of))) :: wM am cI cZ mp th (aCr A) (aFd A) fo (aN A) lo (aNp A) ps pb ip nb fr ln tr nv ct rw dr en sw [])) k n 191 [(0, .ref b), (1, .ref (ad 0)), (2, .ref (am 0)), (3, .ref ao), (4, .int (nI (i)))] [] := by
  refine bV.aload_n G d_law_191 rfl ?_
  refine bV.aload_n G d_law_192 rfl ?_
  refine bV.callSi G m_W_block bw_197 bw_196 (h_block hA hC  ) rfl rfl ⟨by decide, by decide⟩ ⟨by show k + 1 ≤ 601024; omega, by show n + 6 ≤ 7293000; omega⟩ (Nat.le_of_ble_eq_true rfl) d_law_193 (fun x9 ws9 h9 => ?_)
  obtain ⟨k9, A1, lf1, Pb1, gt1, gp1, gh1, Pv1, gd1, Pq1, of1, rfl, hk9, hHK, hA1, hC1, h9e⟩ := h9
  rw [h9e]
  refine bV.istore G (lv' := [(0, .ref b), (1, .ref (ad 0)), (2, .ref (am 0)), (3, .ref ao), (4, .int (nI (i))), (5, .int (nI (k9)))]) d_law_196 (by decide) rfl rfl ?_
  refine bV.aload_n G d_law_198 rfl ?_
  refine bV.perm (ws' := (wM am cI cZ mp th (aCr A) (aFd A) fo (aN A) lo (aNp A) ps pb ip nb fr ln tr nv ct rw dr en sw (wS ad cI cZ mp lf1 (aN A1) Pb1 gt1 gp1 gh1 Pv1 gd1 Pq1 (aCr A1) [(ao, .inl (cJ, 1, .inr (.inl of1)))]))) [21, 22, 23, 24, 25, 26, 27, 28, 29, 30, 31, 32, 0, 1, 2, 3, 4, 5, 6, 7, 8, 9, 10, 11, 12, 13, 14, 15, 16, 17, 18, 19, 20] (by decide) rfl ?_
  refine bV.callVi G m_M_block bw_649 bw_650 bw_648 (r_block hA hM  ) 0 rfl rfl rfl rfl rfl ⟨by decide, by decide⟩ ⟨by show k + 1 + 0 ≤ 601024; omega, by show n + 6 + 0 ≤ 7293000; omega⟩ (Nat.le_of_ble_eq_true rfl) d_law_199 (fun x8 ws8 h8 => ?_)
  obtain ⟨A2, th1, fo1, lo1, ps1, pb1, ip1, nb1, nv1, en1, sw1, fr1, ln1, tr1, ct1, rw1, dr1, hHM, hM1, h8e⟩ := h8
  rw [h8e]
  obtain ⟨rfl, rfl, hv9⟩ := u_block (ov := of1 0) hHK hHM
  refine bV.istore G (lv' := [(0, .ref b), (1, .ref (ad 0)), (2, .ref (am 0)), (3, .ref ao), (4, .int (nI (i))), (5, .int (nI (k9))), (6, .int (x8))]) d_law_202 (by decide) rfl rfl ?_
  refine bV.aload_n G d_law_204 rfl ?_
  refine bV.callVi G m_M_thrown bw_610 bw_611 bw_609 c_M_thrown 0 rfl rfl rfl rfl rfl ⟨by decide, by decide⟩ ⟨by show k + 1 + 0 + 0 ≤ 601024; omega, by show n + 6 + 0 + 0 ≤ 7293000; omega⟩ (Nat.le_of_ble_eq_true rfl) d_law_205 (fun x7 ws7 h7 => ?_)
  obtain ⟨rfl, h7e⟩ := h7
  rw [h7e]
  refine bV.iload G d_law_208 rfl ?_
  refine bV.icmp_eqN (tgt := 215) G d_law_210 (by decide) (by omega) (by omega) (fun _ => ?_) (fun c => absurd rfl c)
  refine bV.iload G d_law_215 rfl ?_
  refine bV.if_neN (tgt := 232) G d_law_217 (by decide) (by omega) (fun c0 => ?_) (fun c0 => ?_)
  · refine bV.goto (tgt := 1071) G d_law_232 (by decide) ?_
    refine bV.perm (ws' := (wS ad cI cZ mp lf1 (aN A1) Pb1 gt1 gp1 gh1 Pv1 gd1 Pq1 (aCr A1) ((ao, .inl (cJ, 1, .inr (.inl of1))) :: wM am cI cZ mp k9 (aCr A1) (aFd A1) fo1 (aN A1) lo1 (aNp A1) ps1 pb1 ip1 nb1 fr1 ln1 tr1 nv1 ct1 rw1 dr1 en1 sw1 []))) [12, 13, 14, 15, 16, 17, 18, 19, 20, 21, 22, 23, 24, 25, 26, 27, 28, 29, 30, 31, 32, 0, 1, 2, 3, 4, 5, 6, 7, 8, 9, 10, 11] (by decide) rfl ?_
    refine bV.ltake (lv' := [(0, .ref b), (1, .ref (ad 0)), (2, .ref (am 0)), (3, .ref ao), (4, .int (nI (i)))]) (ex := [(5, .int (nI (k9))), (6, .int (x8))]) rfl ?_
    refine bV.widen (k' := k + 3) (n' := n + 18) (by show k + 1 + 0 + 0 ≤ k + 3; omega) (by show n + 6 + 0 + 0 ≤ n + 18; omega) ?_
    exact cont A1 lf1 Pb1 gt1 gp1 gh1 Pv1 gd1 Pq1 of1 k9 fo1 lo1 ps1 pb1 ip1 nb1 nv1 en1 sw1 fr1 ln1 tr1 ct1 rw1 dr1 hA1 hC1 hM1
  · refine bV.aload_n G d_law_220 rfl ?_
    refine bV.iconst (v := nI 0) G d_law_221 (by decide) ?_
    refine bV.laload G 32 2 rfl rfl (vp_in_nI (by decide) (by decide)) d_law_222 ?_
    refine bV.iload G d_law_223 rfl ?_
    refine bV.i2l G d_law_225 ?_
    refine bV.lcmp G d_law_226 ?_
    refine bV.topi (y := 0) (lg_cmp_self (by rw [nI_clamp (by decide)]; exact hv9 c0)) ?_
    refine bV.if_eq (tgt := 232) G d_law_227 (by decide) (fun _ => ?_) (fun c => absurd rfl c)
    refine bV.goto (tgt := 1071) G d_law_232 (by decide) ?_
    refine bV.perm (ws' := (wS ad cI cZ mp lf1 (aN A1) Pb1 gt1 gp1 gh1 Pv1 gd1 Pq1 (aCr A1) ((ao, .inl (cJ, 1, .inr (.inl of1))) :: wM am cI cZ mp k9 (aCr A1) (aFd A1) fo1 (aN A1) lo1 (aNp A1) ps1 pb1 ip1 nb1 fr1 ln1 tr1 nv1 ct1 rw1 dr1 en1 sw1 []))) [12, 13, 14, 15, 16, 17, 18, 19, 20, 21, 22, 23, 24, 25, 26, 27, 28, 29, 30, 31, 32, 0, 1, 2, 3, 4, 5, 6, 7, 8, 9, 10, 11] (by decide) rfl ?_
    refine bV.ltake (lv' := [(0, .ref b), (1, .ref (ad 0)), (2, .ref (am 0)), (3, .ref ao), (4, .int (nI (i)))]) (ex := [(5, .int (nI (k9))), (6, .int (x8))]) rfl ?_
    refine bV.widen (k' := k + 3) (n' := n + 18) (by show k + 1 + 0 + 0 ≤ k + 3; omega) (by show n + 6 + 0 + 0 ≤ n + 18; omega) ?_
    exact cont A1 lf1 Pb1 gt1 gp1 gh1 Pv1 gd1 Pq1 of1 k9 fo1 lo1 ps1 pb1 ip1 nb1 nv1 en1 sw1 fr1 ln1 tr1 ct1 rw1 dr1 hA1 hC1 hM1
set_option maxRecDepth 20000 in
set_option maxHeartbeats 4000000 in
theorem lc_version {D : va_G} {cI cZ cJ : ClassId} {Γ : bCtx} {ret0 : Option FieldType} {nm : String} {tb : bTb} {ad am : Nat → Nat} {ao mp : Nat} {lf : Nat → Int32} {Pb : pc_C} {gt gp gh : Nat → Int32} {Pv : pc_C} {gd : Nat → Int32} {Pq : pc_C} {A : aA} {of : Nat → Int64} {th : Nat} {fo lo ps pb ip : Nat → Int32} {nb nv en sw : Nat} {fr ln tr ct rw dr : Nat → Int32} {b L i k n : Nat} {xs : Nat → Int32} (G : bG D bcl (tys3 cI cZ cJ) Γ "BoardStoreLaw" code 7 ret0 nm tb room_1) (hX : bSX Γ b L xs) (hA : AI mp A) (hC : CL mp A lf Pb gt gp gh Pv gd Pq) (hM : MO A fo lo ps pb ip) (hi : i + 4 ≤ L) (hL : L ≤ 2049) (hk : k + 3 ≤ 601024) (hn : n + 18 ≤ 7293000) (cont : ∀ (A : aA) (lf : Nat → Int32) (Pb : pc_C) (gt gp gh : Nat → Int32) (Pv : pc_C) (gd : Nat → Int32) (Pq : pc_C) (of : Nat → Int64) (th : Nat) (fo lo ps pb ip : Nat → Int32) (nb nv en sw : Nat) (fr ln tr ct rw dr : Nat → Int32), AI mp A → CL mp A lf Pb gt gp gh Pv gd Pq → MO A fo lo ps pb ip → bV D bcl Γ 7 (wS ad cI cZ mp lf (aN A) Pb gt gp gh Pv gd Pq (aCr A) ((ao, .inl (cJ, 1, .inr (.inl of))) :: wM am cI cZ mp th (aCr A) (aFd A) fo (aN A) lo (aNp A) ps pb ip nb fr ln tr nv ct rw dr en sw [])) (k + 3) (n + 18) 1071 [(0, .ref b), (1, .ref (ad 0)), (2, .ref (am 0)), (3, .ref ao), (4, .int (nI (i)))] []) : bV D bcl Γ 7 (wS ad cI cZ mp lf (aN A) Pb gt gp gh Pv gd Pq (aCr A) ((ao, .inl (cJ, 1, .inr (.inl of))) :: wM am cI cZ mp th (aCr A) (aFd A) fo (aN A) lo (aNp A) ps pb ip nb fr ln tr nv ct rw dr en sw [])) k n 235 [(0, .ref b), (1, .ref (ad 0)), (2, .ref (am 0)), (3, .ref ao), (4, .int (nI (i)))] [] := by
  refine bV.aload_n G d_law_235 rfl ?_
  refine bV.aload_n G d_law_236 rfl ?_
  refine bV.callSi G m_W_version bw_270 bw_269 (h_version hA hC  ) rfl rfl ⟨by decide, by decide⟩ ⟨by show k + 1 ≤ 601024; omega, by show n + 6 ≤ 7293000; omega⟩ (Nat.le_of_ble_eq_true rfl) d_law_237 (fun x9 ws9 h9 => ?_)
  obtain ⟨k9, A1, lf1, Pb1, gt1, gp1, gh1, Pv1, gd1, Pq1, of1, rfl, hk9, hHK, hA1, hC1, h9e⟩ := h9
  rw [h9e]
  refine bV.istore G (lv' := [(0, .ref b), (1, .ref (ad 0)), (2, .ref (am 0)), (3, .ref ao), (4, .int (nI (i))), (5, .int (nI (k9)))]) d_law_240 (by decide) rfl rfl ?_
  refine bV.aload_n G d_law_242 rfl ?_
  refine bV.perm (ws' := (wM am cI cZ mp th (aCr A) (aFd A) fo (aN A) lo (aNp A) ps pb ip nb fr ln tr nv ct rw dr en sw (wS ad cI cZ mp lf1 (aN A1) Pb1 gt1 gp1 gh1 Pv1 gd1 Pq1 (aCr A1) [(ao, .inl (cJ, 1, .inr (.inl of1)))]))) [21, 22, 23, 24, 25, 26, 27, 28, 29, 30, 31, 32, 0, 1, 2, 3, 4, 5, 6, 7, 8, 9, 10, 11, 12, 13, 14, 15, 16, 17, 18, 19, 20] (by decide) rfl ?_
  refine bV.callVi G m_M_version bw_661 bw_662 bw_660 (r_version hA hM  ) 0 rfl rfl rfl rfl rfl ⟨by decide, by decide⟩ ⟨by show k + 1 + 0 ≤ 601024; omega, by show n + 6 + 0 ≤ 7293000; omega⟩ (Nat.le_of_ble_eq_true rfl) d_law_243 (fun x8 ws8 h8 => ?_)
  obtain ⟨A2, th1, fo1, lo1, ps1, pb1, ip1, nb1, nv1, en1, sw1, fr1, ln1, tr1, ct1, rw1, dr1, hHM, hM1, h8e⟩ := h8
  rw [h8e]
  obtain ⟨rfl, rfl, hv9⟩ := u_version (ov := of1 0) hHK hHM
  refine bV.istore G (lv' := [(0, .ref b), (1, .ref (ad 0)), (2, .ref (am 0)), (3, .ref ao), (4, .int (nI (i))), (5, .int (nI (k9))), (6, .int (x8))]) d_law_246 (by decide) rfl rfl ?_
  refine bV.aload_n G d_law_248 rfl ?_
  refine bV.callVi G m_M_thrown bw_610 bw_611 bw_609 c_M_thrown 0 rfl rfl rfl rfl rfl ⟨by decide, by decide⟩ ⟨by show k + 1 + 0 + 0 ≤ 601024; omega, by show n + 6 + 0 + 0 ≤ 7293000; omega⟩ (Nat.le_of_ble_eq_true rfl) d_law_249 (fun x7 ws7 h7 => ?_)
  obtain ⟨rfl, h7e⟩ := h7
  rw [h7e]
  refine bV.iload G d_law_252 rfl ?_
  refine bV.icmp_eqN (tgt := 259) G d_law_254 (by decide) (by omega) (by omega) (fun _ => ?_) (fun c => absurd rfl c)
  refine bV.iload G d_law_259 rfl ?_
  refine bV.if_neN (tgt := 276) G d_law_261 (by decide) (by omega) (fun c0 => ?_) (fun c0 => ?_)
  · refine bV.goto (tgt := 1071) G d_law_276 (by decide) ?_
    refine bV.perm (ws' := (wS ad cI cZ mp lf1 (aN A1) Pb1 gt1 gp1 gh1 Pv1 gd1 Pq1 (aCr A1) ((ao, .inl (cJ, 1, .inr (.inl of1))) :: wM am cI cZ mp k9 (aCr A1) (aFd A1) fo1 (aN A1) lo1 (aNp A1) ps1 pb1 ip1 nb1 fr1 ln1 tr1 nv1 ct1 rw1 dr1 en1 sw1 []))) [12, 13, 14, 15, 16, 17, 18, 19, 20, 21, 22, 23, 24, 25, 26, 27, 28, 29, 30, 31, 32, 0, 1, 2, 3, 4, 5, 6, 7, 8, 9, 10, 11] (by decide) rfl ?_
    refine bV.ltake (lv' := [(0, .ref b), (1, .ref (ad 0)), (2, .ref (am 0)), (3, .ref ao), (4, .int (nI (i)))]) (ex := [(5, .int (nI (k9))), (6, .int (x8))]) rfl ?_
    refine bV.widen (k' := k + 3) (n' := n + 18) (by show k + 1 + 0 + 0 ≤ k + 3; omega) (by show n + 6 + 0 + 0 ≤ n + 18; omega) ?_
    exact cont A1 lf1 Pb1 gt1 gp1 gh1 Pv1 gd1 Pq1 of1 k9 fo1 lo1 ps1 pb1 ip1 nb1 nv1 en1 sw1 fr1 ln1 tr1 ct1 rw1 dr1 hA1 hC1 hM1
  · refine bV.aload_n G d_law_264 rfl ?_
    refine bV.iconst (v := nI 0) G d_law_265 (by decide) ?_
    refine bV.laload G 32 2 rfl rfl (vp_in_nI (by decide) (by decide)) d_law_266 ?_
    refine bV.iload G d_law_267 rfl ?_
    refine bV.i2l G d_law_269 ?_
    refine bV.lcmp G d_law_270 ?_
    refine bV.topi (y := 0) (lg_cmp_self (by rw [nI_clamp (by decide)]; exact hv9 c0)) ?_
    refine bV.if_eq (tgt := 276) G d_law_271 (by decide) (fun _ => ?_) (fun c => absurd rfl c)
    refine bV.goto (tgt := 1071) G d_law_276 (by decide) ?_
    refine bV.perm (ws' := (wS ad cI cZ mp lf1 (aN A1) Pb1 gt1 gp1 gh1 Pv1 gd1 Pq1 (aCr A1) ((ao, .inl (cJ, 1, .inr (.inl of1))) :: wM am cI cZ mp k9 (aCr A1) (aFd A1) fo1 (aN A1) lo1 (aNp A1) ps1 pb1 ip1 nb1 fr1 ln1 tr1 nv1 ct1 rw1 dr1 en1 sw1 []))) [12, 13, 14, 15, 16, 17, 18, 19, 20, 21, 22, 23, 24, 25, 26, 27, 28, 29, 30, 31, 32, 0, 1, 2, 3, 4, 5, 6, 7, 8, 9, 10, 11] (by decide) rfl ?_
    refine bV.ltake (lv' := [(0, .ref b), (1, .ref (ad 0)), (2, .ref (am 0)), (3, .ref ao), (4, .int (nI (i)))]) (ex := [(5, .int (nI (k9))), (6, .int (x8))]) rfl ?_
    refine bV.widen (k' := k + 3) (n' := n + 18) (by show k + 1 + 0 + 0 ≤ k + 3; omega) (by show n + 6 + 0 + 0 ≤ n + 18; omega) ?_
    exact cont A1 lf1 Pb1 gt1 gp1 gh1 Pv1 gd1 Pq1 of1 k9 fo1 lo1 ps1 pb1 ip1 nb1 nv1 en1 sw1 fr1 ln1 tr1 ct1 rw1 dr1 hA1 hC1 hM1
set_option maxRecDepth 20000 in
set_option maxHeartbeats 4000000 in
theorem lc_holds {D : va_G} {cI cZ cJ : ClassId} {Γ : bCtx} {ret0 : Option FieldType} {nm : String} {tb : bTb} {ad am : Nat → Nat} {ao mp : Nat} {lf : Nat → Int32} {Pb : pc_C} {gt gp gh : Nat → Int32} {Pv : pc_C} {gd : Nat → Int32} {Pq : pc_C} {A : aA} {of : Nat → Int64} {th : Nat} {fo lo ps pb ip : Nat → Int32} {nb nv en sw : Nat} {fr ln tr ct rw dr : Nat → Int32} {b L i k n : Nat} {xs : Nat → Int32} (G : bG D bcl (tys3 cI cZ cJ) Γ "BoardStoreLaw" code 7 ret0 nm tb room_1) (hX : bSX Γ b L xs) (hA : AI mp A) (hC : CL mp A lf Pb gt gp gh Pv gd Pq) (hM : MO A fo lo ps pb ip) (hi : i + 4 ≤ L) (hL : L ≤ 2049) (hk : k + 3 ≤ 601024) (hn : n + 18 ≤ 7293000) (cont : ∀ (A : aA) (lf : Nat → Int32) (Pb : pc_C) (gt gp gh : Nat → Int32) (Pv : pc_C) (gd : Nat → Int32) (Pq : pc_C) (of : Nat → Int64) (th : Nat) (fo lo ps pb ip : Nat → Int32) (nb nv en sw : Nat) (fr ln tr ct rw dr : Nat → Int32), AI mp A → CL mp A lf Pb gt gp gh Pv gd Pq → MO A fo lo ps pb ip → bV D bcl Γ 7 (wS ad cI cZ mp lf (aN A) Pb gt gp gh Pv gd Pq (aCr A) ((ao, .inl (cJ, 1, .inr (.inl of))) :: wM am cI cZ mp th (aCr A) (aFd A) fo (aN A) lo (aNp A) ps pb ip nb fr ln tr nv ct rw dr en sw [])) (k + 3) (n + 18) 1071 [(0, .ref b), (1, .ref (ad 0)), (2, .ref (am 0)), (3, .ref ao), (4, .int (nI (i)))] []) : bV D bcl Γ 7 (wS ad cI cZ mp lf (aN A) Pb gt gp gh Pv gd Pq (aCr A) ((ao, .inl (cJ, 1, .inr (.inl of))) :: wM am cI cZ mp th (aCr A) (aFd A) fo (aN A) lo (aNp A) ps pb ip nb fr ln tr nv ct rw dr en sw [])) k n 279 [(0, .ref b), (1, .ref (ad 0)), (2, .ref (am 0)), (3, .ref ao), (4, .int (nI (i)))] [] := by
  refine bV.aload_n G d_law_279 rfl ?_
  refine bV.aload_n G d_law_280 rfl ?_
  refine bV.iload G d_law_281 rfl ?_
  refine bV.iconst (v := nI 1) G d_law_283 (by decide) ?_
  refine bV.iaddN G d_law_284 ?_
  refine bV.sld G hX (vp_in_nI (by omega) (by omega)) d_law_285 ?_
  refine bV.aload_n G d_law_286 rfl ?_
  refine bV.iload G d_law_287 rfl ?_
  refine bV.iconst (v := nI 2) G d_law_289 (by decide) ?_
  refine bV.iaddN G d_law_290 ?_
  refine bV.sld G hX (vp_in_nI (by omega) (by omega)) d_law_291 ?_
  refine bV.aload_n G d_law_292 rfl ?_
  refine bV.callSi G m_W_holds bw_277 bw_276 (h_holds hA hC (v := (xs (nI (i + 1)).toNatClampNeg)) (u := (xs (nI (i + 2)).toNatClampNeg)) ) rfl rfl ⟨by decide, by decide⟩ ⟨by show k + 3 ≤ 601024; omega, by show n + 18 ≤ 7293000; omega⟩ (Nat.le_of_ble_eq_true rfl) d_law_293 (fun x9 ws9 h9 => ?_)
  obtain ⟨k9, A1, lf1, Pb1, gt1, gp1, gh1, Pv1, gd1, Pq1, of1, rfl, hk9, hHK, hA1, hC1, h9e⟩ := h9
  rw [h9e]
  refine bV.istore G (lv' := [(0, .ref b), (1, .ref (ad 0)), (2, .ref (am 0)), (3, .ref ao), (4, .int (nI (i))), (5, .int (nI (k9)))]) d_law_296 (by decide) rfl rfl ?_
  refine bV.aload_n G d_law_298 rfl ?_
  refine bV.aload_n G d_law_299 rfl ?_
  refine bV.iload G d_law_300 rfl ?_
  refine bV.iconst (v := nI 1) G d_law_302 (by decide) ?_
  refine bV.iaddN G d_law_303 ?_
  refine bV.sld G hX (vp_in_nI (by omega) (by omega)) d_law_304 ?_
  refine bV.aload_n G d_law_305 rfl ?_
  refine bV.iload G d_law_306 rfl ?_
  refine bV.iconst (v := nI 2) G d_law_308 (by decide) ?_
  refine bV.iaddN G d_law_309 ?_
  refine bV.sld G hX (vp_in_nI (by omega) (by omega)) d_law_310 ?_
  refine bV.perm (ws' := (wM am cI cZ mp th (aCr A) (aFd A) fo (aN A) lo (aNp A) ps pb ip nb fr ln tr nv ct rw dr en sw (wS ad cI cZ mp lf1 (aN A1) Pb1 gt1 gp1 gh1 Pv1 gd1 Pq1 (aCr A1) [(ao, .inl (cJ, 1, .inr (.inl of1)))]))) [21, 22, 23, 24, 25, 26, 27, 28, 29, 30, 31, 32, 0, 1, 2, 3, 4, 5, 6, 7, 8, 9, 10, 11, 12, 13, 14, 15, 16, 17, 18, 19, 20] (by decide) rfl ?_
  refine bV.callVi G m_M_holds bw_677 bw_678 bw_676 (r_holds hA hM (v := (xs (nI (i + 1)).toNatClampNeg)) (u := (xs (nI (i + 2)).toNatClampNeg)) ) 0 rfl rfl rfl rfl rfl ⟨by decide, by decide⟩ ⟨by show k + 3 + 0 ≤ 601024; omega, by show n + 18 + 0 ≤ 7293000; omega⟩ (Nat.le_of_ble_eq_true rfl) d_law_311 (fun x8 ws8 h8 => ?_)
  obtain ⟨A2, th1, fo1, lo1, ps1, pb1, ip1, nb1, nv1, en1, sw1, fr1, ln1, tr1, ct1, rw1, dr1, hHM, hM1, h8e⟩ := h8
  rw [h8e]
  obtain ⟨rfl, rfl, hv9⟩ := u_holds (ov := of1 0) hHK hHM
  refine bV.istore G (lv' := [(0, .ref b), (1, .ref (ad 0)), (2, .ref (am 0)), (3, .ref ao), (4, .int (nI (i))), (5, .int (nI (k9))), (6, .int (x8))]) d_law_314 (by decide) rfl rfl ?_
  refine bV.aload_n G d_law_316 rfl ?_
  refine bV.callVi G m_M_thrown bw_610 bw_611 bw_609 c_M_thrown 0 rfl rfl rfl rfl rfl ⟨by decide, by decide⟩ ⟨by show k + 3 + 0 + 0 ≤ 601024; omega, by show n + 18 + 0 + 0 ≤ 7293000; omega⟩ (Nat.le_of_ble_eq_true rfl) d_law_317 (fun x7 ws7 h7 => ?_)
  obtain ⟨rfl, h7e⟩ := h7
  rw [h7e]
  refine bV.iload G d_law_320 rfl ?_
  refine bV.icmp_eqN (tgt := 327) G d_law_322 (by decide) (by omega) (by omega) (fun _ => ?_) (fun c => absurd rfl c)
  refine bV.iload G d_law_327 rfl ?_
  refine bV.if_neN (tgt := 351) G d_law_329 (by decide) (by omega) (fun c0 => ?_) (fun c0 => ?_)
  · refine bV.goto (tgt := 1071) G d_law_351 (by decide) ?_
    refine bV.perm (ws' := (wS ad cI cZ mp lf1 (aN A1) Pb1 gt1 gp1 gh1 Pv1 gd1 Pq1 (aCr A1) ((ao, .inl (cJ, 1, .inr (.inl of1))) :: wM am cI cZ mp k9 (aCr A1) (aFd A1) fo1 (aN A1) lo1 (aNp A1) ps1 pb1 ip1 nb1 fr1 ln1 tr1 nv1 ct1 rw1 dr1 en1 sw1 []))) [12, 13, 14, 15, 16, 17, 18, 19, 20, 21, 22, 23, 24, 25, 26, 27, 28, 29, 30, 31, 32, 0, 1, 2, 3, 4, 5, 6, 7, 8, 9, 10, 11] (by decide) rfl ?_
    refine bV.ltake (lv' := [(0, .ref b), (1, .ref (ad 0)), (2, .ref (am 0)), (3, .ref ao), (4, .int (nI (i)))]) (ex := [(5, .int (nI (k9))), (6, .int (x8))]) rfl ?_
    refine bV.widen (k' := k + 3) (n' := n + 18) (by show k + 3 + 0 + 0 ≤ k + 3; omega) (by show n + 18 + 0 + 0 ≤ n + 18; omega) ?_
    exact cont A1 lf1 Pb1 gt1 gp1 gh1 Pv1 gd1 Pq1 of1 k9 fo1 lo1 ps1 pb1 ip1 nb1 nv1 en1 sw1 fr1 ln1 tr1 ct1 rw1 dr1 hA1 hC1 hM1
  · refine bV.aload_n G d_law_332 rfl ?_
    refine bV.iconst (v := nI 0) G d_law_333 (by decide) ?_
    refine bV.laload G 32 2 rfl rfl (vp_in_nI (by decide) (by decide)) d_law_334 ?_
    refine bV.iload G d_law_335 rfl ?_
    refine bV.if_eq (tgt := 344) G d_law_337 (by decide) (fun c6 => ?_) (fun c6 => ?_)
    · refine bV.lconst (v := 0) G d_law_344 (by decide) ?_
      refine bV.lcmp G d_law_345 ?_
      refine bV.topi (y := 0) (lg_cmp_self (by rw [nI_clamp (by decide), hv9 c0, c6]; rfl)) ?_
      refine bV.if_eq (tgt := 351) G d_law_346 (by decide) (fun _ => ?_) (fun c => absurd rfl c)
      refine bV.goto (tgt := 1071) G d_law_351 (by decide) ?_
      refine bV.perm (ws' := (wS ad cI cZ mp lf1 (aN A1) Pb1 gt1 gp1 gh1 Pv1 gd1 Pq1 (aCr A1) ((ao, .inl (cJ, 1, .inr (.inl of1))) :: wM am cI cZ mp k9 (aCr A1) (aFd A1) fo1 (aN A1) lo1 (aNp A1) ps1 pb1 ip1 nb1 fr1 ln1 tr1 nv1 ct1 rw1 dr1 en1 sw1 []))) [12, 13, 14, 15, 16, 17, 18, 19, 20, 21, 22, 23, 24, 25, 26, 27, 28, 29, 30, 31, 32, 0, 1, 2, 3, 4, 5, 6, 7, 8, 9, 10, 11] (by decide) rfl ?_
      refine bV.ltake (lv' := [(0, .ref b), (1, .ref (ad 0)), (2, .ref (am 0)), (3, .ref ao), (4, .int (nI (i)))]) (ex := [(5, .int (nI (k9))), (6, .int (x8))]) rfl ?_
      refine bV.widen (k' := k + 3) (n' := n + 18) (by show k + 3 + 0 + 0 ≤ k + 3; omega) (by show n + 18 + 0 + 0 ≤ n + 18; omega) ?_
      exact cont A1 lf1 Pb1 gt1 gp1 gh1 Pv1 gd1 Pq1 of1 k9 fo1 lo1 ps1 pb1 ip1 nb1 nv1 en1 sw1 fr1 ln1 tr1 ct1 rw1 dr1 hA1 hC1 hM1
    · obtain ⟨b9, hb9⟩ := ob_holds (hHM.elim (fun z => z.2) (fun z => absurd c0 z.1))
      refine bV.lconst (v := 1) G d_law_340 (by decide) ?_
      refine bV.goto (tgt := 345) G d_law_341 (by decide) ?_
      refine bV.lcmp G d_law_345 ?_
      refine bV.topi (y := 0) (lg_cmp_self (by rw [nI_clamp (by decide), hv9 c0, hb9]; cases b9; exact absurd hb9 c6; rfl)) ?_
      refine bV.if_eq (tgt := 351) G d_law_346 (by decide) (fun _ => ?_) (fun c => absurd rfl c)
      refine bV.goto (tgt := 1071) G d_law_351 (by decide) ?_
      refine bV.perm (ws' := (wS ad cI cZ mp lf1 (aN A1) Pb1 gt1 gp1 gh1 Pv1 gd1 Pq1 (aCr A1) ((ao, .inl (cJ, 1, .inr (.inl of1))) :: wM am cI cZ mp k9 (aCr A1) (aFd A1) fo1 (aN A1) lo1 (aNp A1) ps1 pb1 ip1 nb1 fr1 ln1 tr1 nv1 ct1 rw1 dr1 en1 sw1 []))) [12, 13, 14, 15, 16, 17, 18, 19, 20, 21, 22, 23, 24, 25, 26, 27, 28, 29, 30, 31, 32, 0, 1, 2, 3, 4, 5, 6, 7, 8, 9, 10, 11] (by decide) rfl ?_
      refine bV.ltake (lv' := [(0, .ref b), (1, .ref (ad 0)), (2, .ref (am 0)), (3, .ref ao), (4, .int (nI (i)))]) (ex := [(5, .int (nI (k9))), (6, .int (x8))]) rfl ?_
      refine bV.widen (k' := k + 3) (n' := n + 18) (by show k + 3 + 0 + 0 ≤ k + 3; omega) (by show n + 18 + 0 + 0 ≤ n + 18; omega) ?_
      exact cont A1 lf1 Pb1 gt1 gp1 gh1 Pv1 gd1 Pq1 of1 k9 fo1 lo1 ps1 pb1 ip1 nb1 nv1 en1 sw1 fr1 ln1 tr1 ct1 rw1 dr1 hA1 hC1 hM1
set_option maxRecDepth 20000 in
set_option maxHeartbeats 4000000 in
theorem lc_root {D : va_G} {cI cZ cJ : ClassId} {Γ : bCtx} {ret0 : Option FieldType} {nm : String} {tb : bTb} {ad am : Nat → Nat} {ao mp : Nat} {lf : Nat → Int32} {Pb : pc_C} {gt gp gh : Nat → Int32} {Pv : pc_C} {gd : Nat → Int32} {Pq : pc_C} {A : aA} {of : Nat → Int64} {th : Nat} {fo lo ps pb ip : Nat → Int32} {nb nv en sw : Nat} {fr ln tr ct rw dr : Nat → Int32} {b L i k n : Nat} {xs : Nat → Int32} (G : bG D bcl (tys3 cI cZ cJ) Γ "BoardStoreLaw" code 7 ret0 nm tb room_1) (hX : bSX Γ b L xs) (hA : AI mp A) (hC : CL mp A lf Pb gt gp gh Pv gd Pq) (hM : MO A fo lo ps pb ip) (hi : i + 4 ≤ L) (hL : L ≤ 2049) (hk : k + 3 ≤ 601024) (hn : n + 18 ≤ 7293000) (cont : ∀ (A : aA) (lf : Nat → Int32) (Pb : pc_C) (gt gp gh : Nat → Int32) (Pv : pc_C) (gd : Nat → Int32) (Pq : pc_C) (of : Nat → Int64) (th : Nat) (fo lo ps pb ip : Nat → Int32) (nb nv en sw : Nat) (fr ln tr ct rw dr : Nat → Int32), AI mp A → CL mp A lf Pb gt gp gh Pv gd Pq → MO A fo lo ps pb ip → bV D bcl Γ 7 (wS ad cI cZ mp lf (aN A) Pb gt gp gh Pv gd Pq (aCr A) ((ao, .inl (cJ, 1, .inr (.inl of))) :: wM am cI cZ mp th (aCr A) (aFd A) fo (aN A) lo (aNp A) ps pb ip nb fr ln tr nv ct rw dr en sw [])) (k + 3) (n + 18) 1071 [(0, .ref b), (1, .ref (ad 0)), (2, .ref (am 0)), (3, .ref ao), (4, .int (nI (i)))] []) : bV D bcl Γ 7 (wS ad cI cZ mp lf (aN A) Pb gt gp gh Pv gd Pq (aCr A) ((ao, .inl (cJ, 1, .inr (.inl of))) :: wM am cI cZ mp th (aCr A) (aFd A) fo (aN A) lo (aNp A) ps pb ip nb fr ln tr nv ct rw dr en sw [])) k n 354 [(0, .ref b), (1, .ref (ad 0)), (2, .ref (am 0)), (3, .ref ao), (4, .int (nI (i)))] [] := by
  refine bV.aload_n G d_law_354 rfl ?_
  refine bV.aload_n G d_law_355 rfl ?_
  refine bV.iload G d_law_356 rfl ?_
  refine bV.iconst (v := nI 1) G d_law_358 (by decide) ?_
  refine bV.iaddN G d_law_359 ?_
  refine bV.sld G hX (vp_in_nI (by omega) (by omega)) d_law_360 ?_
  refine bV.aload_n G d_law_361 rfl ?_
  refine bV.callSi G m_W_root bw_324 bw_323 (h_root hA hC (v := (xs (nI (i + 1)).toNatClampNeg)) ) rfl rfl ⟨by decide, by decide⟩ ⟨by show k + 2 ≤ 601024; omega, by show n + 12 ≤ 7293000; omega⟩ (Nat.le_of_ble_eq_true rfl) d_law_362 (fun x9 ws9 h9 => ?_)
  obtain ⟨k9, A1, lf1, Pb1, gt1, gp1, gh1, Pv1, gd1, Pq1, of1, rfl, hk9, hHK, hA1, hC1, h9e⟩ := h9
  rw [h9e]
  refine bV.istore G (lv' := [(0, .ref b), (1, .ref (ad 0)), (2, .ref (am 0)), (3, .ref ao), (4, .int (nI (i))), (5, .int (nI (k9)))]) d_law_365 (by decide) rfl rfl ?_
  refine bV.aload_n G d_law_367 rfl ?_
  refine bV.aload_n G d_law_368 rfl ?_
  refine bV.iload G d_law_369 rfl ?_
  refine bV.iconst (v := nI 1) G d_law_371 (by decide) ?_
  refine bV.iaddN G d_law_372 ?_
  refine bV.sld G hX (vp_in_nI (by omega) (by omega)) d_law_373 ?_
  refine bV.perm (ws' := (wM am cI cZ mp th (aCr A) (aFd A) fo (aN A) lo (aNp A) ps pb ip nb fr ln tr nv ct rw dr en sw (wS ad cI cZ mp lf1 (aN A1) Pb1 gt1 gp1 gh1 Pv1 gd1 Pq1 (aCr A1) [(ao, .inl (cJ, 1, .inr (.inl of1)))]))) [21, 22, 23, 24, 25, 26, 27, 28, 29, 30, 31, 32, 0, 1, 2, 3, 4, 5, 6, 7, 8, 9, 10, 11, 12, 13, 14, 15, 16, 17, 18, 19, 20] (by decide) rfl ?_
  refine bV.callVi G m_M_root bw_685 bw_686 bw_684 (r_root hA hM (v := (xs (nI (i + 1)).toNatClampNeg)) ) 0 rfl rfl rfl rfl rfl ⟨by decide, by decide⟩ ⟨by show k + 2 + 0 ≤ 601024; omega, by show n + 12 + 0 ≤ 7293000; omega⟩ (Nat.le_of_ble_eq_true rfl) d_law_374 (fun x8 ws8 h8 => ?_)
  obtain ⟨A2, th1, fo1, lo1, ps1, pb1, ip1, nb1, nv1, en1, sw1, fr1, ln1, tr1, ct1, rw1, dr1, hHM, hM1, h8e⟩ := h8
  rw [h8e]
  obtain ⟨rfl, rfl, hv9⟩ := u_root (ov := of1 0) hHK hHM
  refine bV.istore G (lv' := [(0, .ref b), (1, .ref (ad 0)), (2, .ref (am 0)), (3, .ref ao), (4, .int (nI (i))), (5, .int (nI (k9))), (6, .int (x8))]) d_law_377 (by decide) rfl rfl ?_
  refine bV.aload_n G d_law_379 rfl ?_
  refine bV.callVi G m_M_thrown bw_610 bw_611 bw_609 c_M_thrown 0 rfl rfl rfl rfl rfl ⟨by decide, by decide⟩ ⟨by show k + 2 + 0 + 0 ≤ 601024; omega, by show n + 12 + 0 + 0 ≤ 7293000; omega⟩ (Nat.le_of_ble_eq_true rfl) d_law_380 (fun x7 ws7 h7 => ?_)
  obtain ⟨rfl, h7e⟩ := h7
  rw [h7e]
  refine bV.iload G d_law_383 rfl ?_
  refine bV.icmp_eqN (tgt := 390) G d_law_385 (by decide) (by omega) (by omega) (fun _ => ?_) (fun c => absurd rfl c)
  refine bV.iload G d_law_390 rfl ?_
  refine bV.if_neN (tgt := 407) G d_law_392 (by decide) (by omega) (fun c0 => ?_) (fun c0 => ?_)
  · refine bV.goto (tgt := 1071) G d_law_407 (by decide) ?_
    refine bV.perm (ws' := (wS ad cI cZ mp lf1 (aN A1) Pb1 gt1 gp1 gh1 Pv1 gd1 Pq1 (aCr A1) ((ao, .inl (cJ, 1, .inr (.inl of1))) :: wM am cI cZ mp k9 (aCr A1) (aFd A1) fo1 (aN A1) lo1 (aNp A1) ps1 pb1 ip1 nb1 fr1 ln1 tr1 nv1 ct1 rw1 dr1 en1 sw1 []))) [12, 13, 14, 15, 16, 17, 18, 19, 20, 21, 22, 23, 24, 25, 26, 27, 28, 29, 30, 31, 32, 0, 1, 2, 3, 4, 5, 6, 7, 8, 9, 10, 11] (by decide) rfl ?_
    refine bV.ltake (lv' := [(0, .ref b), (1, .ref (ad 0)), (2, .ref (am 0)), (3, .ref ao), (4, .int (nI (i)))]) (ex := [(5, .int (nI (k9))), (6, .int (x8))]) rfl ?_
    refine bV.widen (k' := k + 3) (n' := n + 18) (by show k + 2 + 0 + 0 ≤ k + 3; omega) (by show n + 12 + 0 + 0 ≤ n + 18; omega) ?_
    exact cont A1 lf1 Pb1 gt1 gp1 gh1 Pv1 gd1 Pq1 of1 k9 fo1 lo1 ps1 pb1 ip1 nb1 nv1 en1 sw1 fr1 ln1 tr1 ct1 rw1 dr1 hA1 hC1 hM1
  · refine bV.aload_n G d_law_395 rfl ?_
    refine bV.iconst (v := nI 0) G d_law_396 (by decide) ?_
    refine bV.laload G 32 2 rfl rfl (vp_in_nI (by decide) (by decide)) d_law_397 ?_
    refine bV.iload G d_law_398 rfl ?_
    refine bV.i2l G d_law_400 ?_
    refine bV.lcmp G d_law_401 ?_
    refine bV.topi (y := 0) (lg_cmp_self (by rw [nI_clamp (by decide)]; exact hv9 c0)) ?_
    refine bV.if_eq (tgt := 407) G d_law_402 (by decide) (fun _ => ?_) (fun c => absurd rfl c)
    refine bV.goto (tgt := 1071) G d_law_407 (by decide) ?_
    refine bV.perm (ws' := (wS ad cI cZ mp lf1 (aN A1) Pb1 gt1 gp1 gh1 Pv1 gd1 Pq1 (aCr A1) ((ao, .inl (cJ, 1, .inr (.inl of1))) :: wM am cI cZ mp k9 (aCr A1) (aFd A1) fo1 (aN A1) lo1 (aNp A1) ps1 pb1 ip1 nb1 fr1 ln1 tr1 nv1 ct1 rw1 dr1 en1 sw1 []))) [12, 13, 14, 15, 16, 17, 18, 19, 20, 21, 22, 23, 24, 25, 26, 27, 28, 29, 30, 31, 32, 0, 1, 2, 3, 4, 5, 6, 7, 8, 9, 10, 11] (by decide) rfl ?_
    refine bV.ltake (lv' := [(0, .ref b), (1, .ref (ad 0)), (2, .ref (am 0)), (3, .ref ao), (4, .int (nI (i)))]) (ex := [(5, .int (nI (k9))), (6, .int (x8))]) rfl ?_
    refine bV.widen (k' := k + 3) (n' := n + 18) (by show k + 2 + 0 + 0 ≤ k + 3; omega) (by show n + 12 + 0 + 0 ≤ n + 18; omega) ?_
    exact cont A1 lf1 Pb1 gt1 gp1 gh1 Pv1 gd1 Pq1 of1 k9 fo1 lo1 ps1 pb1 ip1 nb1 nv1 en1 sw1 fr1 ln1 tr1 ct1 rw1 dr1 hA1 hC1 hM1
set_option maxRecDepth 20000 in
set_option maxHeartbeats 4000000 in
theorem lc_sweep {D : va_G} {cI cZ cJ : ClassId} {Γ : bCtx} {ret0 : Option FieldType} {nm : String} {tb : bTb} {ad am : Nat → Nat} {ao mp : Nat} {lf : Nat → Int32} {Pb : pc_C} {gt gp gh : Nat → Int32} {Pv : pc_C} {gd : Nat → Int32} {Pq : pc_C} {A : aA} {of : Nat → Int64} {th : Nat} {fo lo ps pb ip : Nat → Int32} {nb nv en sw : Nat} {fr ln tr ct rw dr : Nat → Int32} {b L i k n : Nat} {xs : Nat → Int32} (G : bG D bcl (tys3 cI cZ cJ) Γ "BoardStoreLaw" code 7 ret0 nm tb room_1) (hX : bSX Γ b L xs) (hA : AI mp A) (hC : CL mp A lf Pb gt gp gh Pv gd Pq) (hM : MO A fo lo ps pb ip) (hi : i + 4 ≤ L) (hL : L ≤ 2049) (hk : k + 3 ≤ 601024) (hn : n + 18 ≤ 7293000) (cont : ∀ (A : aA) (lf : Nat → Int32) (Pb : pc_C) (gt gp gh : Nat → Int32) (Pv : pc_C) (gd : Nat → Int32) (Pq : pc_C) (of : Nat → Int64) (th : Nat) (fo lo ps pb ip : Nat → Int32) (nb nv en sw : Nat) (fr ln tr ct rw dr : Nat → Int32), AI mp A → CL mp A lf Pb gt gp gh Pv gd Pq → MO A fo lo ps pb ip → bV D bcl Γ 7 (wS ad cI cZ mp lf (aN A) Pb gt gp gh Pv gd Pq (aCr A) ((ao, .inl (cJ, 1, .inr (.inl of))) :: wM am cI cZ mp th (aCr A) (aFd A) fo (aN A) lo (aNp A) ps pb ip nb fr ln tr nv ct rw dr en sw [])) (k + 3) (n + 18) 1071 [(0, .ref b), (1, .ref (ad 0)), (2, .ref (am 0)), (3, .ref ao), (4, .int (nI (i)))] []) : bV D bcl Γ 7 (wS ad cI cZ mp lf (aN A) Pb gt gp gh Pv gd Pq (aCr A) ((ao, .inl (cJ, 1, .inr (.inl of))) :: wM am cI cZ mp th (aCr A) (aFd A) fo (aN A) lo (aNp A) ps pb ip nb fr ln tr nv ct rw dr en sw [])) k n 410 [(0, .ref b), (1, .ref (ad 0)), (2, .ref (am 0)), (3, .ref ao), (4, .int (nI (i)))] [] := by
  refine bV.aload_n G d_law_410 rfl ?_
  refine bV.aload_n G d_law_411 rfl ?_
  refine bV.callSi G m_W_sweep bw_340 bw_339 (h_sweep hA hC  ) rfl rfl ⟨by decide, by decide⟩ ⟨by show k + 1 ≤ 601024; omega, by show n + 6 ≤ 7293000; omega⟩ (Nat.le_of_ble_eq_true rfl) d_law_412 (fun x9 ws9 h9 => ?_)
  obtain ⟨k9, A1, lf1, Pb1, gt1, gp1, gh1, Pv1, gd1, Pq1, of1, rfl, hk9, hHK, hA1, hC1, h9e⟩ := h9
  rw [h9e]
  refine bV.istore G (lv' := [(0, .ref b), (1, .ref (ad 0)), (2, .ref (am 0)), (3, .ref ao), (4, .int (nI (i))), (5, .int (nI (k9)))]) d_law_415 (by decide) rfl rfl ?_
  refine bV.aload_n G d_law_417 rfl ?_
  refine bV.perm (ws' := (wM am cI cZ mp th (aCr A) (aFd A) fo (aN A) lo (aNp A) ps pb ip nb fr ln tr nv ct rw dr en sw (wS ad cI cZ mp lf1 (aN A1) Pb1 gt1 gp1 gh1 Pv1 gd1 Pq1 (aCr A1) [(ao, .inl (cJ, 1, .inr (.inl of1)))]))) [21, 22, 23, 24, 25, 26, 27, 28, 29, 30, 31, 32, 0, 1, 2, 3, 4, 5, 6, 7, 8, 9, 10, 11, 12, 13, 14, 15, 16, 17, 18, 19, 20] (by decide) rfl ?_
  refine bV.callVi G m_M_sweep bw_665 bw_666 bw_664 (r_sweep hA hM  ) 0 rfl rfl rfl rfl rfl ⟨by decide, by decide⟩ ⟨by show k + 1 + 0 ≤ 601024; omega, by show n + 6 + 0 ≤ 7293000; omega⟩ (Nat.le_of_ble_eq_true rfl) d_law_418 (fun x8 ws8 h8 => ?_)
  obtain ⟨A2, th1, fo1, lo1, ps1, pb1, ip1, nb1, nv1, en1, sw1, fr1, ln1, tr1, ct1, rw1, dr1, hHM, hM1, h8e⟩ := h8
  rw [h8e]
  obtain ⟨rfl, rfl, hv9⟩ := u_sweep (ov := of1 0) hHK hHM
  refine bV.istore G (lv' := [(0, .ref b), (1, .ref (ad 0)), (2, .ref (am 0)), (3, .ref ao), (4, .int (nI (i))), (5, .int (nI (k9))), (6, .int (x8))]) d_law_421 (by decide) rfl rfl ?_
  refine bV.aload_n G d_law_423 rfl ?_
  refine bV.callVi G m_M_thrown bw_610 bw_611 bw_609 c_M_thrown 0 rfl rfl rfl rfl rfl ⟨by decide, by decide⟩ ⟨by show k + 1 + 0 + 0 ≤ 601024; omega, by show n + 6 + 0 + 0 ≤ 7293000; omega⟩ (Nat.le_of_ble_eq_true rfl) d_law_424 (fun x7 ws7 h7 => ?_)
  obtain ⟨rfl, h7e⟩ := h7
  rw [h7e]
  refine bV.iload G d_law_427 rfl ?_
  refine bV.icmp_eqN (tgt := 434) G d_law_429 (by decide) (by omega) (by omega) (fun _ => ?_) (fun c => absurd rfl c)
  refine bV.iload G d_law_434 rfl ?_
  refine bV.if_neN (tgt := 451) G d_law_436 (by decide) (by omega) (fun c0 => ?_) (fun c0 => ?_)
  · refine bV.goto (tgt := 1071) G d_law_451 (by decide) ?_
    refine bV.perm (ws' := (wS ad cI cZ mp lf1 (aN A1) Pb1 gt1 gp1 gh1 Pv1 gd1 Pq1 (aCr A1) ((ao, .inl (cJ, 1, .inr (.inl of1))) :: wM am cI cZ mp k9 (aCr A1) (aFd A1) fo1 (aN A1) lo1 (aNp A1) ps1 pb1 ip1 nb1 fr1 ln1 tr1 nv1 ct1 rw1 dr1 en1 sw1 []))) [12, 13, 14, 15, 16, 17, 18, 19, 20, 21, 22, 23, 24, 25, 26, 27, 28, 29, 30, 31, 32, 0, 1, 2, 3, 4, 5, 6, 7, 8, 9, 10, 11] (by decide) rfl ?_
    refine bV.ltake (lv' := [(0, .ref b), (1, .ref (ad 0)), (2, .ref (am 0)), (3, .ref ao), (4, .int (nI (i)))]) (ex := [(5, .int (nI (k9))), (6, .int (x8))]) rfl ?_
    refine bV.widen (k' := k + 3) (n' := n + 18) (by show k + 1 + 0 + 0 ≤ k + 3; omega) (by show n + 6 + 0 + 0 ≤ n + 18; omega) ?_
    exact cont A1 lf1 Pb1 gt1 gp1 gh1 Pv1 gd1 Pq1 of1 k9 fo1 lo1 ps1 pb1 ip1 nb1 nv1 en1 sw1 fr1 ln1 tr1 ct1 rw1 dr1 hA1 hC1 hM1
  · refine bV.aload_n G d_law_439 rfl ?_
    refine bV.iconst (v := nI 0) G d_law_440 (by decide) ?_
    refine bV.laload G 32 2 rfl rfl (vp_in_nI (by decide) (by decide)) d_law_441 ?_
    refine bV.iload G d_law_442 rfl ?_
    refine bV.i2l G d_law_444 ?_
    refine bV.lcmp G d_law_445 ?_
    refine bV.topi (y := 0) (lg_cmp_self (by rw [nI_clamp (by decide)]; exact hv9 c0)) ?_
    refine bV.if_eq (tgt := 451) G d_law_446 (by decide) (fun _ => ?_) (fun c => absurd rfl c)
    refine bV.goto (tgt := 1071) G d_law_451 (by decide) ?_
    refine bV.perm (ws' := (wS ad cI cZ mp lf1 (aN A1) Pb1 gt1 gp1 gh1 Pv1 gd1 Pq1 (aCr A1) ((ao, .inl (cJ, 1, .inr (.inl of1))) :: wM am cI cZ mp k9 (aCr A1) (aFd A1) fo1 (aN A1) lo1 (aNp A1) ps1 pb1 ip1 nb1 fr1 ln1 tr1 nv1 ct1 rw1 dr1 en1 sw1 []))) [12, 13, 14, 15, 16, 17, 18, 19, 20, 21, 22, 23, 24, 25, 26, 27, 28, 29, 30, 31, 32, 0, 1, 2, 3, 4, 5, 6, 7, 8, 9, 10, 11] (by decide) rfl ?_
    refine bV.ltake (lv' := [(0, .ref b), (1, .ref (ad 0)), (2, .ref (am 0)), (3, .ref ao), (4, .int (nI (i)))]) (ex := [(5, .int (nI (k9))), (6, .int (x8))]) rfl ?_
    refine bV.widen (k' := k + 3) (n' := n + 18) (by show k + 1 + 0 + 0 ≤ k + 3; omega) (by show n + 6 + 0 + 0 ≤ n + 18; omega) ?_
    exact cont A1 lf1 Pb1 gt1 gp1 gh1 Pv1 gd1 Pq1 of1 k9 fo1 lo1 ps1 pb1 ip1 nb1 nv1 en1 sw1 fr1 ln1 tr1 ct1 rw1 dr1 hA1 hC1 hM1
set_option maxRecDepth 20000 in
set_option maxHeartbeats 4000000 in
theorem lc_pack {D : va_G} {cI cZ cJ : ClassId} {Γ : bCtx} {ret0 : Option FieldType} {nm : String} {tb : bTb} {ad am : Nat → Nat} {ao mp : Nat} {lf : Nat → Int32} {Pb : pc_C} {gt gp gh : Nat → Int32} {Pv : pc_C} {gd : Nat → Int32} {Pq : pc_C} {A : aA} {of : Nat → Int64} {th : Nat} {fo lo ps pb ip : Nat → Int32} {nb nv en sw : Nat} {fr ln tr ct rw dr : Nat → Int32} {b L i k n : Nat} {xs : Nat → Int32} (G : bG D bcl (tys3 cI cZ cJ) Γ "BoardStoreLaw" code 7 ret0 nm tb room_1) (hX : bSX Γ b L xs) (hA : AI mp A) (hC : CL mp A lf Pb gt gp gh Pv gd Pq) (hM : MO A fo lo ps pb ip) (hi : i + 4 ≤ L) (hL : L ≤ 2049) (hk : k + 3 ≤ 601024) (hn : n + 18 ≤ 7293000) (cont : ∀ (A : aA) (lf : Nat → Int32) (Pb : pc_C) (gt gp gh : Nat → Int32) (Pv : pc_C) (gd : Nat → Int32) (Pq : pc_C) (of : Nat → Int64) (th : Nat) (fo lo ps pb ip : Nat → Int32) (nb nv en sw : Nat) (fr ln tr ct rw dr : Nat → Int32), AI mp A → CL mp A lf Pb gt gp gh Pv gd Pq → MO A fo lo ps pb ip → bV D bcl Γ 7 (wS ad cI cZ mp lf (aN A) Pb gt gp gh Pv gd Pq (aCr A) ((ao, .inl (cJ, 1, .inr (.inl of))) :: wM am cI cZ mp th (aCr A) (aFd A) fo (aN A) lo (aNp A) ps pb ip nb fr ln tr nv ct rw dr en sw [])) (k + 3) (n + 18) 1071 [(0, .ref b), (1, .ref (ad 0)), (2, .ref (am 0)), (3, .ref ao), (4, .int (nI (i)))] []) : bV D bcl Γ 7 (wS ad cI cZ mp lf (aN A) Pb gt gp gh Pv gd Pq (aCr A) ((ao, .inl (cJ, 1, .inr (.inl of))) :: wM am cI cZ mp th (aCr A) (aFd A) fo (aN A) lo (aNp A) ps pb ip nb fr ln tr nv ct rw dr en sw [])) k n 454 [(0, .ref b), (1, .ref (ad 0)), (2, .ref (am 0)), (3, .ref ao), (4, .int (nI (i)))] [] := by
  refine bV.aload_n G d_law_454 rfl ?_
  refine bV.aload_n G d_law_455 rfl ?_
  refine bV.callSi G m_W_pack bw_363 bw_362 (h_pack hA hC  ) rfl rfl ⟨by decide, by decide⟩ ⟨by show k + 1 ≤ 601024; omega, by show n + 6 ≤ 7293000; omega⟩ (Nat.le_of_ble_eq_true rfl) d_law_456 (fun x9 ws9 h9 => ?_)
  obtain ⟨k9, A1, lf1, Pb1, gt1, gp1, gh1, Pv1, gd1, Pq1, of1, rfl, hk9, hHK, hA1, hC1, h9e⟩ := h9
  rw [h9e]
  refine bV.istore G (lv' := [(0, .ref b), (1, .ref (ad 0)), (2, .ref (am 0)), (3, .ref ao), (4, .int (nI (i))), (5, .int (nI (k9)))]) d_law_459 (by decide) rfl rfl ?_
  refine bV.aload_n G d_law_461 rfl ?_
  refine bV.perm (ws' := (wM am cI cZ mp th (aCr A) (aFd A) fo (aN A) lo (aNp A) ps pb ip nb fr ln tr nv ct rw dr en sw (wS ad cI cZ mp lf1 (aN A1) Pb1 gt1 gp1 gh1 Pv1 gd1 Pq1 (aCr A1) [(ao, .inl (cJ, 1, .inr (.inl of1)))]))) [21, 22, 23, 24, 25, 26, 27, 28, 29, 30, 31, 32, 0, 1, 2, 3, 4, 5, 6, 7, 8, 9, 10, 11, 12, 13, 14, 15, 16, 17, 18, 19, 20] (by decide) rfl ?_
  refine bV.callVi G m_M_pack bw_705 bw_706 bw_704 (r_pack hA hM  ) 0 rfl rfl rfl rfl rfl ⟨by decide, by decide⟩ ⟨by show k + 1 + 0 ≤ 601024; omega, by show n + 6 + 0 ≤ 7293000; omega⟩ (Nat.le_of_ble_eq_true rfl) d_law_462 (fun x8 ws8 h8 => ?_)
  obtain ⟨A2, th1, fo1, lo1, ps1, pb1, ip1, nb1, nv1, en1, sw1, fr1, ln1, tr1, ct1, rw1, dr1, hHM, hM1, h8e⟩ := h8
  rw [h8e]
  obtain ⟨rfl, rfl, hv9⟩ := u_pack (ov := of1 0) hHK hHM
  refine bV.istore G (lv' := [(0, .ref b), (1, .ref (ad 0)), (2, .ref (am 0)), (3, .ref ao), (4, .int (nI (i))), (5, .int (nI (k9))), (6, .int (x8))]) d_law_465 (by decide) rfl rfl ?_
  refine bV.aload_n G d_law_467 rfl ?_
  refine bV.callVi G m_M_thrown bw_610 bw_611 bw_609 c_M_thrown 0 rfl rfl rfl rfl rfl ⟨by decide, by decide⟩ ⟨by show k + 1 + 0 + 0 ≤ 601024; omega, by show n + 6 + 0 + 0 ≤ 7293000; omega⟩ (Nat.le_of_ble_eq_true rfl) d_law_468 (fun x7 ws7 h7 => ?_)
  obtain ⟨rfl, h7e⟩ := h7
  rw [h7e]
  refine bV.iload G d_law_471 rfl ?_
  refine bV.icmp_eqN (tgt := 478) G d_law_473 (by decide) (by omega) (by omega) (fun _ => ?_) (fun c => absurd rfl c)
  refine bV.iload G d_law_478 rfl ?_
  refine bV.if_neN (tgt := 495) G d_law_480 (by decide) (by omega) (fun c0 => ?_) (fun c0 => ?_)
  · refine bV.goto (tgt := 1071) G d_law_495 (by decide) ?_
    refine bV.perm (ws' := (wS ad cI cZ mp lf1 (aN A1) Pb1 gt1 gp1 gh1 Pv1 gd1 Pq1 (aCr A1) ((ao, .inl (cJ, 1, .inr (.inl of1))) :: wM am cI cZ mp k9 (aCr A1) (aFd A1) fo1 (aN A1) lo1 (aNp A1) ps1 pb1 ip1 nb1 fr1 ln1 tr1 nv1 ct1 rw1 dr1 en1 sw1 []))) [12, 13, 14, 15, 16, 17, 18, 19, 20, 21, 22, 23, 24, 25, 26, 27, 28, 29, 30, 31, 32, 0, 1, 2, 3, 4, 5, 6, 7, 8, 9, 10, 11] (by decide) rfl ?_
    refine bV.ltake (lv' := [(0, .ref b), (1, .ref (ad 0)), (2, .ref (am 0)), (3, .ref ao), (4, .int (nI (i)))]) (ex := [(5, .int (nI (k9))), (6, .int (x8))]) rfl ?_
    refine bV.widen (k' := k + 3) (n' := n + 18) (by show k + 1 + 0 + 0 ≤ k + 3; omega) (by show n + 6 + 0 + 0 ≤ n + 18; omega) ?_
    exact cont A1 lf1 Pb1 gt1 gp1 gh1 Pv1 gd1 Pq1 of1 k9 fo1 lo1 ps1 pb1 ip1 nb1 nv1 en1 sw1 fr1 ln1 tr1 ct1 rw1 dr1 hA1 hC1 hM1
  · refine bV.aload_n G d_law_483 rfl ?_
    refine bV.iconst (v := nI 0) G d_law_484 (by decide) ?_
    refine bV.laload G 32 2 rfl rfl (vp_in_nI (by decide) (by decide)) d_law_485 ?_
    refine bV.iload G d_law_486 rfl ?_
    refine bV.i2l G d_law_488 ?_
    refine bV.lcmp G d_law_489 ?_
    refine bV.topi (y := 0) (lg_cmp_self (by rw [nI_clamp (by decide)]; exact hv9 c0)) ?_
    refine bV.if_eq (tgt := 495) G d_law_490 (by decide) (fun _ => ?_) (fun c => absurd rfl c)
    refine bV.goto (tgt := 1071) G d_law_495 (by decide) ?_
    refine bV.perm (ws' := (wS ad cI cZ mp lf1 (aN A1) Pb1 gt1 gp1 gh1 Pv1 gd1 Pq1 (aCr A1) ((ao, .inl (cJ, 1, .inr (.inl of1))) :: wM am cI cZ mp k9 (aCr A1) (aFd A1) fo1 (aN A1) lo1 (aNp A1) ps1 pb1 ip1 nb1 fr1 ln1 tr1 nv1 ct1 rw1 dr1 en1 sw1 []))) [12, 13, 14, 15, 16, 17, 18, 19, 20, 21, 22, 23, 24, 25, 26, 27, 28, 29, 30, 31, 32, 0, 1, 2, 3, 4, 5, 6, 7, 8, 9, 10, 11] (by decide) rfl ?_
    refine bV.ltake (lv' := [(0, .ref b), (1, .ref (ad 0)), (2, .ref (am 0)), (3, .ref ao), (4, .int (nI (i)))]) (ex := [(5, .int (nI (k9))), (6, .int (x8))]) rfl ?_
    refine bV.widen (k' := k + 3) (n' := n + 18) (by show k + 1 + 0 + 0 ≤ k + 3; omega) (by show n + 6 + 0 + 0 ≤ n + 18; omega) ?_
    exact cont A1 lf1 Pb1 gt1 gp1 gh1 Pv1 gd1 Pq1 of1 k9 fo1 lo1 ps1 pb1 ip1 nb1 nv1 en1 sw1 fr1 ln1 tr1 ct1 rw1 dr1 hA1 hC1 hM1
set_option maxRecDepth 20000 in
set_option maxHeartbeats 4000000 in
theorem lc_byteAt {D : va_G} {cI cZ cJ : ClassId} {Γ : bCtx} {ret0 : Option FieldType} {nm : String} {tb : bTb} {ad am : Nat → Nat} {ao mp : Nat} {lf : Nat → Int32} {Pb : pc_C} {gt gp gh : Nat → Int32} {Pv : pc_C} {gd : Nat → Int32} {Pq : pc_C} {A : aA} {of : Nat → Int64} {th : Nat} {fo lo ps pb ip : Nat → Int32} {nb nv en sw : Nat} {fr ln tr ct rw dr : Nat → Int32} {b L i k n : Nat} {xs : Nat → Int32} (G : bG D bcl (tys3 cI cZ cJ) Γ "BoardStoreLaw" code 7 ret0 nm tb room_1) (hX : bSX Γ b L xs) (hA : AI mp A) (hC : CL mp A lf Pb gt gp gh Pv gd Pq) (hM : MO A fo lo ps pb ip) (hi : i + 4 ≤ L) (hL : L ≤ 2049) (hk : k + 3 ≤ 601024) (hn : n + 18 ≤ 7293000) (cont : ∀ (A : aA) (lf : Nat → Int32) (Pb : pc_C) (gt gp gh : Nat → Int32) (Pv : pc_C) (gd : Nat → Int32) (Pq : pc_C) (of : Nat → Int64) (th : Nat) (fo lo ps pb ip : Nat → Int32) (nb nv en sw : Nat) (fr ln tr ct rw dr : Nat → Int32), AI mp A → CL mp A lf Pb gt gp gh Pv gd Pq → MO A fo lo ps pb ip → bV D bcl Γ 7 (wS ad cI cZ mp lf (aN A) Pb gt gp gh Pv gd Pq (aCr A) ((ao, .inl (cJ, 1, .inr (.inl of))) :: wM am cI cZ mp th (aCr A) (aFd A) fo (aN A) lo (aNp A) ps pb ip nb fr ln tr nv ct rw dr en sw [])) (k + 3) (n + 18) 1071 [(0, .ref b), (1, .ref (ad 0)), (2, .ref (am 0)), (3, .ref ao), (4, .int (nI (i)))] []) : bV D bcl Γ 7 (wS ad cI cZ mp lf (aN A) Pb gt gp gh Pv gd Pq (aCr A) ((ao, .inl (cJ, 1, .inr (.inl of))) :: wM am cI cZ mp th (aCr A) (aFd A) fo (aN A) lo (aNp A) ps pb ip nb fr ln tr nv ct rw dr en sw [])) k n 498 [(0, .ref b), (1, .ref (ad 0)), (2, .ref (am 0)), (3, .ref ao), (4, .int (nI (i)))] [] := by
  refine bV.aload_n G d_law_498 rfl ?_
  refine bV.aload_n G d_law_499 rfl ?_
  refine bV.iload G d_law_500 rfl ?_
  refine bV.iconst (v := nI 1) G d_law_502 (by decide) ?_
  refine bV.iaddN G d_law_503 ?_
  refine bV.sld G hX (vp_in_nI (by omega) (by omega)) d_law_504 ?_
  refine bV.aload_n G d_law_505 rfl ?_
  refine bV.iload G d_law_506 rfl ?_
  refine bV.iconst (v := nI 2) G d_law_508 (by decide) ?_
  refine bV.iaddN G d_law_509 ?_
  refine bV.sld G hX (vp_in_nI (by omega) (by omega)) d_law_510 ?_
  refine bV.aload_n G d_law_511 rfl ?_
  refine bV.callSi G m_W_byteAt bw_390 bw_389 (h_byteAt hA hC (v := (xs (nI (i + 1)).toNatClampNeg)) (u := (xs (nI (i + 2)).toNatClampNeg)) ) rfl rfl ⟨by decide, by decide⟩ ⟨by show k + 3 ≤ 601024; omega, by show n + 18 ≤ 7293000; omega⟩ (Nat.le_of_ble_eq_true rfl) d_law_512 (fun x9 ws9 h9 => ?_)
  obtain ⟨k9, A1, lf1, Pb1, gt1, gp1, gh1, Pv1, gd1, Pq1, of1, rfl, hk9, hHK, hA1, hC1, h9e⟩ := h9
  rw [h9e]
  refine bV.istore G (lv' := [(0, .ref b), (1, .ref (ad 0)), (2, .ref (am 0)), (3, .ref ao), (4, .int (nI (i))), (5, .int (nI (k9)))]) d_law_515 (by decide) rfl rfl ?_
  refine bV.aload_n G d_law_517 rfl ?_
  refine bV.aload_n G d_law_518 rfl ?_
  refine bV.iload G d_law_519 rfl ?_
  refine bV.iconst (v := nI 1) G d_law_521 (by decide) ?_
  refine bV.iaddN G d_law_522 ?_
  refine bV.sld G hX (vp_in_nI (by omega) (by omega)) d_law_523 ?_
  refine bV.aload_n G d_law_524 rfl ?_
  refine bV.iload G d_law_525 rfl ?_
  refine bV.iconst (v := nI 2) G d_law_527 (by decide) ?_
  refine bV.iaddN G d_law_528 ?_
  refine bV.sld G hX (vp_in_nI (by omega) (by omega)) d_law_529 ?_
  refine bV.perm (ws' := (wM am cI cZ mp th (aCr A) (aFd A) fo (aN A) lo (aNp A) ps pb ip nb fr ln tr nv ct rw dr en sw (wS ad cI cZ mp lf1 (aN A1) Pb1 gt1 gp1 gh1 Pv1 gd1 Pq1 (aCr A1) [(ao, .inl (cJ, 1, .inr (.inl of1)))]))) [21, 22, 23, 24, 25, 26, 27, 28, 29, 30, 31, 32, 0, 1, 2, 3, 4, 5, 6, 7, 8, 9, 10, 11, 12, 13, 14, 15, 16, 17, 18, 19, 20] (by decide) rfl ?_
  refine bV.callVi G m_M_byteAt bw_697 bw_698 bw_696 (r_byteAt hA hM (v := (xs (nI (i + 1)).toNatClampNeg)) (u := (xs (nI (i + 2)).toNatClampNeg)) ) 0 rfl rfl rfl rfl rfl ⟨by decide, by decide⟩ ⟨by show k + 3 + 0 ≤ 601024; omega, by show n + 18 + 0 ≤ 7293000; omega⟩ (Nat.le_of_ble_eq_true rfl) d_law_530 (fun x8 ws8 h8 => ?_)
  obtain ⟨A2, th1, fo1, lo1, ps1, pb1, ip1, nb1, nv1, en1, sw1, fr1, ln1, tr1, ct1, rw1, dr1, hHM, hM1, h8e⟩ := h8
  rw [h8e]
  obtain ⟨rfl, rfl, hv9⟩ := u_byteAt (ov := of1 0) hHK hHM
  refine bV.istore G (lv' := [(0, .ref b), (1, .ref (ad 0)), (2, .ref (am 0)), (3, .ref ao), (4, .int (nI (i))), (5, .int (nI (k9))), (6, .int (x8))]) d_law_533 (by decide) rfl rfl ?_
  refine bV.aload_n G d_law_535 rfl ?_
  refine bV.callVi G m_M_thrown bw_610 bw_611 bw_609 c_M_thrown 0 rfl rfl rfl rfl rfl ⟨by decide, by decide⟩ ⟨by show k + 3 + 0 + 0 ≤ 601024; omega, by show n + 18 + 0 + 0 ≤ 7293000; omega⟩ (Nat.le_of_ble_eq_true rfl) d_law_536 (fun x7 ws7 h7 => ?_)
  obtain ⟨rfl, h7e⟩ := h7
  rw [h7e]
  refine bV.iload G d_law_539 rfl ?_
  refine bV.icmp_eqN (tgt := 546) G d_law_541 (by decide) (by omega) (by omega) (fun _ => ?_) (fun c => absurd rfl c)
  refine bV.iload G d_law_546 rfl ?_
  refine bV.if_neN (tgt := 563) G d_law_548 (by decide) (by omega) (fun c0 => ?_) (fun c0 => ?_)
  · refine bV.goto (tgt := 1071) G d_law_563 (by decide) ?_
    refine bV.perm (ws' := (wS ad cI cZ mp lf1 (aN A1) Pb1 gt1 gp1 gh1 Pv1 gd1 Pq1 (aCr A1) ((ao, .inl (cJ, 1, .inr (.inl of1))) :: wM am cI cZ mp k9 (aCr A1) (aFd A1) fo1 (aN A1) lo1 (aNp A1) ps1 pb1 ip1 nb1 fr1 ln1 tr1 nv1 ct1 rw1 dr1 en1 sw1 []))) [12, 13, 14, 15, 16, 17, 18, 19, 20, 21, 22, 23, 24, 25, 26, 27, 28, 29, 30, 31, 32, 0, 1, 2, 3, 4, 5, 6, 7, 8, 9, 10, 11] (by decide) rfl ?_
    refine bV.ltake (lv' := [(0, .ref b), (1, .ref (ad 0)), (2, .ref (am 0)), (3, .ref ao), (4, .int (nI (i)))]) (ex := [(5, .int (nI (k9))), (6, .int (x8))]) rfl ?_
    refine bV.widen (k' := k + 3) (n' := n + 18) (by show k + 3 + 0 + 0 ≤ k + 3; omega) (by show n + 18 + 0 + 0 ≤ n + 18; omega) ?_
    exact cont A1 lf1 Pb1 gt1 gp1 gh1 Pv1 gd1 Pq1 of1 k9 fo1 lo1 ps1 pb1 ip1 nb1 nv1 en1 sw1 fr1 ln1 tr1 ct1 rw1 dr1 hA1 hC1 hM1
  · refine bV.aload_n G d_law_551 rfl ?_
    refine bV.iconst (v := nI 0) G d_law_552 (by decide) ?_
    refine bV.laload G 32 2 rfl rfl (vp_in_nI (by decide) (by decide)) d_law_553 ?_
    refine bV.iload G d_law_554 rfl ?_
    refine bV.i2l G d_law_556 ?_
    refine bV.lcmp G d_law_557 ?_
    refine bV.topi (y := 0) (lg_cmp_self (by rw [nI_clamp (by decide)]; exact hv9 c0)) ?_
    refine bV.if_eq (tgt := 563) G d_law_558 (by decide) (fun _ => ?_) (fun c => absurd rfl c)
    refine bV.goto (tgt := 1071) G d_law_563 (by decide) ?_
    refine bV.perm (ws' := (wS ad cI cZ mp lf1 (aN A1) Pb1 gt1 gp1 gh1 Pv1 gd1 Pq1 (aCr A1) ((ao, .inl (cJ, 1, .inr (.inl of1))) :: wM am cI cZ mp k9 (aCr A1) (aFd A1) fo1 (aN A1) lo1 (aNp A1) ps1 pb1 ip1 nb1 fr1 ln1 tr1 nv1 ct1 rw1 dr1 en1 sw1 []))) [12, 13, 14, 15, 16, 17, 18, 19, 20, 21, 22, 23, 24, 25, 26, 27, 28, 29, 30, 31, 32, 0, 1, 2, 3, 4, 5, 6, 7, 8, 9, 10, 11] (by decide) rfl ?_
    refine bV.ltake (lv' := [(0, .ref b), (1, .ref (ad 0)), (2, .ref (am 0)), (3, .ref ao), (4, .int (nI (i)))]) (ex := [(5, .int (nI (k9))), (6, .int (x8))]) rfl ?_
    refine bV.widen (k' := k + 3) (n' := n + 18) (by show k + 3 + 0 + 0 ≤ k + 3; omega) (by show n + 18 + 0 + 0 ≤ n + 18; omega) ?_
    exact cont A1 lf1 Pb1 gt1 gp1 gh1 Pv1 gd1 Pq1 of1 k9 fo1 lo1 ps1 pb1 ip1 nb1 nv1 en1 sw1 fr1 ln1 tr1 ct1 rw1 dr1 hA1 hC1 hM1
set_option maxRecDepth 20000 in
set_option maxHeartbeats 4000000 in
theorem lc_crash {D : va_G} {cI cZ cJ : ClassId} {Γ : bCtx} {ret0 : Option FieldType} {nm : String} {tb : bTb} {ad am : Nat → Nat} {ao mp : Nat} {lf : Nat → Int32} {Pb : pc_C} {gt gp gh : Nat → Int32} {Pv : pc_C} {gd : Nat → Int32} {Pq : pc_C} {A : aA} {of : Nat → Int64} {th : Nat} {fo lo ps pb ip : Nat → Int32} {nb nv en sw : Nat} {fr ln tr ct rw dr : Nat → Int32} {b L i k n : Nat} {xs : Nat → Int32} (G : bG D bcl (tys3 cI cZ cJ) Γ "BoardStoreLaw" code 7 ret0 nm tb room_1) (hX : bSX Γ b L xs) (hA : AI mp A) (hC : CL mp A lf Pb gt gp gh Pv gd Pq) (hM : MO A fo lo ps pb ip) (hi : i + 4 ≤ L) (hL : L ≤ 2049) (hk : k + 3 ≤ 601024) (hn : n + 18 ≤ 7293000) (cont : ∀ (A : aA) (lf : Nat → Int32) (Pb : pc_C) (gt gp gh : Nat → Int32) (Pv : pc_C) (gd : Nat → Int32) (Pq : pc_C) (of : Nat → Int64) (th : Nat) (fo lo ps pb ip : Nat → Int32) (nb nv en sw : Nat) (fr ln tr ct rw dr : Nat → Int32), AI mp A → CL mp A lf Pb gt gp gh Pv gd Pq → MO A fo lo ps pb ip → bV D bcl Γ 7 (wS ad cI cZ mp lf (aN A) Pb gt gp gh Pv gd Pq (aCr A) ((ao, .inl (cJ, 1, .inr (.inl of))) :: wM am cI cZ mp th (aCr A) (aFd A) fo (aN A) lo (aNp A) ps pb ip nb fr ln tr nv ct rw dr en sw [])) (k + 3) (n + 18) 1071 [(0, .ref b), (1, .ref (ad 0)), (2, .ref (am 0)), (3, .ref ao), (4, .int (nI (i)))] []) : bV D bcl Γ 7 (wS ad cI cZ mp lf (aN A) Pb gt gp gh Pv gd Pq (aCr A) ((ao, .inl (cJ, 1, .inr (.inl of))) :: wM am cI cZ mp th (aCr A) (aFd A) fo (aN A) lo (aNp A) ps pb ip nb fr ln tr nv ct rw dr en sw [])) k n 566 [(0, .ref b), (1, .ref (ad 0)), (2, .ref (am 0)), (3, .ref ao), (4, .int (nI (i)))] [] := by
  refine bV.aload_n G d_law_566 rfl ?_
  refine bV.aload_n G d_law_567 rfl ?_
  refine bV.iload G d_law_568 rfl ?_
  refine bV.iconst (v := nI 1) G d_law_570 (by decide) ?_
  refine bV.iaddN G d_law_571 ?_
  refine bV.sld G hX (vp_in_nI (by omega) (by omega)) d_law_572 ?_
  refine bV.aload_n G d_law_573 rfl ?_
  refine bV.callSi G m_W_crash bw_402 bw_401 (h_crash hA hC (v := (xs (nI (i + 1)).toNatClampNeg)) ) rfl rfl ⟨by decide, by decide⟩ ⟨by show k + 2 ≤ 601024; omega, by show n + 12 ≤ 7293000; omega⟩ (Nat.le_of_ble_eq_true rfl) d_law_574 (fun x9 ws9 h9 => ?_)
  obtain ⟨k9, A1, lf1, Pb1, gt1, gp1, gh1, Pv1, gd1, Pq1, of1, rfl, hk9, hHK, hA1, hC1, h9e⟩ := h9
  rw [h9e]
  refine bV.istore G (lv' := [(0, .ref b), (1, .ref (ad 0)), (2, .ref (am 0)), (3, .ref ao), (4, .int (nI (i))), (5, .int (nI (k9)))]) d_law_577 (by decide) rfl rfl ?_
  refine bV.aload_n G d_law_579 rfl ?_
  refine bV.aload_n G d_law_580 rfl ?_
  refine bV.iload G d_law_581 rfl ?_
  refine bV.iconst (v := nI 1) G d_law_583 (by decide) ?_
  refine bV.iaddN G d_law_584 ?_
  refine bV.sld G hX (vp_in_nI (by omega) (by omega)) d_law_585 ?_
  refine bV.perm (ws' := (wM am cI cZ mp th (aCr A) (aFd A) fo (aN A) lo (aNp A) ps pb ip nb fr ln tr nv ct rw dr en sw (wS ad cI cZ mp lf1 (aN A1) Pb1 gt1 gp1 gh1 Pv1 gd1 Pq1 (aCr A1) [(ao, .inl (cJ, 1, .inr (.inl of1)))]))) [21, 22, 23, 24, 25, 26, 27, 28, 29, 30, 31, 32, 0, 1, 2, 3, 4, 5, 6, 7, 8, 9, 10, 11, 12, 13, 14, 15, 16, 17, 18, 19, 20] (by decide) rfl ?_
  refine bV.callVi G m_M_crash bw_733 bw_734 bw_732 (r_crash hA hM (v := (xs (nI (i + 1)).toNatClampNeg)) ) 0 rfl rfl rfl rfl rfl ⟨by decide, by decide⟩ ⟨by show k + 2 + 0 ≤ 601024; omega, by show n + 12 + 0 ≤ 7293000; omega⟩ (Nat.le_of_ble_eq_true rfl) d_law_586 (fun x8 ws8 h8 => ?_)
  obtain ⟨A2, th1, fo1, lo1, ps1, pb1, ip1, nb1, nv1, en1, sw1, fr1, ln1, tr1, ct1, rw1, dr1, hHM, hM1, h8e⟩ := h8
  rw [h8e]
  obtain ⟨rfl, rfl, hv9⟩ := u_crash (ov := of1 0) hHK hHM
  refine bV.istore G (lv' := [(0, .ref b), (1, .ref (ad 0)), (2, .ref (am 0)), (3, .ref ao), (4, .int (nI (i))), (5, .int (nI (k9))), (6, .int (x8))]) d_law_589 (by decide) rfl rfl ?_
  refine bV.aload_n G d_law_591 rfl ?_
  refine bV.callVi G m_M_thrown bw_610 bw_611 bw_609 c_M_thrown 0 rfl rfl rfl rfl rfl ⟨by decide, by decide⟩ ⟨by show k + 2 + 0 + 0 ≤ 601024; omega, by show n + 12 + 0 + 0 ≤ 7293000; omega⟩ (Nat.le_of_ble_eq_true rfl) d_law_592 (fun x7 ws7 h7 => ?_)
  obtain ⟨rfl, h7e⟩ := h7
  rw [h7e]
  refine bV.iload G d_law_595 rfl ?_
  refine bV.icmp_eqN (tgt := 602) G d_law_597 (by decide) (by omega) (by omega) (fun _ => ?_) (fun c => absurd rfl c)
  refine bV.iload G d_law_602 rfl ?_
  refine bV.if_neN (tgt := 626) G d_law_604 (by decide) (by omega) (fun c0 => ?_) (fun c0 => ?_)
  · refine bV.goto (tgt := 1071) G d_law_626 (by decide) ?_
    refine bV.perm (ws' := (wS ad cI cZ mp lf1 (aN A1) Pb1 gt1 gp1 gh1 Pv1 gd1 Pq1 (aCr A1) ((ao, .inl (cJ, 1, .inr (.inl of1))) :: wM am cI cZ mp k9 (aCr A1) (aFd A1) fo1 (aN A1) lo1 (aNp A1) ps1 pb1 ip1 nb1 fr1 ln1 tr1 nv1 ct1 rw1 dr1 en1 sw1 []))) [12, 13, 14, 15, 16, 17, 18, 19, 20, 21, 22, 23, 24, 25, 26, 27, 28, 29, 30, 31, 32, 0, 1, 2, 3, 4, 5, 6, 7, 8, 9, 10, 11] (by decide) rfl ?_
    refine bV.ltake (lv' := [(0, .ref b), (1, .ref (ad 0)), (2, .ref (am 0)), (3, .ref ao), (4, .int (nI (i)))]) (ex := [(5, .int (nI (k9))), (6, .int (x8))]) rfl ?_
    refine bV.widen (k' := k + 3) (n' := n + 18) (by show k + 2 + 0 + 0 ≤ k + 3; omega) (by show n + 12 + 0 + 0 ≤ n + 18; omega) ?_
    exact cont A1 lf1 Pb1 gt1 gp1 gh1 Pv1 gd1 Pq1 of1 k9 fo1 lo1 ps1 pb1 ip1 nb1 nv1 en1 sw1 fr1 ln1 tr1 ct1 rw1 dr1 hA1 hC1 hM1
  · refine bV.aload_n G d_law_607 rfl ?_
    refine bV.iconst (v := nI 0) G d_law_608 (by decide) ?_
    refine bV.laload G 32 2 rfl rfl (vp_in_nI (by decide) (by decide)) d_law_609 ?_
    refine bV.iload G d_law_610 rfl ?_
    refine bV.if_eq (tgt := 619) G d_law_612 (by decide) (fun c6 => ?_) (fun c6 => ?_)
    · refine bV.lconst (v := 0) G d_law_619 (by decide) ?_
      refine bV.lcmp G d_law_620 ?_
      refine bV.topi (y := 0) (lg_cmp_self (by rw [nI_clamp (by decide), hv9 c0, c6]; rfl)) ?_
      refine bV.if_eq (tgt := 626) G d_law_621 (by decide) (fun _ => ?_) (fun c => absurd rfl c)
      refine bV.goto (tgt := 1071) G d_law_626 (by decide) ?_
      refine bV.perm (ws' := (wS ad cI cZ mp lf1 (aN A1) Pb1 gt1 gp1 gh1 Pv1 gd1 Pq1 (aCr A1) ((ao, .inl (cJ, 1, .inr (.inl of1))) :: wM am cI cZ mp k9 (aCr A1) (aFd A1) fo1 (aN A1) lo1 (aNp A1) ps1 pb1 ip1 nb1 fr1 ln1 tr1 nv1 ct1 rw1 dr1 en1 sw1 []))) [12, 13, 14, 15, 16, 17, 18, 19, 20, 21, 22, 23, 24, 25, 26, 27, 28, 29, 30, 31, 32, 0, 1, 2, 3, 4, 5, 6, 7, 8, 9, 10, 11] (by decide) rfl ?_
      refine bV.ltake (lv' := [(0, .ref b), (1, .ref (ad 0)), (2, .ref (am 0)), (3, .ref ao), (4, .int (nI (i)))]) (ex := [(5, .int (nI (k9))), (6, .int (x8))]) rfl ?_
      refine bV.widen (k' := k + 3) (n' := n + 18) (by show k + 2 + 0 + 0 ≤ k + 3; omega) (by show n + 12 + 0 + 0 ≤ n + 18; omega) ?_
      exact cont A1 lf1 Pb1 gt1 gp1 gh1 Pv1 gd1 Pq1 of1 k9 fo1 lo1 ps1 pb1 ip1 nb1 nv1 en1 sw1 fr1 ln1 tr1 ct1 rw1 dr1 hA1 hC1 hM1
    · obtain ⟨b9, hb9⟩ := ob_crash (hHM.elim (fun z => z.2) (fun z => absurd c0 z.1))
      refine bV.lconst (v := 1) G d_law_615 (by decide) ?_
      refine bV.goto (tgt := 620) G d_law_616 (by decide) ?_
      refine bV.lcmp G d_law_620 ?_
      refine bV.topi (y := 0) (lg_cmp_self (by rw [nI_clamp (by decide), hv9 c0, hb9]; cases b9; exact absurd hb9 c6; rfl)) ?_
      refine bV.if_eq (tgt := 626) G d_law_621 (by decide) (fun _ => ?_) (fun c => absurd rfl c)
      refine bV.goto (tgt := 1071) G d_law_626 (by decide) ?_
      refine bV.perm (ws' := (wS ad cI cZ mp lf1 (aN A1) Pb1 gt1 gp1 gh1 Pv1 gd1 Pq1 (aCr A1) ((ao, .inl (cJ, 1, .inr (.inl of1))) :: wM am cI cZ mp k9 (aCr A1) (aFd A1) fo1 (aN A1) lo1 (aNp A1) ps1 pb1 ip1 nb1 fr1 ln1 tr1 nv1 ct1 rw1 dr1 en1 sw1 []))) [12, 13, 14, 15, 16, 17, 18, 19, 20, 21, 22, 23, 24, 25, 26, 27, 28, 29, 30, 31, 32, 0, 1, 2, 3, 4, 5, 6, 7, 8, 9, 10, 11] (by decide) rfl ?_
      refine bV.ltake (lv' := [(0, .ref b), (1, .ref (ad 0)), (2, .ref (am 0)), (3, .ref ao), (4, .int (nI (i)))]) (ex := [(5, .int (nI (k9))), (6, .int (x8))]) rfl ?_
      refine bV.widen (k' := k + 3) (n' := n + 18) (by show k + 2 + 0 + 0 ≤ k + 3; omega) (by show n + 12 + 0 + 0 ≤ n + 18; omega) ?_
      exact cont A1 lf1 Pb1 gt1 gp1 gh1 Pv1 gd1 Pq1 of1 k9 fo1 lo1 ps1 pb1 ip1 nb1 nv1 en1 sw1 fr1 ln1 tr1 ct1 rw1 dr1 hA1 hC1 hM1
set_option maxRecDepth 20000 in
set_option maxHeartbeats 4000000 in
theorem lc_reopen {D : va_G} {cI cZ cJ : ClassId} {Γ : bCtx} {ret0 : Option FieldType} {nm : String} {tb : bTb} {ad am : Nat → Nat} {ao mp : Nat} {lf : Nat → Int32} {Pb : pc_C} {gt gp gh : Nat → Int32} {Pv : pc_C} {gd : Nat → Int32} {Pq : pc_C} {A : aA} {of : Nat → Int64} {th : Nat} {fo lo ps pb ip : Nat → Int32} {nb nv en sw : Nat} {fr ln tr ct rw dr : Nat → Int32} {b L i k n : Nat} {xs : Nat → Int32} (G : bG D bcl (tys3 cI cZ cJ) Γ "BoardStoreLaw" code 7 ret0 nm tb room_1) (hX : bSX Γ b L xs) (hA : AI mp A) (hC : CL mp A lf Pb gt gp gh Pv gd Pq) (hM : MO A fo lo ps pb ip) (hi : i + 4 ≤ L) (hL : L ≤ 2049) (hk : k + 3 ≤ 601024) (hn : n + 18 ≤ 7293000) (cont : ∀ (A : aA) (lf : Nat → Int32) (Pb : pc_C) (gt gp gh : Nat → Int32) (Pv : pc_C) (gd : Nat → Int32) (Pq : pc_C) (of : Nat → Int64) (th : Nat) (fo lo ps pb ip : Nat → Int32) (nb nv en sw : Nat) (fr ln tr ct rw dr : Nat → Int32), AI mp A → CL mp A lf Pb gt gp gh Pv gd Pq → MO A fo lo ps pb ip → bV D bcl Γ 7 (wS ad cI cZ mp lf (aN A) Pb gt gp gh Pv gd Pq (aCr A) ((ao, .inl (cJ, 1, .inr (.inl of))) :: wM am cI cZ mp th (aCr A) (aFd A) fo (aN A) lo (aNp A) ps pb ip nb fr ln tr nv ct rw dr en sw [])) (k + 3) (n + 18) 1071 [(0, .ref b), (1, .ref (ad 0)), (2, .ref (am 0)), (3, .ref ao), (4, .int (nI (i)))] []) : bV D bcl Γ 7 (wS ad cI cZ mp lf (aN A) Pb gt gp gh Pv gd Pq (aCr A) ((ao, .inl (cJ, 1, .inr (.inl of))) :: wM am cI cZ mp th (aCr A) (aFd A) fo (aN A) lo (aNp A) ps pb ip nb fr ln tr nv ct rw dr en sw [])) k n 629 [(0, .ref b), (1, .ref (ad 0)), (2, .ref (am 0)), (3, .ref ao), (4, .int (nI (i)))] [] := by
  obtain ⟨r, hcut⟩ : ∃ r, aCr A = true → cutOk (aLg A) (aN A) r := by
    cases e : aCr A
    · exact ⟨0, fun z => by cases z⟩
    · obtain ⟨r, hr⟩ := (hA.2.1 e).2.2
      exact ⟨r, fun _ => hr⟩
  refine bV.aload_n G d_law_629 rfl ?_
  refine bV.aload_n G d_law_630 rfl ?_
  refine bV.callSi G m_W_reopen bw_446 bw_445 (h_reopen hA hC  (r := r) hcut) rfl rfl ⟨by decide, by decide⟩ ⟨by show k + 1 ≤ 601024; omega, by show n + 6 ≤ 7293000; omega⟩ (Nat.le_of_ble_eq_true rfl) d_law_631 (fun x9 ws9 h9 => ?_)
  obtain ⟨k9, A1, lf1, Pb1, gt1, gp1, gh1, Pv1, gd1, Pq1, of1, rfl, hk9, hHK, hA1, hC1, h9e⟩ := h9
  rw [h9e]
  refine bV.istore G (lv' := [(0, .ref b), (1, .ref (ad 0)), (2, .ref (am 0)), (3, .ref ao), (4, .int (nI (i))), (5, .int (nI (k9)))]) d_law_634 (by decide) rfl rfl ?_
  refine bV.aload_n G d_law_636 rfl ?_
  refine bV.perm (ws' := (wM am cI cZ mp th (aCr A) (aFd A) fo (aN A) lo (aNp A) ps pb ip nb fr ln tr nv ct rw dr en sw (wS ad cI cZ mp lf1 (aN A1) Pb1 gt1 gp1 gh1 Pv1 gd1 Pq1 (aCr A1) [(ao, .inl (cJ, 1, .inr (.inl of1)))]))) [21, 22, 23, 24, 25, 26, 27, 28, 29, 30, 31, 32, 0, 1, 2, 3, 4, 5, 6, 7, 8, 9, 10, 11, 12, 13, 14, 15, 16, 17, 18, 19, 20] (by decide) rfl ?_
  refine bV.callVi G m_M_reopen bw_737 bw_738 bw_736 (r_reopen hA hM  (r := r) hcut) 0 rfl rfl rfl rfl rfl ⟨by decide, by decide⟩ ⟨by show k + 1 + 0 ≤ 601024; omega, by show n + 6 + 0 ≤ 7293000; omega⟩ (Nat.le_of_ble_eq_true rfl) d_law_637 (fun x8 ws8 h8 => ?_)
  obtain ⟨A2, th1, fo1, lo1, ps1, pb1, ip1, nb1, nv1, en1, sw1, fr1, ln1, tr1, ct1, rw1, dr1, hHM, hM1, h8e⟩ := h8
  rw [h8e]
  obtain ⟨rfl, rfl, hv9⟩ := u_reopen (ov := of1 0) hHK hHM
  refine bV.istore G (lv' := [(0, .ref b), (1, .ref (ad 0)), (2, .ref (am 0)), (3, .ref ao), (4, .int (nI (i))), (5, .int (nI (k9))), (6, .int (x8))]) d_law_640 (by decide) rfl rfl ?_
  refine bV.aload_n G d_law_642 rfl ?_
  refine bV.callVi G m_M_thrown bw_610 bw_611 bw_609 c_M_thrown 0 rfl rfl rfl rfl rfl ⟨by decide, by decide⟩ ⟨by show k + 1 + 0 + 0 ≤ 601024; omega, by show n + 6 + 0 + 0 ≤ 7293000; omega⟩ (Nat.le_of_ble_eq_true rfl) d_law_643 (fun x7 ws7 h7 => ?_)
  obtain ⟨rfl, h7e⟩ := h7
  rw [h7e]
  refine bV.iload G d_law_646 rfl ?_
  refine bV.icmp_eqN (tgt := 653) G d_law_648 (by decide) (by omega) (by omega) (fun _ => ?_) (fun c => absurd rfl c)
  refine bV.iload G d_law_653 rfl ?_
  refine bV.if_neN (tgt := 670) G d_law_655 (by decide) (by omega) (fun c0 => ?_) (fun c0 => ?_)
  · refine bV.goto (tgt := 1071) G d_law_670 (by decide) ?_
    refine bV.perm (ws' := (wS ad cI cZ mp lf1 (aN A1) Pb1 gt1 gp1 gh1 Pv1 gd1 Pq1 (aCr A1) ((ao, .inl (cJ, 1, .inr (.inl of1))) :: wM am cI cZ mp k9 (aCr A1) (aFd A1) fo1 (aN A1) lo1 (aNp A1) ps1 pb1 ip1 nb1 fr1 ln1 tr1 nv1 ct1 rw1 dr1 en1 sw1 []))) [12, 13, 14, 15, 16, 17, 18, 19, 20, 21, 22, 23, 24, 25, 26, 27, 28, 29, 30, 31, 32, 0, 1, 2, 3, 4, 5, 6, 7, 8, 9, 10, 11] (by decide) rfl ?_
    refine bV.ltake (lv' := [(0, .ref b), (1, .ref (ad 0)), (2, .ref (am 0)), (3, .ref ao), (4, .int (nI (i)))]) (ex := [(5, .int (nI (k9))), (6, .int (x8))]) rfl ?_
    refine bV.widen (k' := k + 3) (n' := n + 18) (by show k + 1 + 0 + 0 ≤ k + 3; omega) (by show n + 6 + 0 + 0 ≤ n + 18; omega) ?_
    exact cont A1 lf1 Pb1 gt1 gp1 gh1 Pv1 gd1 Pq1 of1 k9 fo1 lo1 ps1 pb1 ip1 nb1 nv1 en1 sw1 fr1 ln1 tr1 ct1 rw1 dr1 hA1 hC1 hM1
  · refine bV.aload_n G d_law_658 rfl ?_
    refine bV.iconst (v := nI 0) G d_law_659 (by decide) ?_
    refine bV.laload G 32 2 rfl rfl (vp_in_nI (by decide) (by decide)) d_law_660 ?_
    refine bV.iload G d_law_661 rfl ?_
    refine bV.i2l G d_law_663 ?_
    refine bV.lcmp G d_law_664 ?_
    refine bV.topi (y := 0) (lg_cmp_self (by rw [nI_clamp (by decide)]; exact hv9 c0)) ?_
    refine bV.if_eq (tgt := 670) G d_law_665 (by decide) (fun _ => ?_) (fun c => absurd rfl c)
    refine bV.goto (tgt := 1071) G d_law_670 (by decide) ?_
    refine bV.perm (ws' := (wS ad cI cZ mp lf1 (aN A1) Pb1 gt1 gp1 gh1 Pv1 gd1 Pq1 (aCr A1) ((ao, .inl (cJ, 1, .inr (.inl of1))) :: wM am cI cZ mp k9 (aCr A1) (aFd A1) fo1 (aN A1) lo1 (aNp A1) ps1 pb1 ip1 nb1 fr1 ln1 tr1 nv1 ct1 rw1 dr1 en1 sw1 []))) [12, 13, 14, 15, 16, 17, 18, 19, 20, 21, 22, 23, 24, 25, 26, 27, 28, 29, 30, 31, 32, 0, 1, 2, 3, 4, 5, 6, 7, 8, 9, 10, 11] (by decide) rfl ?_
    refine bV.ltake (lv' := [(0, .ref b), (1, .ref (ad 0)), (2, .ref (am 0)), (3, .ref ao), (4, .int (nI (i)))]) (ex := [(5, .int (nI (k9))), (6, .int (x8))]) rfl ?_
    refine bV.widen (k' := k + 3) (n' := n + 18) (by show k + 1 + 0 + 0 ≤ k + 3; omega) (by show n + 6 + 0 + 0 ≤ n + 18; omega) ?_
    exact cont A1 lf1 Pb1 gt1 gp1 gh1 Pv1 gd1 Pq1 of1 k9 fo1 lo1 ps1 pb1 ip1 nb1 nv1 en1 sw1 fr1 ln1 tr1 ct1 rw1 dr1 hA1 hC1 hM1
set_option maxRecDepth 20000 in
set_option maxHeartbeats 4000000 in
theorem lc_poke {D : va_G} {cI cZ cJ : ClassId} {Γ : bCtx} {ret0 : Option FieldType} {nm : String} {tb : bTb} {ad am : Nat → Nat} {ao mp : Nat} {lf : Nat → Int32} {Pb : pc_C} {gt gp gh : Nat → Int32} {Pv : pc_C} {gd : Nat → Int32} {Pq : pc_C} {A : aA} {of : Nat → Int64} {th : Nat} {fo lo ps pb ip : Nat → Int32} {nb nv en sw : Nat} {fr ln tr ct rw dr : Nat → Int32} {b L i k n : Nat} {xs : Nat → Int32} (G : bG D bcl (tys3 cI cZ cJ) Γ "BoardStoreLaw" code 7 ret0 nm tb room_1) (hX : bSX Γ b L xs) (hA : AI mp A) (hC : CL mp A lf Pb gt gp gh Pv gd Pq) (hM : MO A fo lo ps pb ip) (hi : i + 4 ≤ L) (hL : L ≤ 2049) (hk : k + 3 ≤ 601024) (hn : n + 18 ≤ 7293000) (cont : ∀ (A : aA) (lf : Nat → Int32) (Pb : pc_C) (gt gp gh : Nat → Int32) (Pv : pc_C) (gd : Nat → Int32) (Pq : pc_C) (of : Nat → Int64) (th : Nat) (fo lo ps pb ip : Nat → Int32) (nb nv en sw : Nat) (fr ln tr ct rw dr : Nat → Int32), AI mp A → CL mp A lf Pb gt gp gh Pv gd Pq → MO A fo lo ps pb ip → bV D bcl Γ 7 (wS ad cI cZ mp lf (aN A) Pb gt gp gh Pv gd Pq (aCr A) ((ao, .inl (cJ, 1, .inr (.inl of))) :: wM am cI cZ mp th (aCr A) (aFd A) fo (aN A) lo (aNp A) ps pb ip nb fr ln tr nv ct rw dr en sw [])) (k + 3) (n + 18) 1071 [(0, .ref b), (1, .ref (ad 0)), (2, .ref (am 0)), (3, .ref ao), (4, .int (nI (i)))] []) : bV D bcl Γ 7 (wS ad cI cZ mp lf (aN A) Pb gt gp gh Pv gd Pq (aCr A) ((ao, .inl (cJ, 1, .inr (.inl of))) :: wM am cI cZ mp th (aCr A) (aFd A) fo (aN A) lo (aNp A) ps pb ip nb fr ln tr nv ct rw dr en sw [])) k n 673 [(0, .ref b), (1, .ref (ad 0)), (2, .ref (am 0)), (3, .ref ao), (4, .int (nI (i)))] [] := by
  refine bV.aload_n G d_law_673 rfl ?_
  refine bV.aload_n G d_law_674 rfl ?_
  refine bV.iload G d_law_675 rfl ?_
  refine bV.iconst (v := nI 1) G d_law_677 (by decide) ?_
  refine bV.iaddN G d_law_678 ?_
  refine bV.sld G hX (vp_in_nI (by omega) (by omega)) d_law_679 ?_
  refine bV.aload_n G d_law_680 rfl ?_
  refine bV.iload G d_law_681 rfl ?_
  refine bV.iconst (v := nI 2) G d_law_683 (by decide) ?_
  refine bV.iaddN G d_law_684 ?_
  refine bV.sld G hX (vp_in_nI (by omega) (by omega)) d_law_685 ?_
  refine bV.aload_n G d_law_686 rfl ?_
  refine bV.iload G d_law_687 rfl ?_
  refine bV.iconst (v := nI 3) G d_law_689 (by decide) ?_
  refine bV.iaddN G d_law_690 ?_
  refine bV.sld G hX (vp_in_nI (by omega) (by omega)) d_law_691 ?_
  refine bV.aload_n G d_law_692 rfl ?_
  refine bV.callSi G m_W_poke bw_480 bw_479 (h_poke hA hC (v := (xs (nI (i + 1)).toNatClampNeg)) (u := (xs (nI (i + 2)).toNatClampNeg)) (mm := (xs (nI (i + 3)).toNatClampNeg)) ) rfl rfl ⟨by decide, by decide⟩ ⟨by show k + 2 ≤ 601024; omega, by show n + 12 ≤ 7293000; omega⟩ (Nat.le_of_ble_eq_true rfl) d_law_693 (fun x9 ws9 h9 => ?_)
  obtain ⟨k9, A1, lf1, Pb1, gt1, gp1, gh1, Pv1, gd1, Pq1, of1, rfl, hk9, hHK, hA1, hC1, h9e⟩ := h9
  rw [h9e]
  refine bV.istore G (lv' := [(0, .ref b), (1, .ref (ad 0)), (2, .ref (am 0)), (3, .ref ao), (4, .int (nI (i))), (5, .int (nI (k9)))]) d_law_696 (by decide) rfl rfl ?_
  refine bV.aload_n G d_law_698 rfl ?_
  refine bV.aload_n G d_law_699 rfl ?_
  refine bV.iload G d_law_700 rfl ?_
  refine bV.iconst (v := nI 1) G d_law_702 (by decide) ?_
  refine bV.iaddN G d_law_703 ?_
  refine bV.sld G hX (vp_in_nI (by omega) (by omega)) d_law_704 ?_
  refine bV.aload_n G d_law_705 rfl ?_
  refine bV.iload G d_law_706 rfl ?_
  refine bV.iconst (v := nI 2) G d_law_708 (by decide) ?_
  refine bV.iaddN G d_law_709 ?_
  refine bV.sld G hX (vp_in_nI (by omega) (by omega)) d_law_710 ?_
  refine bV.aload_n G d_law_711 rfl ?_
  refine bV.iload G d_law_712 rfl ?_
  refine bV.iconst (v := nI 3) G d_law_714 (by decide) ?_
  refine bV.iaddN G d_law_715 ?_
  refine bV.sld G hX (vp_in_nI (by omega) (by omega)) d_law_716 ?_
  refine bV.perm (ws' := (wM am cI cZ mp th (aCr A) (aFd A) fo (aN A) lo (aNp A) ps pb ip nb fr ln tr nv ct rw dr en sw (wS ad cI cZ mp lf1 (aN A1) Pb1 gt1 gp1 gh1 Pv1 gd1 Pq1 (aCr A1) [(ao, .inl (cJ, 1, .inr (.inl of1)))]))) [21, 22, 23, 24, 25, 26, 27, 28, 29, 30, 31, 32, 0, 1, 2, 3, 4, 5, 6, 7, 8, 9, 10, 11, 12, 13, 14, 15, 16, 17, 18, 19, 20] (by decide) rfl ?_
  refine bV.callVi G m_M_poke bw_725 bw_726 bw_724 (r_poke hA hM (v := (xs (nI (i + 1)).toNatClampNeg)) (u := (xs (nI (i + 2)).toNatClampNeg)) (mm := (xs (nI (i + 3)).toNatClampNeg)) ) 0 rfl rfl rfl rfl rfl ⟨by decide, by decide⟩ ⟨by show k + 2 + 0 ≤ 601024; omega, by show n + 12 + 0 ≤ 7293000; omega⟩ (Nat.le_of_ble_eq_true rfl) d_law_717 (fun x8 ws8 h8 => ?_)
  obtain ⟨A2, th1, fo1, lo1, ps1, pb1, ip1, nb1, nv1, en1, sw1, fr1, ln1, tr1, ct1, rw1, dr1, hHM, hM1, h8e⟩ := h8
  rw [h8e]
  obtain ⟨rfl, rfl, hv9⟩ := u_poke (ov := of1 0) hHK hHM
  refine bV.istore G (lv' := [(0, .ref b), (1, .ref (ad 0)), (2, .ref (am 0)), (3, .ref ao), (4, .int (nI (i))), (5, .int (nI (k9))), (6, .int (x8))]) d_law_720 (by decide) rfl rfl ?_
  refine bV.aload_n G d_law_722 rfl ?_
  refine bV.callVi G m_M_thrown bw_610 bw_611 bw_609 c_M_thrown 0 rfl rfl rfl rfl rfl ⟨by decide, by decide⟩ ⟨by show k + 2 + 0 + 0 ≤ 601024; omega, by show n + 12 + 0 + 0 ≤ 7293000; omega⟩ (Nat.le_of_ble_eq_true rfl) d_law_723 (fun x7 ws7 h7 => ?_)
  obtain ⟨rfl, h7e⟩ := h7
  rw [h7e]
  refine bV.iload G d_law_726 rfl ?_
  refine bV.icmp_eqN (tgt := 733) G d_law_728 (by decide) (by omega) (by omega) (fun _ => ?_) (fun c => absurd rfl c)
  refine bV.iload G d_law_733 rfl ?_
  refine bV.if_neN (tgt := 757) G d_law_735 (by decide) (by omega) (fun c0 => ?_) (fun c0 => ?_)
  · refine bV.goto (tgt := 1071) G d_law_757 (by decide) ?_
    refine bV.perm (ws' := (wS ad cI cZ mp lf1 (aN A1) Pb1 gt1 gp1 gh1 Pv1 gd1 Pq1 (aCr A1) ((ao, .inl (cJ, 1, .inr (.inl of1))) :: wM am cI cZ mp k9 (aCr A1) (aFd A1) fo1 (aN A1) lo1 (aNp A1) ps1 pb1 ip1 nb1 fr1 ln1 tr1 nv1 ct1 rw1 dr1 en1 sw1 []))) [12, 13, 14, 15, 16, 17, 18, 19, 20, 21, 22, 23, 24, 25, 26, 27, 28, 29, 30, 31, 32, 0, 1, 2, 3, 4, 5, 6, 7, 8, 9, 10, 11] (by decide) rfl ?_
    refine bV.ltake (lv' := [(0, .ref b), (1, .ref (ad 0)), (2, .ref (am 0)), (3, .ref ao), (4, .int (nI (i)))]) (ex := [(5, .int (nI (k9))), (6, .int (x8))]) rfl ?_
    refine bV.widen (k' := k + 3) (n' := n + 18) (by show k + 2 + 0 + 0 ≤ k + 3; omega) (by show n + 12 + 0 + 0 ≤ n + 18; omega) ?_
    exact cont A1 lf1 Pb1 gt1 gp1 gh1 Pv1 gd1 Pq1 of1 k9 fo1 lo1 ps1 pb1 ip1 nb1 nv1 en1 sw1 fr1 ln1 tr1 ct1 rw1 dr1 hA1 hC1 hM1
  · refine bV.aload_n G d_law_738 rfl ?_
    refine bV.iconst (v := nI 0) G d_law_739 (by decide) ?_
    refine bV.laload G 32 2 rfl rfl (vp_in_nI (by decide) (by decide)) d_law_740 ?_
    refine bV.iload G d_law_741 rfl ?_
    refine bV.if_eq (tgt := 750) G d_law_743 (by decide) (fun c6 => ?_) (fun c6 => ?_)
    · refine bV.lconst (v := 0) G d_law_750 (by decide) ?_
      refine bV.lcmp G d_law_751 ?_
      refine bV.topi (y := 0) (lg_cmp_self (by rw [nI_clamp (by decide), hv9 c0, c6]; rfl)) ?_
      refine bV.if_eq (tgt := 757) G d_law_752 (by decide) (fun _ => ?_) (fun c => absurd rfl c)
      refine bV.goto (tgt := 1071) G d_law_757 (by decide) ?_
      refine bV.perm (ws' := (wS ad cI cZ mp lf1 (aN A1) Pb1 gt1 gp1 gh1 Pv1 gd1 Pq1 (aCr A1) ((ao, .inl (cJ, 1, .inr (.inl of1))) :: wM am cI cZ mp k9 (aCr A1) (aFd A1) fo1 (aN A1) lo1 (aNp A1) ps1 pb1 ip1 nb1 fr1 ln1 tr1 nv1 ct1 rw1 dr1 en1 sw1 []))) [12, 13, 14, 15, 16, 17, 18, 19, 20, 21, 22, 23, 24, 25, 26, 27, 28, 29, 30, 31, 32, 0, 1, 2, 3, 4, 5, 6, 7, 8, 9, 10, 11] (by decide) rfl ?_
      refine bV.ltake (lv' := [(0, .ref b), (1, .ref (ad 0)), (2, .ref (am 0)), (3, .ref ao), (4, .int (nI (i)))]) (ex := [(5, .int (nI (k9))), (6, .int (x8))]) rfl ?_
      refine bV.widen (k' := k + 3) (n' := n + 18) (by show k + 2 + 0 + 0 ≤ k + 3; omega) (by show n + 12 + 0 + 0 ≤ n + 18; omega) ?_
      exact cont A1 lf1 Pb1 gt1 gp1 gh1 Pv1 gd1 Pq1 of1 k9 fo1 lo1 ps1 pb1 ip1 nb1 nv1 en1 sw1 fr1 ln1 tr1 ct1 rw1 dr1 hA1 hC1 hM1
    · obtain ⟨b9, hb9⟩ := ob_poke (hHM.elim (fun z => z.2) (fun z => absurd c0 z.1))
      refine bV.lconst (v := 1) G d_law_746 (by decide) ?_
      refine bV.goto (tgt := 751) G d_law_747 (by decide) ?_
      refine bV.lcmp G d_law_751 ?_
      refine bV.topi (y := 0) (lg_cmp_self (by rw [nI_clamp (by decide), hv9 c0, hb9]; cases b9; exact absurd hb9 c6; rfl)) ?_
      refine bV.if_eq (tgt := 757) G d_law_752 (by decide) (fun _ => ?_) (fun c => absurd rfl c)
      refine bV.goto (tgt := 1071) G d_law_757 (by decide) ?_
      refine bV.perm (ws' := (wS ad cI cZ mp lf1 (aN A1) Pb1 gt1 gp1 gh1 Pv1 gd1 Pq1 (aCr A1) ((ao, .inl (cJ, 1, .inr (.inl of1))) :: wM am cI cZ mp k9 (aCr A1) (aFd A1) fo1 (aN A1) lo1 (aNp A1) ps1 pb1 ip1 nb1 fr1 ln1 tr1 nv1 ct1 rw1 dr1 en1 sw1 []))) [12, 13, 14, 15, 16, 17, 18, 19, 20, 21, 22, 23, 24, 25, 26, 27, 28, 29, 30, 31, 32, 0, 1, 2, 3, 4, 5, 6, 7, 8, 9, 10, 11] (by decide) rfl ?_
      refine bV.ltake (lv' := [(0, .ref b), (1, .ref (ad 0)), (2, .ref (am 0)), (3, .ref ao), (4, .int (nI (i)))]) (ex := [(5, .int (nI (k9))), (6, .int (x8))]) rfl ?_
      refine bV.widen (k' := k + 3) (n' := n + 18) (by show k + 2 + 0 + 0 ≤ k + 3; omega) (by show n + 12 + 0 + 0 ≤ n + 18; omega) ?_
      exact cont A1 lf1 Pb1 gt1 gp1 gh1 Pv1 gd1 Pq1 of1 k9 fo1 lo1 ps1 pb1 ip1 nb1 nv1 en1 sw1 fr1 ln1 tr1 ct1 rw1 dr1 hA1 hC1 hM1
set_option maxRecDepth 20000 in
set_option maxHeartbeats 4000000 in
theorem lc_badAt {D : va_G} {cI cZ cJ : ClassId} {Γ : bCtx} {ret0 : Option FieldType} {nm : String} {tb : bTb} {ad am : Nat → Nat} {ao mp : Nat} {lf : Nat → Int32} {Pb : pc_C} {gt gp gh : Nat → Int32} {Pv : pc_C} {gd : Nat → Int32} {Pq : pc_C} {A : aA} {of : Nat → Int64} {th : Nat} {fo lo ps pb ip : Nat → Int32} {nb nv en sw : Nat} {fr ln tr ct rw dr : Nat → Int32} {b L i k n : Nat} {xs : Nat → Int32} (G : bG D bcl (tys3 cI cZ cJ) Γ "BoardStoreLaw" code 7 ret0 nm tb room_1) (hX : bSX Γ b L xs) (hA : AI mp A) (hC : CL mp A lf Pb gt gp gh Pv gd Pq) (hM : MO A fo lo ps pb ip) (hi : i + 4 ≤ L) (hL : L ≤ 2049) (hk : k + 3 ≤ 601024) (hn : n + 18 ≤ 7293000) (cont : ∀ (A : aA) (lf : Nat → Int32) (Pb : pc_C) (gt gp gh : Nat → Int32) (Pv : pc_C) (gd : Nat → Int32) (Pq : pc_C) (of : Nat → Int64) (th : Nat) (fo lo ps pb ip : Nat → Int32) (nb nv en sw : Nat) (fr ln tr ct rw dr : Nat → Int32), AI mp A → CL mp A lf Pb gt gp gh Pv gd Pq → MO A fo lo ps pb ip → bV D bcl Γ 7 (wS ad cI cZ mp lf (aN A) Pb gt gp gh Pv gd Pq (aCr A) ((ao, .inl (cJ, 1, .inr (.inl of))) :: wM am cI cZ mp th (aCr A) (aFd A) fo (aN A) lo (aNp A) ps pb ip nb fr ln tr nv ct rw dr en sw [])) (k + 3) (n + 18) 1071 [(0, .ref b), (1, .ref (ad 0)), (2, .ref (am 0)), (3, .ref ao), (4, .int (nI (i)))] []) : bV D bcl Γ 7 (wS ad cI cZ mp lf (aN A) Pb gt gp gh Pv gd Pq (aCr A) ((ao, .inl (cJ, 1, .inr (.inl of))) :: wM am cI cZ mp th (aCr A) (aFd A) fo (aN A) lo (aNp A) ps pb ip nb fr ln tr nv ct rw dr en sw [])) k n 760 [(0, .ref b), (1, .ref (ad 0)), (2, .ref (am 0)), (3, .ref ao), (4, .int (nI (i)))] [] := by
  refine bV.aload_n G d_law_760 rfl ?_
  refine bV.aload_n G d_law_761 rfl ?_
  refine bV.callSi G m_W_badAt bw_496 bw_495 (h_badAt hA hC  ) rfl rfl ⟨by decide, by decide⟩ ⟨by show k + 1 ≤ 601024; omega, by show n + 6 ≤ 7293000; omega⟩ (Nat.le_of_ble_eq_true rfl) d_law_762 (fun x9 ws9 h9 => ?_)
  obtain ⟨k9, A1, lf1, Pb1, gt1, gp1, gh1, Pv1, gd1, Pq1, of1, rfl, hk9, hHK, hA1, hC1, h9e⟩ := h9
  rw [h9e]
  refine bV.istore G (lv' := [(0, .ref b), (1, .ref (ad 0)), (2, .ref (am 0)), (3, .ref ao), (4, .int (nI (i))), (5, .int (nI (k9)))]) d_law_765 (by decide) rfl rfl ?_
  refine bV.aload_n G d_law_767 rfl ?_
  refine bV.perm (ws' := (wM am cI cZ mp th (aCr A) (aFd A) fo (aN A) lo (aNp A) ps pb ip nb fr ln tr nv ct rw dr en sw (wS ad cI cZ mp lf1 (aN A1) Pb1 gt1 gp1 gh1 Pv1 gd1 Pq1 (aCr A1) [(ao, .inl (cJ, 1, .inr (.inl of1)))]))) [21, 22, 23, 24, 25, 26, 27, 28, 29, 30, 31, 32, 0, 1, 2, 3, 4, 5, 6, 7, 8, 9, 10, 11, 12, 13, 14, 15, 16, 17, 18, 19, 20] (by decide) rfl ?_
  refine bV.callVi G m_M_badAt bw_729 bw_730 bw_728 (r_badAt hA hM  ) 0 rfl rfl rfl rfl rfl ⟨by decide, by decide⟩ ⟨by show k + 1 + 0 ≤ 601024; omega, by show n + 6 + 0 ≤ 7293000; omega⟩ (Nat.le_of_ble_eq_true rfl) d_law_768 (fun x8 ws8 h8 => ?_)
  obtain ⟨A2, th1, fo1, lo1, ps1, pb1, ip1, nb1, nv1, en1, sw1, fr1, ln1, tr1, ct1, rw1, dr1, hHM, hM1, h8e⟩ := h8
  rw [h8e]
  obtain ⟨rfl, rfl, hv9⟩ := u_badAt (ov := of1 0) hHK hHM
  refine bV.istore G (lv' := [(0, .ref b), (1, .ref (ad 0)), (2, .ref (am 0)), (3, .ref ao), (4, .int (nI (i))), (5, .int (nI (k9))), (6, .int (x8))]) d_law_771 (by decide) rfl rfl ?_
  refine bV.aload_n G d_law_773 rfl ?_
  refine bV.callVi G m_M_thrown bw_610 bw_611 bw_609 c_M_thrown 0 rfl rfl rfl rfl rfl ⟨by decide, by decide⟩ ⟨by show k + 1 + 0 + 0 ≤ 601024; omega, by show n + 6 + 0 + 0 ≤ 7293000; omega⟩ (Nat.le_of_ble_eq_true rfl) d_law_774 (fun x7 ws7 h7 => ?_)
  obtain ⟨rfl, h7e⟩ := h7
  rw [h7e]
  refine bV.iload G d_law_777 rfl ?_
  refine bV.icmp_eqN (tgt := 784) G d_law_779 (by decide) (by omega) (by omega) (fun _ => ?_) (fun c => absurd rfl c)
  refine bV.iload G d_law_784 rfl ?_
  refine bV.if_neN (tgt := 801) G d_law_786 (by decide) (by omega) (fun c0 => ?_) (fun c0 => ?_)
  · refine bV.goto (tgt := 1071) G d_law_801 (by decide) ?_
    refine bV.perm (ws' := (wS ad cI cZ mp lf1 (aN A1) Pb1 gt1 gp1 gh1 Pv1 gd1 Pq1 (aCr A1) ((ao, .inl (cJ, 1, .inr (.inl of1))) :: wM am cI cZ mp k9 (aCr A1) (aFd A1) fo1 (aN A1) lo1 (aNp A1) ps1 pb1 ip1 nb1 fr1 ln1 tr1 nv1 ct1 rw1 dr1 en1 sw1 []))) [12, 13, 14, 15, 16, 17, 18, 19, 20, 21, 22, 23, 24, 25, 26, 27, 28, 29, 30, 31, 32, 0, 1, 2, 3, 4, 5, 6, 7, 8, 9, 10, 11] (by decide) rfl ?_
    refine bV.ltake (lv' := [(0, .ref b), (1, .ref (ad 0)), (2, .ref (am 0)), (3, .ref ao), (4, .int (nI (i)))]) (ex := [(5, .int (nI (k9))), (6, .int (x8))]) rfl ?_
    refine bV.widen (k' := k + 3) (n' := n + 18) (by show k + 1 + 0 + 0 ≤ k + 3; omega) (by show n + 6 + 0 + 0 ≤ n + 18; omega) ?_
    exact cont A1 lf1 Pb1 gt1 gp1 gh1 Pv1 gd1 Pq1 of1 k9 fo1 lo1 ps1 pb1 ip1 nb1 nv1 en1 sw1 fr1 ln1 tr1 ct1 rw1 dr1 hA1 hC1 hM1
  · refine bV.aload_n G d_law_789 rfl ?_
    refine bV.iconst (v := nI 0) G d_law_790 (by decide) ?_
    refine bV.laload G 32 2 rfl rfl (vp_in_nI (by decide) (by decide)) d_law_791 ?_
    refine bV.iload G d_law_792 rfl ?_
    refine bV.i2l G d_law_794 ?_
    refine bV.lcmp G d_law_795 ?_
    refine bV.topi (y := 0) (lg_cmp_self (by rw [nI_clamp (by decide)]; exact hv9 c0)) ?_
    refine bV.if_eq (tgt := 801) G d_law_796 (by decide) (fun _ => ?_) (fun c => absurd rfl c)
    refine bV.goto (tgt := 1071) G d_law_801 (by decide) ?_
    refine bV.perm (ws' := (wS ad cI cZ mp lf1 (aN A1) Pb1 gt1 gp1 gh1 Pv1 gd1 Pq1 (aCr A1) ((ao, .inl (cJ, 1, .inr (.inl of1))) :: wM am cI cZ mp k9 (aCr A1) (aFd A1) fo1 (aN A1) lo1 (aNp A1) ps1 pb1 ip1 nb1 fr1 ln1 tr1 nv1 ct1 rw1 dr1 en1 sw1 []))) [12, 13, 14, 15, 16, 17, 18, 19, 20, 21, 22, 23, 24, 25, 26, 27, 28, 29, 30, 31, 32, 0, 1, 2, 3, 4, 5, 6, 7, 8, 9, 10, 11] (by decide) rfl ?_
    refine bV.ltake (lv' := [(0, .ref b), (1, .ref (ad 0)), (2, .ref (am 0)), (3, .ref ao), (4, .int (nI (i)))]) (ex := [(5, .int (nI (k9))), (6, .int (x8))]) rfl ?_
    refine bV.widen (k' := k + 3) (n' := n + 18) (by show k + 1 + 0 + 0 ≤ k + 3; omega) (by show n + 6 + 0 + 0 ≤ n + 18; omega) ?_
    exact cont A1 lf1 Pb1 gt1 gp1 gh1 Pv1 gd1 Pq1 of1 k9 fo1 lo1 ps1 pb1 ip1 nb1 nv1 en1 sw1 fr1 ln1 tr1 ct1 rw1 dr1 hA1 hC1 hM1
set_option maxRecDepth 20000 in
set_option maxHeartbeats 4000000 in
theorem lc_packByte {D : va_G} {cI cZ cJ : ClassId} {Γ : bCtx} {ret0 : Option FieldType} {nm : String} {tb : bTb} {ad am : Nat → Nat} {ao mp : Nat} {lf : Nat → Int32} {Pb : pc_C} {gt gp gh : Nat → Int32} {Pv : pc_C} {gd : Nat → Int32} {Pq : pc_C} {A : aA} {of : Nat → Int64} {th : Nat} {fo lo ps pb ip : Nat → Int32} {nb nv en sw : Nat} {fr ln tr ct rw dr : Nat → Int32} {b L i k n : Nat} {xs : Nat → Int32} (G : bG D bcl (tys3 cI cZ cJ) Γ "BoardStoreLaw" code 7 ret0 nm tb room_1) (hX : bSX Γ b L xs) (hA : AI mp A) (hC : CL mp A lf Pb gt gp gh Pv gd Pq) (hM : MO A fo lo ps pb ip) (hi : i + 4 ≤ L) (hL : L ≤ 2049) (hk : k + 3 ≤ 601024) (hn : n + 18 ≤ 7293000) (cont : ∀ (A : aA) (lf : Nat → Int32) (Pb : pc_C) (gt gp gh : Nat → Int32) (Pv : pc_C) (gd : Nat → Int32) (Pq : pc_C) (of : Nat → Int64) (th : Nat) (fo lo ps pb ip : Nat → Int32) (nb nv en sw : Nat) (fr ln tr ct rw dr : Nat → Int32), AI mp A → CL mp A lf Pb gt gp gh Pv gd Pq → MO A fo lo ps pb ip → bV D bcl Γ 7 (wS ad cI cZ mp lf (aN A) Pb gt gp gh Pv gd Pq (aCr A) ((ao, .inl (cJ, 1, .inr (.inl of))) :: wM am cI cZ mp th (aCr A) (aFd A) fo (aN A) lo (aNp A) ps pb ip nb fr ln tr nv ct rw dr en sw [])) (k + 3) (n + 18) 1071 [(0, .ref b), (1, .ref (ad 0)), (2, .ref (am 0)), (3, .ref ao), (4, .int (nI (i)))] []) : bV D bcl Γ 7 (wS ad cI cZ mp lf (aN A) Pb gt gp gh Pv gd Pq (aCr A) ((ao, .inl (cJ, 1, .inr (.inl of))) :: wM am cI cZ mp th (aCr A) (aFd A) fo (aN A) lo (aNp A) ps pb ip nb fr ln tr nv ct rw dr en sw [])) k n 804 [(0, .ref b), (1, .ref (ad 0)), (2, .ref (am 0)), (3, .ref ao), (4, .int (nI (i)))] [] := by
  refine bV.aload_n G d_law_804 rfl ?_
  refine bV.aload_n G d_law_805 rfl ?_
  refine bV.iload G d_law_806 rfl ?_
  refine bV.iconst (v := nI 1) G d_law_808 (by decide) ?_
  refine bV.iaddN G d_law_809 ?_
  refine bV.sld G hX (vp_in_nI (by omega) (by omega)) d_law_810 ?_
  refine bV.aload_n G d_law_811 rfl ?_
  refine bV.iload G d_law_812 rfl ?_
  refine bV.iconst (v := nI 2) G d_law_814 (by decide) ?_
  refine bV.iaddN G d_law_815 ?_
  refine bV.sld G hX (vp_in_nI (by omega) (by omega)) d_law_816 ?_
  refine bV.aload_n G d_law_817 rfl ?_
  refine bV.callSi G m_W_packByte bw_507 bw_506 (h_packByte hA hC (v := (xs (nI (i + 1)).toNatClampNeg)) (u := (xs (nI (i + 2)).toNatClampNeg)) ) rfl rfl ⟨by decide, by decide⟩ ⟨by show k + 2 ≤ 601024; omega, by show n + 12 ≤ 7293000; omega⟩ (Nat.le_of_ble_eq_true rfl) d_law_818 (fun x9 ws9 h9 => ?_)
  obtain ⟨k9, A1, lf1, Pb1, gt1, gp1, gh1, Pv1, gd1, Pq1, of1, rfl, hk9, hHK, hA1, hC1, h9e⟩ := h9
  rw [h9e]
  refine bV.istore G (lv' := [(0, .ref b), (1, .ref (ad 0)), (2, .ref (am 0)), (3, .ref ao), (4, .int (nI (i))), (5, .int (nI (k9)))]) d_law_821 (by decide) rfl rfl ?_
  refine bV.aload_n G d_law_823 rfl ?_
  refine bV.aload_n G d_law_824 rfl ?_
  refine bV.iload G d_law_825 rfl ?_
  refine bV.iconst (v := nI 1) G d_law_827 (by decide) ?_
  refine bV.iaddN G d_law_828 ?_
  refine bV.sld G hX (vp_in_nI (by omega) (by omega)) d_law_829 ?_
  refine bV.aload_n G d_law_830 rfl ?_
  refine bV.iload G d_law_831 rfl ?_
  refine bV.iconst (v := nI 2) G d_law_833 (by decide) ?_
  refine bV.iaddN G d_law_834 ?_
  refine bV.sld G hX (vp_in_nI (by omega) (by omega)) d_law_835 ?_
  refine bV.perm (ws' := (wM am cI cZ mp th (aCr A) (aFd A) fo (aN A) lo (aNp A) ps pb ip nb fr ln tr nv ct rw dr en sw (wS ad cI cZ mp lf1 (aN A1) Pb1 gt1 gp1 gh1 Pv1 gd1 Pq1 (aCr A1) [(ao, .inl (cJ, 1, .inr (.inl of1)))]))) [21, 22, 23, 24, 25, 26, 27, 28, 29, 30, 31, 32, 0, 1, 2, 3, 4, 5, 6, 7, 8, 9, 10, 11, 12, 13, 14, 15, 16, 17, 18, 19, 20] (by decide) rfl ?_
  refine bV.callVi G m_M_packByte bw_717 bw_718 bw_716 (r_packByte hA hM (v := (xs (nI (i + 1)).toNatClampNeg)) (u := (xs (nI (i + 2)).toNatClampNeg)) ) 0 rfl rfl rfl rfl rfl ⟨by decide, by decide⟩ ⟨by show k + 2 + 0 ≤ 601024; omega, by show n + 12 + 0 ≤ 7293000; omega⟩ (Nat.le_of_ble_eq_true rfl) d_law_836 (fun x8 ws8 h8 => ?_)
  obtain ⟨A2, th1, fo1, lo1, ps1, pb1, ip1, nb1, nv1, en1, sw1, fr1, ln1, tr1, ct1, rw1, dr1, hHM, hM1, h8e⟩ := h8
  rw [h8e]
  obtain ⟨rfl, rfl, hv9⟩ := u_packByte (ov := of1 0) hHK hHM
  refine bV.istore G (lv' := [(0, .ref b), (1, .ref (ad 0)), (2, .ref (am 0)), (3, .ref ao), (4, .int (nI (i))), (5, .int (nI (k9))), (6, .int (x8))]) d_law_839 (by decide) rfl rfl ?_
  refine bV.aload_n G d_law_841 rfl ?_
  refine bV.callVi G m_M_thrown bw_610 bw_611 bw_609 c_M_thrown 0 rfl rfl rfl rfl rfl ⟨by decide, by decide⟩ ⟨by show k + 2 + 0 + 0 ≤ 601024; omega, by show n + 12 + 0 + 0 ≤ 7293000; omega⟩ (Nat.le_of_ble_eq_true rfl) d_law_842 (fun x7 ws7 h7 => ?_)
  obtain ⟨rfl, h7e⟩ := h7
  rw [h7e]
  refine bV.iload G d_law_845 rfl ?_
  refine bV.icmp_eqN (tgt := 852) G d_law_847 (by decide) (by omega) (by omega) (fun _ => ?_) (fun c => absurd rfl c)
  refine bV.iload G d_law_852 rfl ?_
  refine bV.if_neN (tgt := 869) G d_law_854 (by decide) (by omega) (fun c0 => ?_) (fun c0 => ?_)
  · refine bV.goto (tgt := 1071) G d_law_869 (by decide) ?_
    refine bV.perm (ws' := (wS ad cI cZ mp lf1 (aN A1) Pb1 gt1 gp1 gh1 Pv1 gd1 Pq1 (aCr A1) ((ao, .inl (cJ, 1, .inr (.inl of1))) :: wM am cI cZ mp k9 (aCr A1) (aFd A1) fo1 (aN A1) lo1 (aNp A1) ps1 pb1 ip1 nb1 fr1 ln1 tr1 nv1 ct1 rw1 dr1 en1 sw1 []))) [12, 13, 14, 15, 16, 17, 18, 19, 20, 21, 22, 23, 24, 25, 26, 27, 28, 29, 30, 31, 32, 0, 1, 2, 3, 4, 5, 6, 7, 8, 9, 10, 11] (by decide) rfl ?_
    refine bV.ltake (lv' := [(0, .ref b), (1, .ref (ad 0)), (2, .ref (am 0)), (3, .ref ao), (4, .int (nI (i)))]) (ex := [(5, .int (nI (k9))), (6, .int (x8))]) rfl ?_
    refine bV.widen (k' := k + 3) (n' := n + 18) (by show k + 2 + 0 + 0 ≤ k + 3; omega) (by show n + 12 + 0 + 0 ≤ n + 18; omega) ?_
    exact cont A1 lf1 Pb1 gt1 gp1 gh1 Pv1 gd1 Pq1 of1 k9 fo1 lo1 ps1 pb1 ip1 nb1 nv1 en1 sw1 fr1 ln1 tr1 ct1 rw1 dr1 hA1 hC1 hM1
  · refine bV.aload_n G d_law_857 rfl ?_
    refine bV.iconst (v := nI 0) G d_law_858 (by decide) ?_
    refine bV.laload G 32 2 rfl rfl (vp_in_nI (by decide) (by decide)) d_law_859 ?_
    refine bV.iload G d_law_860 rfl ?_
    refine bV.i2l G d_law_862 ?_
    refine bV.lcmp G d_law_863 ?_
    refine bV.topi (y := 0) (lg_cmp_self (by rw [nI_clamp (by decide)]; exact hv9 c0)) ?_
    refine bV.if_eq (tgt := 869) G d_law_864 (by decide) (fun _ => ?_) (fun c => absurd rfl c)
    refine bV.goto (tgt := 1071) G d_law_869 (by decide) ?_
    refine bV.perm (ws' := (wS ad cI cZ mp lf1 (aN A1) Pb1 gt1 gp1 gh1 Pv1 gd1 Pq1 (aCr A1) ((ao, .inl (cJ, 1, .inr (.inl of1))) :: wM am cI cZ mp k9 (aCr A1) (aFd A1) fo1 (aN A1) lo1 (aNp A1) ps1 pb1 ip1 nb1 fr1 ln1 tr1 nv1 ct1 rw1 dr1 en1 sw1 []))) [12, 13, 14, 15, 16, 17, 18, 19, 20, 21, 22, 23, 24, 25, 26, 27, 28, 29, 30, 31, 32, 0, 1, 2, 3, 4, 5, 6, 7, 8, 9, 10, 11] (by decide) rfl ?_
    refine bV.ltake (lv' := [(0, .ref b), (1, .ref (ad 0)), (2, .ref (am 0)), (3, .ref ao), (4, .int (nI (i)))]) (ex := [(5, .int (nI (k9))), (6, .int (x8))]) rfl ?_
    refine bV.widen (k' := k + 3) (n' := n + 18) (by show k + 2 + 0 + 0 ≤ k + 3; omega) (by show n + 12 + 0 + 0 ≤ n + 18; omega) ?_
    exact cont A1 lf1 Pb1 gt1 gp1 gh1 Pv1 gd1 Pq1 of1 k9 fo1 lo1 ps1 pb1 ip1 nb1 nv1 en1 sw1 fr1 ln1 tr1 ct1 rw1 dr1 hA1 hC1 hM1
set_option maxRecDepth 20000 in
set_option maxHeartbeats 4000000 in
theorem lc_digest {D : va_G} {cI cZ cJ : ClassId} {Γ : bCtx} {ret0 : Option FieldType} {nm : String} {tb : bTb} {ad am : Nat → Nat} {ao mp : Nat} {lf : Nat → Int32} {Pb : pc_C} {gt gp gh : Nat → Int32} {Pv : pc_C} {gd : Nat → Int32} {Pq : pc_C} {A : aA} {of : Nat → Int64} {th : Nat} {fo lo ps pb ip : Nat → Int32} {nb nv en sw : Nat} {fr ln tr ct rw dr : Nat → Int32} {b L i k n : Nat} {xs : Nat → Int32} (G : bG D bcl (tys3 cI cZ cJ) Γ "BoardStoreLaw" code 7 ret0 nm tb room_1) (hX : bSX Γ b L xs) (hA : AI mp A) (hC : CL mp A lf Pb gt gp gh Pv gd Pq) (hM : MO A fo lo ps pb ip) (hi : i + 4 ≤ L) (hL : L ≤ 2049) (hk : k + 3 ≤ 601024) (hn : n + 18 ≤ 7293000) (cont : ∀ (A : aA) (lf : Nat → Int32) (Pb : pc_C) (gt gp gh : Nat → Int32) (Pv : pc_C) (gd : Nat → Int32) (Pq : pc_C) (of : Nat → Int64) (th : Nat) (fo lo ps pb ip : Nat → Int32) (nb nv en sw : Nat) (fr ln tr ct rw dr : Nat → Int32), AI mp A → CL mp A lf Pb gt gp gh Pv gd Pq → MO A fo lo ps pb ip → bV D bcl Γ 7 (wS ad cI cZ mp lf (aN A) Pb gt gp gh Pv gd Pq (aCr A) ((ao, .inl (cJ, 1, .inr (.inl of))) :: wM am cI cZ mp th (aCr A) (aFd A) fo (aN A) lo (aNp A) ps pb ip nb fr ln tr nv ct rw dr en sw [])) (k + 3) (n + 18) 1071 [(0, .ref b), (1, .ref (ad 0)), (2, .ref (am 0)), (3, .ref ao), (4, .int (nI (i)))] []) : bV D bcl Γ 7 (wS ad cI cZ mp lf (aN A) Pb gt gp gh Pv gd Pq (aCr A) ((ao, .inl (cJ, 1, .inr (.inl of))) :: wM am cI cZ mp th (aCr A) (aFd A) fo (aN A) lo (aNp A) ps pb ip nb fr ln tr nv ct rw dr en sw [])) k n 872 [(0, .ref b), (1, .ref (ad 0)), (2, .ref (am 0)), (3, .ref ao), (4, .int (nI (i)))] [] := by
  refine bV.aload_n G d_law_872 rfl ?_
  refine bV.aload_n G d_law_873 rfl ?_
  refine bV.iload G d_law_874 rfl ?_
  refine bV.iconst (v := nI 1) G d_law_876 (by decide) ?_
  refine bV.iaddN G d_law_877 ?_
  refine bV.sld G hX (vp_in_nI (by omega) (by omega)) d_law_878 ?_
  refine bV.aload_n G d_law_879 rfl ?_
  refine bV.iload G d_law_880 rfl ?_
  refine bV.iconst (v := nI 2) G d_law_882 (by decide) ?_
  refine bV.iaddN G d_law_883 ?_
  refine bV.sld G hX (vp_in_nI (by omega) (by omega)) d_law_884 ?_
  refine bV.aload_n G d_law_885 rfl ?_
  refine bV.callSi G m_W_digest bw_514 bw_513 (h_digest hA hC (v := (xs (nI (i + 1)).toNatClampNeg)) (u := (xs (nI (i + 2)).toNatClampNeg)) ) rfl rfl ⟨by decide, by decide⟩ ⟨by show k + 3 ≤ 601024; omega, by show n + 18 ≤ 7293000; omega⟩ (Nat.le_of_ble_eq_true rfl) d_law_886 (fun x9 ws9 h9 => ?_)
  obtain ⟨k9, A1, lf1, Pb1, gt1, gp1, gh1, Pv1, gd1, Pq1, of1, rfl, hk9, hHK, hA1, hC1, h9e⟩ := h9
  rw [h9e]
  refine bV.istore G (lv' := [(0, .ref b), (1, .ref (ad 0)), (2, .ref (am 0)), (3, .ref ao), (4, .int (nI (i))), (5, .int (nI (k9)))]) d_law_889 (by decide) rfl rfl ?_
  refine bV.aload_n G d_law_891 rfl ?_
  refine bV.aload_n G d_law_892 rfl ?_
  refine bV.iload G d_law_893 rfl ?_
  refine bV.iconst (v := nI 1) G d_law_895 (by decide) ?_
  refine bV.iaddN G d_law_896 ?_
  refine bV.sld G hX (vp_in_nI (by omega) (by omega)) d_law_897 ?_
  refine bV.aload_n G d_law_898 rfl ?_
  refine bV.iload G d_law_899 rfl ?_
  refine bV.iconst (v := nI 2) G d_law_901 (by decide) ?_
  refine bV.iaddN G d_law_902 ?_
  refine bV.sld G hX (vp_in_nI (by omega) (by omega)) d_law_903 ?_
  refine bV.perm (ws' := (wM am cI cZ mp th (aCr A) (aFd A) fo (aN A) lo (aNp A) ps pb ip nb fr ln tr nv ct rw dr en sw (wS ad cI cZ mp lf1 (aN A1) Pb1 gt1 gp1 gh1 Pv1 gd1 Pq1 (aCr A1) [(ao, .inl (cJ, 1, .inr (.inl of1)))]))) [21, 22, 23, 24, 25, 26, 27, 28, 29, 30, 31, 32, 0, 1, 2, 3, 4, 5, 6, 7, 8, 9, 10, 11, 12, 13, 14, 15, 16, 17, 18, 19, 20] (by decide) rfl ?_
  refine bV.callVi G m_M_digest bw_701 bw_702 bw_700 (r_digest hA hM (v := (xs (nI (i + 1)).toNatClampNeg)) (u := (xs (nI (i + 2)).toNatClampNeg)) ) 0 rfl rfl rfl rfl rfl ⟨by decide, by decide⟩ ⟨by show k + 3 + 0 ≤ 601024; omega, by show n + 18 + 0 ≤ 7293000; omega⟩ (Nat.le_of_ble_eq_true rfl) d_law_904 (fun x8 ws8 h8 => ?_)
  obtain ⟨A2, th1, fo1, lo1, ps1, pb1, ip1, nb1, nv1, en1, sw1, fr1, ln1, tr1, ct1, rw1, dr1, hHM, hM1, h8e⟩ := h8
  rw [h8e]
  obtain ⟨rfl, rfl, hv9⟩ := u_digest (ov := of1 0) hHK hHM
  refine bV.istore G (lv' := [(0, .ref b), (1, .ref (ad 0)), (2, .ref (am 0)), (3, .ref ao), (4, .int (nI (i))), (5, .int (nI (k9))), (6, .int (x8))]) d_law_907 (by decide) rfl rfl ?_
  refine bV.aload_n G d_law_909 rfl ?_
  refine bV.callVi G m_M_thrown bw_610 bw_611 bw_609 c_M_thrown 0 rfl rfl rfl rfl rfl ⟨by decide, by decide⟩ ⟨by show k + 3 + 0 + 0 ≤ 601024; omega, by show n + 18 + 0 + 0 ≤ 7293000; omega⟩ (Nat.le_of_ble_eq_true rfl) d_law_910 (fun x7 ws7 h7 => ?_)
  obtain ⟨rfl, h7e⟩ := h7
  rw [h7e]
  refine bV.iload G d_law_913 rfl ?_
  refine bV.icmp_eqN (tgt := 920) G d_law_915 (by decide) (by omega) (by omega) (fun _ => ?_) (fun c => absurd rfl c)
  refine bV.iload G d_law_920 rfl ?_
  refine bV.if_neN (tgt := 937) G d_law_922 (by decide) (by omega) (fun c0 => ?_) (fun c0 => ?_)
  · refine bV.goto (tgt := 1071) G d_law_937 (by decide) ?_
    refine bV.perm (ws' := (wS ad cI cZ mp lf1 (aN A1) Pb1 gt1 gp1 gh1 Pv1 gd1 Pq1 (aCr A1) ((ao, .inl (cJ, 1, .inr (.inl of1))) :: wM am cI cZ mp k9 (aCr A1) (aFd A1) fo1 (aN A1) lo1 (aNp A1) ps1 pb1 ip1 nb1 fr1 ln1 tr1 nv1 ct1 rw1 dr1 en1 sw1 []))) [12, 13, 14, 15, 16, 17, 18, 19, 20, 21, 22, 23, 24, 25, 26, 27, 28, 29, 30, 31, 32, 0, 1, 2, 3, 4, 5, 6, 7, 8, 9, 10, 11] (by decide) rfl ?_
    refine bV.ltake (lv' := [(0, .ref b), (1, .ref (ad 0)), (2, .ref (am 0)), (3, .ref ao), (4, .int (nI (i)))]) (ex := [(5, .int (nI (k9))), (6, .int (x8))]) rfl ?_
    refine bV.widen (k' := k + 3) (n' := n + 18) (by show k + 3 + 0 + 0 ≤ k + 3; omega) (by show n + 18 + 0 + 0 ≤ n + 18; omega) ?_
    exact cont A1 lf1 Pb1 gt1 gp1 gh1 Pv1 gd1 Pq1 of1 k9 fo1 lo1 ps1 pb1 ip1 nb1 nv1 en1 sw1 fr1 ln1 tr1 ct1 rw1 dr1 hA1 hC1 hM1
  · refine bV.aload_n G d_law_925 rfl ?_
    refine bV.iconst (v := nI 0) G d_law_926 (by decide) ?_
    refine bV.laload G 32 2 rfl rfl (vp_in_nI (by decide) (by decide)) d_law_927 ?_
    refine bV.iload G d_law_928 rfl ?_
    refine bV.i2l G d_law_930 ?_
    refine bV.lcmp G d_law_931 ?_
    refine bV.topi (y := 0) (lg_cmp_self (by rw [nI_clamp (by decide)]; exact hv9 c0)) ?_
    refine bV.if_eq (tgt := 937) G d_law_932 (by decide) (fun _ => ?_) (fun c => absurd rfl c)
    refine bV.goto (tgt := 1071) G d_law_937 (by decide) ?_
    refine bV.perm (ws' := (wS ad cI cZ mp lf1 (aN A1) Pb1 gt1 gp1 gh1 Pv1 gd1 Pq1 (aCr A1) ((ao, .inl (cJ, 1, .inr (.inl of1))) :: wM am cI cZ mp k9 (aCr A1) (aFd A1) fo1 (aN A1) lo1 (aNp A1) ps1 pb1 ip1 nb1 fr1 ln1 tr1 nv1 ct1 rw1 dr1 en1 sw1 []))) [12, 13, 14, 15, 16, 17, 18, 19, 20, 21, 22, 23, 24, 25, 26, 27, 28, 29, 30, 31, 32, 0, 1, 2, 3, 4, 5, 6, 7, 8, 9, 10, 11] (by decide) rfl ?_
    refine bV.ltake (lv' := [(0, .ref b), (1, .ref (ad 0)), (2, .ref (am 0)), (3, .ref ao), (4, .int (nI (i)))]) (ex := [(5, .int (nI (k9))), (6, .int (x8))]) rfl ?_
    refine bV.widen (k' := k + 3) (n' := n + 18) (by show k + 3 + 0 + 0 ≤ k + 3; omega) (by show n + 18 + 0 + 0 ≤ n + 18; omega) ?_
    exact cont A1 lf1 Pb1 gt1 gp1 gh1 Pv1 gd1 Pq1 of1 k9 fo1 lo1 ps1 pb1 ip1 nb1 nv1 en1 sw1 fr1 ln1 tr1 ct1 rw1 dr1 hA1 hC1 hM1
set_option maxRecDepth 20000 in
set_option maxHeartbeats 4000000 in
theorem lc_out {D : va_G} {cI cZ cJ : ClassId} {Γ : bCtx} {ret0 : Option FieldType} {nm : String} {tb : bTb} {ad am : Nat → Nat} {ao mp : Nat} {lf : Nat → Int32} {Pb : pc_C} {gt gp gh : Nat → Int32} {Pv : pc_C} {gd : Nat → Int32} {Pq : pc_C} {A : aA} {of : Nat → Int64} {th : Nat} {fo lo ps pb ip : Nat → Int32} {nb nv en sw : Nat} {fr ln tr ct rw dr : Nat → Int32} {b L i k n : Nat} {xs : Nat → Int32} (G : bG D bcl (tys3 cI cZ cJ) Γ "BoardStoreLaw" code 7 ret0 nm tb room_1) (hX : bSX Γ b L xs) (hA : AI mp A) (hC : CL mp A lf Pb gt gp gh Pv gd Pq) (hM : MO A fo lo ps pb ip) (hi : i + 4 ≤ L) (hL : L ≤ 2049) (hk : k + 3 ≤ 601024) (hn : n + 18 ≤ 7293000) (cont : ∀ (A : aA) (lf : Nat → Int32) (Pb : pc_C) (gt gp gh : Nat → Int32) (Pv : pc_C) (gd : Nat → Int32) (Pq : pc_C) (of : Nat → Int64) (th : Nat) (fo lo ps pb ip : Nat → Int32) (nb nv en sw : Nat) (fr ln tr ct rw dr : Nat → Int32), AI mp A → CL mp A lf Pb gt gp gh Pv gd Pq → MO A fo lo ps pb ip → bV D bcl Γ 7 (wS ad cI cZ mp lf (aN A) Pb gt gp gh Pv gd Pq (aCr A) ((ao, .inl (cJ, 1, .inr (.inl of))) :: wM am cI cZ mp th (aCr A) (aFd A) fo (aN A) lo (aNp A) ps pb ip nb fr ln tr nv ct rw dr en sw [])) (k + 3) (n + 18) 1071 [(0, .ref b), (1, .ref (ad 0)), (2, .ref (am 0)), (3, .ref ao), (4, .int (nI (i)))] []) : bV D bcl Γ 7 (wS ad cI cZ mp lf (aN A) Pb gt gp gh Pv gd Pq (aCr A) ((ao, .inl (cJ, 1, .inr (.inl of))) :: wM am cI cZ mp th (aCr A) (aFd A) fo (aN A) lo (aNp A) ps pb ip nb fr ln tr nv ct rw dr en sw [])) k n 940 [(0, .ref b), (1, .ref (ad 0)), (2, .ref (am 0)), (3, .ref ao), (4, .int (nI (i)))] [] := by
  refine bV.aload_n G d_law_940 rfl ?_
  refine bV.aload_n G d_law_941 rfl ?_
  refine bV.iload G d_law_942 rfl ?_
  refine bV.iconst (v := nI 1) G d_law_944 (by decide) ?_
  refine bV.iaddN G d_law_945 ?_
  refine bV.sld G hX (vp_in_nI (by omega) (by omega)) d_law_946 ?_
  refine bV.aload_n G d_law_947 rfl ?_
  refine bV.iload G d_law_948 rfl ?_
  refine bV.iconst (v := nI 2) G d_law_950 (by decide) ?_
  refine bV.iaddN G d_law_951 ?_
  refine bV.sld G hX (vp_in_nI (by omega) (by omega)) d_law_952 ?_
  refine bV.aload_n G d_law_953 rfl ?_
  refine bV.callSi G m_W_out bw_526 bw_525 (h_out hA hC (v := (xs (nI (i + 1)).toNatClampNeg)) (u := (xs (nI (i + 2)).toNatClampNeg)) ) rfl rfl ⟨by decide, by decide⟩ ⟨by show k + 3 ≤ 601024; omega, by show n + 18 ≤ 7293000; omega⟩ (Nat.le_of_ble_eq_true rfl) d_law_954 (fun x9 ws9 h9 => ?_)
  obtain ⟨k9, A1, lf1, Pb1, gt1, gp1, gh1, Pv1, gd1, Pq1, of1, rfl, hk9, hHK, hA1, hC1, h9e⟩ := h9
  rw [h9e]
  refine bV.istore G (lv' := [(0, .ref b), (1, .ref (ad 0)), (2, .ref (am 0)), (3, .ref ao), (4, .int (nI (i))), (5, .int (nI (k9)))]) d_law_957 (by decide) rfl rfl ?_
  refine bV.aload_n G d_law_959 rfl ?_
  refine bV.aload_n G d_law_960 rfl ?_
  refine bV.iload G d_law_961 rfl ?_
  refine bV.iconst (v := nI 1) G d_law_963 (by decide) ?_
  refine bV.iaddN G d_law_964 ?_
  refine bV.sld G hX (vp_in_nI (by omega) (by omega)) d_law_965 ?_
  refine bV.aload_n G d_law_966 rfl ?_
  refine bV.iload G d_law_967 rfl ?_
  refine bV.iconst (v := nI 2) G d_law_969 (by decide) ?_
  refine bV.iaddN G d_law_970 ?_
  refine bV.sld G hX (vp_in_nI (by omega) (by omega)) d_law_971 ?_
  refine bV.perm (ws' := (wM am cI cZ mp th (aCr A) (aFd A) fo (aN A) lo (aNp A) ps pb ip nb fr ln tr nv ct rw dr en sw (wS ad cI cZ mp lf1 (aN A1) Pb1 gt1 gp1 gh1 Pv1 gd1 Pq1 (aCr A1) [(ao, .inl (cJ, 1, .inr (.inl of1)))]))) [21, 22, 23, 24, 25, 26, 27, 28, 29, 30, 31, 32, 0, 1, 2, 3, 4, 5, 6, 7, 8, 9, 10, 11, 12, 13, 14, 15, 16, 17, 18, 19, 20] (by decide) rfl ?_
  refine bV.callVi G m_M_out bw_693 bw_694 bw_692 (r_out hA hM (v := (xs (nI (i + 1)).toNatClampNeg)) (u := (xs (nI (i + 2)).toNatClampNeg)) ) 0 rfl rfl rfl rfl rfl ⟨by decide, by decide⟩ ⟨by show k + 3 + 0 ≤ 601024; omega, by show n + 18 + 0 ≤ 7293000; omega⟩ (Nat.le_of_ble_eq_true rfl) d_law_972 (fun x8 ws8 h8 => ?_)
  obtain ⟨A2, th1, fo1, lo1, ps1, pb1, ip1, nb1, nv1, en1, sw1, fr1, ln1, tr1, ct1, rw1, dr1, hHM, hM1, h8e⟩ := h8
  rw [h8e]
  obtain ⟨rfl, rfl, hv9⟩ := u_out (ov := of1 0) hHK hHM
  refine bV.istore G (lv' := [(0, .ref b), (1, .ref (ad 0)), (2, .ref (am 0)), (3, .ref ao), (4, .int (nI (i))), (5, .int (nI (k9))), (6, .int (x8))]) d_law_975 (by decide) rfl rfl ?_
  refine bV.aload_n G d_law_977 rfl ?_
  refine bV.callVi G m_M_thrown bw_610 bw_611 bw_609 c_M_thrown 0 rfl rfl rfl rfl rfl ⟨by decide, by decide⟩ ⟨by show k + 3 + 0 + 0 ≤ 601024; omega, by show n + 18 + 0 + 0 ≤ 7293000; omega⟩ (Nat.le_of_ble_eq_true rfl) d_law_978 (fun x7 ws7 h7 => ?_)
  obtain ⟨rfl, h7e⟩ := h7
  rw [h7e]
  refine bV.iload G d_law_981 rfl ?_
  refine bV.icmp_eqN (tgt := 988) G d_law_983 (by decide) (by omega) (by omega) (fun _ => ?_) (fun c => absurd rfl c)
  refine bV.iload G d_law_988 rfl ?_
  refine bV.if_neN (tgt := 1005) G d_law_990 (by decide) (by omega) (fun c0 => ?_) (fun c0 => ?_)
  · refine bV.goto (tgt := 1071) G d_law_1005 (by decide) ?_
    refine bV.perm (ws' := (wS ad cI cZ mp lf1 (aN A1) Pb1 gt1 gp1 gh1 Pv1 gd1 Pq1 (aCr A1) ((ao, .inl (cJ, 1, .inr (.inl of1))) :: wM am cI cZ mp k9 (aCr A1) (aFd A1) fo1 (aN A1) lo1 (aNp A1) ps1 pb1 ip1 nb1 fr1 ln1 tr1 nv1 ct1 rw1 dr1 en1 sw1 []))) [12, 13, 14, 15, 16, 17, 18, 19, 20, 21, 22, 23, 24, 25, 26, 27, 28, 29, 30, 31, 32, 0, 1, 2, 3, 4, 5, 6, 7, 8, 9, 10, 11] (by decide) rfl ?_
    refine bV.ltake (lv' := [(0, .ref b), (1, .ref (ad 0)), (2, .ref (am 0)), (3, .ref ao), (4, .int (nI (i)))]) (ex := [(5, .int (nI (k9))), (6, .int (x8))]) rfl ?_
    refine bV.widen (k' := k + 3) (n' := n + 18) (by show k + 3 + 0 + 0 ≤ k + 3; omega) (by show n + 18 + 0 + 0 ≤ n + 18; omega) ?_
    exact cont A1 lf1 Pb1 gt1 gp1 gh1 Pv1 gd1 Pq1 of1 k9 fo1 lo1 ps1 pb1 ip1 nb1 nv1 en1 sw1 fr1 ln1 tr1 ct1 rw1 dr1 hA1 hC1 hM1
  · refine bV.aload_n G d_law_993 rfl ?_
    refine bV.iconst (v := nI 0) G d_law_994 (by decide) ?_
    refine bV.laload G 32 2 rfl rfl (vp_in_nI (by decide) (by decide)) d_law_995 ?_
    refine bV.iload G d_law_996 rfl ?_
    refine bV.i2l G d_law_998 ?_
    refine bV.lcmp G d_law_999 ?_
    refine bV.topi (y := 0) (lg_cmp_self (by rw [nI_clamp (by decide)]; exact hv9 c0)) ?_
    refine bV.if_eq (tgt := 1005) G d_law_1000 (by decide) (fun _ => ?_) (fun c => absurd rfl c)
    refine bV.goto (tgt := 1071) G d_law_1005 (by decide) ?_
    refine bV.perm (ws' := (wS ad cI cZ mp lf1 (aN A1) Pb1 gt1 gp1 gh1 Pv1 gd1 Pq1 (aCr A1) ((ao, .inl (cJ, 1, .inr (.inl of1))) :: wM am cI cZ mp k9 (aCr A1) (aFd A1) fo1 (aN A1) lo1 (aNp A1) ps1 pb1 ip1 nb1 fr1 ln1 tr1 nv1 ct1 rw1 dr1 en1 sw1 []))) [12, 13, 14, 15, 16, 17, 18, 19, 20, 21, 22, 23, 24, 25, 26, 27, 28, 29, 30, 31, 32, 0, 1, 2, 3, 4, 5, 6, 7, 8, 9, 10, 11] (by decide) rfl ?_
    refine bV.ltake (lv' := [(0, .ref b), (1, .ref (ad 0)), (2, .ref (am 0)), (3, .ref ao), (4, .int (nI (i)))]) (ex := [(5, .int (nI (k9))), (6, .int (x8))]) rfl ?_
    refine bV.widen (k' := k + 3) (n' := n + 18) (by show k + 3 + 0 + 0 ≤ k + 3; omega) (by show n + 18 + 0 + 0 ≤ n + 18; omega) ?_
    exact cont A1 lf1 Pb1 gt1 gp1 gh1 Pv1 gd1 Pq1 of1 k9 fo1 lo1 ps1 pb1 ip1 nb1 nv1 en1 sw1 fr1 ln1 tr1 ct1 rw1 dr1 hA1 hC1 hM1
set_option maxRecDepth 20000 in
set_option maxHeartbeats 4000000 in
theorem lc_drop {D : va_G} {cI cZ cJ : ClassId} {Γ : bCtx} {ret0 : Option FieldType} {nm : String} {tb : bTb} {ad am : Nat → Nat} {ao mp : Nat} {lf : Nat → Int32} {Pb : pc_C} {gt gp gh : Nat → Int32} {Pv : pc_C} {gd : Nat → Int32} {Pq : pc_C} {A : aA} {of : Nat → Int64} {th : Nat} {fo lo ps pb ip : Nat → Int32} {nb nv en sw : Nat} {fr ln tr ct rw dr : Nat → Int32} {b L i k n : Nat} {xs : Nat → Int32} (G : bG D bcl (tys3 cI cZ cJ) Γ "BoardStoreLaw" code 7 ret0 nm tb room_1) (hX : bSX Γ b L xs) (hA : AI mp A) (hC : CL mp A lf Pb gt gp gh Pv gd Pq) (hM : MO A fo lo ps pb ip) (hi : i + 4 ≤ L) (hL : L ≤ 2049) (hk : k + 3 ≤ 601024) (hn : n + 18 ≤ 7293000) (cont : ∀ (A : aA) (lf : Nat → Int32) (Pb : pc_C) (gt gp gh : Nat → Int32) (Pv : pc_C) (gd : Nat → Int32) (Pq : pc_C) (of : Nat → Int64) (th : Nat) (fo lo ps pb ip : Nat → Int32) (nb nv en sw : Nat) (fr ln tr ct rw dr : Nat → Int32), AI mp A → CL mp A lf Pb gt gp gh Pv gd Pq → MO A fo lo ps pb ip → bV D bcl Γ 7 (wS ad cI cZ mp lf (aN A) Pb gt gp gh Pv gd Pq (aCr A) ((ao, .inl (cJ, 1, .inr (.inl of))) :: wM am cI cZ mp th (aCr A) (aFd A) fo (aN A) lo (aNp A) ps pb ip nb fr ln tr nv ct rw dr en sw [])) (k + 3) (n + 18) 1071 [(0, .ref b), (1, .ref (ad 0)), (2, .ref (am 0)), (3, .ref ao), (4, .int (nI (i)))] []) : bV D bcl Γ 7 (wS ad cI cZ mp lf (aN A) Pb gt gp gh Pv gd Pq (aCr A) ((ao, .inl (cJ, 1, .inr (.inl of))) :: wM am cI cZ mp th (aCr A) (aFd A) fo (aN A) lo (aNp A) ps pb ip nb fr ln tr nv ct rw dr en sw [])) k n 1008 [(0, .ref b), (1, .ref (ad 0)), (2, .ref (am 0)), (3, .ref ao), (4, .int (nI (i)))] [] := by
  refine bV.aload_n G d_law_1008 rfl ?_
  refine bV.aload_n G d_law_1009 rfl ?_
  refine bV.iload G d_law_1010 rfl ?_
  refine bV.iconst (v := nI 1) G d_law_1012 (by decide) ?_
  refine bV.iaddN G d_law_1013 ?_
  refine bV.sld G hX (vp_in_nI (by omega) (by omega)) d_law_1014 ?_
  refine bV.aload_n G d_law_1015 rfl ?_
  refine bV.callSi G m_W_drop bw_533 bw_532 (h_drop hA hC (v := (xs (nI (i + 1)).toNatClampNeg)) ) rfl rfl ⟨by decide, by decide⟩ ⟨by show k + 2 ≤ 601024; omega, by show n + 12 ≤ 7293000; omega⟩ (Nat.le_of_ble_eq_true rfl) d_law_1016 (fun x9 ws9 h9 => ?_)
  obtain ⟨k9, A1, lf1, Pb1, gt1, gp1, gh1, Pv1, gd1, Pq1, of1, rfl, hk9, hHK, hA1, hC1, h9e⟩ := h9
  rw [h9e]
  refine bV.istore G (lv' := [(0, .ref b), (1, .ref (ad 0)), (2, .ref (am 0)), (3, .ref ao), (4, .int (nI (i))), (5, .int (nI (k9)))]) d_law_1019 (by decide) rfl rfl ?_
  refine bV.aload_n G d_law_1021 rfl ?_
  refine bV.aload_n G d_law_1022 rfl ?_
  refine bV.iload G d_law_1023 rfl ?_
  refine bV.iconst (v := nI 1) G d_law_1025 (by decide) ?_
  refine bV.iaddN G d_law_1026 ?_
  refine bV.sld G hX (vp_in_nI (by omega) (by omega)) d_law_1027 ?_
  refine bV.perm (ws' := (wM am cI cZ mp th (aCr A) (aFd A) fo (aN A) lo (aNp A) ps pb ip nb fr ln tr nv ct rw dr en sw (wS ad cI cZ mp lf1 (aN A1) Pb1 gt1 gp1 gh1 Pv1 gd1 Pq1 (aCr A1) [(ao, .inl (cJ, 1, .inr (.inl of1)))]))) [21, 22, 23, 24, 25, 26, 27, 28, 29, 30, 31, 32, 0, 1, 2, 3, 4, 5, 6, 7, 8, 9, 10, 11, 12, 13, 14, 15, 16, 17, 18, 19, 20] (by decide) rfl ?_
  refine bV.callVi G m_M_drop bw_669 bw_670 bw_668 (r_drop hA hM (v := (xs (nI (i + 1)).toNatClampNeg)) ) 0 rfl rfl rfl rfl rfl ⟨by decide, by decide⟩ ⟨by show k + 2 + 0 ≤ 601024; omega, by show n + 12 + 0 ≤ 7293000; omega⟩ (Nat.le_of_ble_eq_true rfl) d_law_1028 (fun x8 ws8 h8 => ?_)
  obtain ⟨A2, th1, fo1, lo1, ps1, pb1, ip1, nb1, nv1, en1, sw1, fr1, ln1, tr1, ct1, rw1, dr1, hHM, hM1, h8e⟩ := h8
  rw [h8e]
  obtain ⟨rfl, rfl, hv9⟩ := u_drop (ov := of1 0) hHK hHM
  refine bV.istore G (lv' := [(0, .ref b), (1, .ref (ad 0)), (2, .ref (am 0)), (3, .ref ao), (4, .int (nI (i))), (5, .int (nI (k9))), (6, .int (x8))]) d_law_1031 (by decide) rfl rfl ?_
  refine bV.aload_n G d_law_1033 rfl ?_
  refine bV.callVi G m_M_thrown bw_610 bw_611 bw_609 c_M_thrown 0 rfl rfl rfl rfl rfl ⟨by decide, by decide⟩ ⟨by show k + 2 + 0 + 0 ≤ 601024; omega, by show n + 12 + 0 + 0 ≤ 7293000; omega⟩ (Nat.le_of_ble_eq_true rfl) d_law_1034 (fun x7 ws7 h7 => ?_)
  obtain ⟨rfl, h7e⟩ := h7
  rw [h7e]
  refine bV.iload G d_law_1037 rfl ?_
  refine bV.icmp_eqN (tgt := 1044) G d_law_1039 (by decide) (by omega) (by omega) (fun _ => ?_) (fun c => absurd rfl c)
  refine bV.iload G d_law_1044 rfl ?_
  refine bV.if_neN (tgt := 1068) G d_law_1046 (by decide) (by omega) (fun c0 => ?_) (fun c0 => ?_)
  · refine bV.goto (tgt := 1071) G d_law_1068 (by decide) ?_
    refine bV.perm (ws' := (wS ad cI cZ mp lf1 (aN A1) Pb1 gt1 gp1 gh1 Pv1 gd1 Pq1 (aCr A1) ((ao, .inl (cJ, 1, .inr (.inl of1))) :: wM am cI cZ mp k9 (aCr A1) (aFd A1) fo1 (aN A1) lo1 (aNp A1) ps1 pb1 ip1 nb1 fr1 ln1 tr1 nv1 ct1 rw1 dr1 en1 sw1 []))) [12, 13, 14, 15, 16, 17, 18, 19, 20, 21, 22, 23, 24, 25, 26, 27, 28, 29, 30, 31, 32, 0, 1, 2, 3, 4, 5, 6, 7, 8, 9, 10, 11] (by decide) rfl ?_
    refine bV.ltake (lv' := [(0, .ref b), (1, .ref (ad 0)), (2, .ref (am 0)), (3, .ref ao), (4, .int (nI (i)))]) (ex := [(5, .int (nI (k9))), (6, .int (x8))]) rfl ?_
    refine bV.widen (k' := k + 3) (n' := n + 18) (by show k + 2 + 0 + 0 ≤ k + 3; omega) (by show n + 12 + 0 + 0 ≤ n + 18; omega) ?_
    exact cont A1 lf1 Pb1 gt1 gp1 gh1 Pv1 gd1 Pq1 of1 k9 fo1 lo1 ps1 pb1 ip1 nb1 nv1 en1 sw1 fr1 ln1 tr1 ct1 rw1 dr1 hA1 hC1 hM1
  · refine bV.aload_n G d_law_1049 rfl ?_
    refine bV.iconst (v := nI 0) G d_law_1050 (by decide) ?_
    refine bV.laload G 32 2 rfl rfl (vp_in_nI (by decide) (by decide)) d_law_1051 ?_
    refine bV.iload G d_law_1052 rfl ?_
    refine bV.if_eq (tgt := 1061) G d_law_1054 (by decide) (fun c6 => ?_) (fun c6 => ?_)
    · refine bV.lconst (v := 0) G d_law_1061 (by decide) ?_
      refine bV.lcmp G d_law_1062 ?_
      refine bV.topi (y := 0) (lg_cmp_self (by rw [nI_clamp (by decide), hv9 c0, c6]; rfl)) ?_
      refine bV.if_eq (tgt := 1068) G d_law_1063 (by decide) (fun _ => ?_) (fun c => absurd rfl c)
      refine bV.goto (tgt := 1071) G d_law_1068 (by decide) ?_
      refine bV.perm (ws' := (wS ad cI cZ mp lf1 (aN A1) Pb1 gt1 gp1 gh1 Pv1 gd1 Pq1 (aCr A1) ((ao, .inl (cJ, 1, .inr (.inl of1))) :: wM am cI cZ mp k9 (aCr A1) (aFd A1) fo1 (aN A1) lo1 (aNp A1) ps1 pb1 ip1 nb1 fr1 ln1 tr1 nv1 ct1 rw1 dr1 en1 sw1 []))) [12, 13, 14, 15, 16, 17, 18, 19, 20, 21, 22, 23, 24, 25, 26, 27, 28, 29, 30, 31, 32, 0, 1, 2, 3, 4, 5, 6, 7, 8, 9, 10, 11] (by decide) rfl ?_
      refine bV.ltake (lv' := [(0, .ref b), (1, .ref (ad 0)), (2, .ref (am 0)), (3, .ref ao), (4, .int (nI (i)))]) (ex := [(5, .int (nI (k9))), (6, .int (x8))]) rfl ?_
      refine bV.widen (k' := k + 3) (n' := n + 18) (by show k + 2 + 0 + 0 ≤ k + 3; omega) (by show n + 12 + 0 + 0 ≤ n + 18; omega) ?_
      exact cont A1 lf1 Pb1 gt1 gp1 gh1 Pv1 gd1 Pq1 of1 k9 fo1 lo1 ps1 pb1 ip1 nb1 nv1 en1 sw1 fr1 ln1 tr1 ct1 rw1 dr1 hA1 hC1 hM1
    · obtain ⟨b9, hb9⟩ := ob_drop (hHM.elim (fun z => z.2) (fun z => absurd c0 z.1))
      refine bV.lconst (v := 1) G d_law_1057 (by decide) ?_
      refine bV.goto (tgt := 1062) G d_law_1058 (by decide) ?_
      refine bV.lcmp G d_law_1062 ?_
      refine bV.topi (y := 0) (lg_cmp_self (by rw [nI_clamp (by decide), hv9 c0, hb9]; cases b9; exact absurd hb9 c6; rfl)) ?_
      refine bV.if_eq (tgt := 1068) G d_law_1063 (by decide) (fun _ => ?_) (fun c => absurd rfl c)
      refine bV.goto (tgt := 1071) G d_law_1068 (by decide) ?_
      refine bV.perm (ws' := (wS ad cI cZ mp lf1 (aN A1) Pb1 gt1 gp1 gh1 Pv1 gd1 Pq1 (aCr A1) ((ao, .inl (cJ, 1, .inr (.inl of1))) :: wM am cI cZ mp k9 (aCr A1) (aFd A1) fo1 (aN A1) lo1 (aNp A1) ps1 pb1 ip1 nb1 fr1 ln1 tr1 nv1 ct1 rw1 dr1 en1 sw1 []))) [12, 13, 14, 15, 16, 17, 18, 19, 20, 21, 22, 23, 24, 25, 26, 27, 28, 29, 30, 31, 32, 0, 1, 2, 3, 4, 5, 6, 7, 8, 9, 10, 11] (by decide) rfl ?_
      refine bV.ltake (lv' := [(0, .ref b), (1, .ref (ad 0)), (2, .ref (am 0)), (3, .ref ao), (4, .int (nI (i)))]) (ex := [(5, .int (nI (k9))), (6, .int (x8))]) rfl ?_
      refine bV.widen (k' := k + 3) (n' := n + 18) (by show k + 2 + 0 + 0 ≤ k + 3; omega) (by show n + 12 + 0 + 0 ≤ n + 18; omega) ?_
      exact cont A1 lf1 Pb1 gt1 gp1 gh1 Pv1 gd1 Pq1 of1 k9 fo1 lo1 ps1 pb1 ip1 nb1 nv1 en1 sw1 fr1 ln1 tr1 ct1 rw1 dr1 hA1 hC1 hM1
