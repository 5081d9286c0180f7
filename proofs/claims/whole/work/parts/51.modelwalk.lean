/-! ===== the reference: act, walk, isReady ===== -/
theorem lenV_f {md : Nat → Bool} {vl : Nat → Nat} {v : Nat} (h : md v = false) : lenV md vl v = vl v := by
  unfold lenV; rw [h, Bool.and_false]; rfl
theorem lenV_t {md : Nat → Bool} {vl : Nat → Nat} {v : Nat} (hv : v < 12) (h : md v = true) : lenV md vl v = 0 := by
  unfold lenV; rw [h, decide_eq_true hv]; rfl
theorem lenV_c {md md' : Nat → Bool} {vl vl' : Nat → Nat} {v : Nat} (h : md v = md' v) (h2 : vl v = vl' v) : lenV md vl v = lenV md' vl' v := by
  unfold lenV; rw [h, h2]
theorem dr_nv {a : Nat} {S : aS} (h : okS a S) {v : Nat} (hv : sNv S ≤ v) : sDr S v = false := by
  cases e : sDr S v
  · rfl
  · exact absurd (h.2.2.2.2.2 v e) (by omega)
theorem app_R {a b : Nat} {S S' : aS} {ct rw : Nat → Int32} (hok : okS a S) (hct : ctR S ct) (hrw : rwR S rw) (h8 : sCt S (sNv S) < 8) (e1 : sNv S' = sNv S) (e2 : sDr S' = sDr S) (e3 : sCt S' = fup (sCt S) (sNv S) (sCt S (sNv S) + 1)) (e4 : sRw S' = fup2 (sRw S) (sNv S) (sCt S (sNv S)) b) : ctR S' (upd ct (sNv S) (nI (sCt S (sNv S) + 1))) ∧ rwR S' (upd rw (8 * sNv S + sCt S (sNv S)) (nI b)) := by
  have hd := dr_nv hok (Nat.le_refl (sNv S))
  have eo : ∀ v, v ≠ sNv S → lvS S' v = lvS S v := fun v hv => lenV_c (by rw [e2]) (by rw [e3, fup_n hv])
  have en : lvS S' (sNv S) = sCt S (sNv S) + 1 := by
    show lenV (sDr S') (sCt S') (sNv S) = _
    rw [e2, e3, lenV_f hd, fup_s]
  have eq : lvS S (sNv S) = sCt S (sNv S) := lenV_f hd
  constructor
  · intro v hv
    rw [e1] at hv
    by_cases z : v = sNv S
    · rw [z, pk_us, en]
    · rw [pk_un z, eo v z]; exact hct v hv
  · intro v k hv hk
    rw [e1] at hv
    rw [e4]
    by_cases z : v = sNv S
    · subst z
      rw [en] at hk
      by_cases y : k = sCt S (sNv S)
      · subst y; rw [pk_us, fup2_s]
      · rw [pk_un (by omega), fup2_n (by omega)]; exact hrw (sNv S) k (Nat.le_refl _) (by rw [eq]; omega)
    · rw [eo v z] at hk
      have h9 := lvS_8 hok hv
      rw [pk_un (by omega), fup2_n (by omega)]; exact hrw v k hv hk
theorem d_M_act_0 : decode b_M_act 0 = .ok (.aload_n 0, 1) := by decide +kernel
theorem d_M_act_1 : decode b_M_act 1 = .ok (.getfield 13, 3) := by decide +kernel
theorem d_M_act_4 : decode b_M_act 4 = .ok (.iload_n 1, 1) := by decide +kernel
theorem d_M_act_5 : decode b_M_act 5 = .ok (.iaload, 1) := by decide +kernel
theorem d_M_act_6 : decode b_M_act 6 = .ok (.istore_n 2, 1) := by decide +kernel
theorem d_M_act_7 : decode b_M_act 7 = .ok (.iload_n 2, 1) := by decide +kernel
theorem d_M_act_8 : decode b_M_act 8 = .ok (.iconst 1, 1) := by decide +kernel
theorem d_M_act_9 : decode b_M_act 9 = .ok (.if_icmp .ne 63, 3) := by decide +kernel
theorem d_M_act_12 : decode b_M_act 12 = .ok (.aload_n 0, 1) := by decide +kernel
theorem d_M_act_13 : decode b_M_act 13 = .ok (.getfield 26, 3) := by decide +kernel
theorem d_M_act_16 : decode b_M_act 16 = .ok (.aload_n 0, 1) := by decide +kernel
theorem d_M_act_17 : decode b_M_act 17 = .ok (.getfield 57, 3) := by decide +kernel
theorem d_M_act_20 : decode b_M_act 20 = .ok (.iload_n 1, 1) := by decide +kernel
theorem d_M_act_21 : decode b_M_act 21 = .ok (.iconst 2, 1) := by decide +kernel
theorem d_M_act_22 : decode b_M_act 22 = .ok (.iadd, 1) := by decide +kernel
theorem d_M_act_23 : decode b_M_act 23 = .ok (.iastore, 1) := by decide +kernel
theorem d_M_act_24 : decode b_M_act 24 = .ok (.aload_n 0, 1) := by decide +kernel
theorem d_M_act_25 : decode b_M_act 25 = .ok (.getfield 29, 3) := by decide +kernel
theorem d_M_act_28 : decode b_M_act 28 = .ok (.aload_n 0, 1) := by decide +kernel
theorem d_M_act_29 : decode b_M_act 29 = .ok (.getfield 57, 3) := by decide +kernel
theorem d_M_act_32 : decode b_M_act 32 = .ok (.aload_n 0, 1) := by decide +kernel
theorem d_M_act_33 : decode b_M_act 33 = .ok (.getfield 13, 3) := by decide +kernel
theorem d_M_act_36 : decode b_M_act 36 = .ok (.iload_n 1, 1) := by decide +kernel
theorem d_M_act_37 : decode b_M_act 37 = .ok (.iconst 1, 1) := by decide +kernel
theorem d_M_act_38 : decode b_M_act 38 = .ok (.iadd, 1) := by decide +kernel
theorem d_M_act_39 : decode b_M_act 39 = .ok (.iaload, 1) := by decide +kernel
theorem d_M_act_40 : decode b_M_act 40 = .ok (.iastore, 1) := by decide +kernel
theorem d_M_act_41 : decode b_M_act 41 = .ok (.aload_n 0, 1) := by decide +kernel
theorem d_M_act_42 : decode b_M_act 42 = .ok (.getfield 32, 3) := by decide +kernel
theorem d_M_act_45 : decode b_M_act 45 = .ok (.aload_n 0, 1) := by decide +kernel
theorem d_M_act_46 : decode b_M_act 46 = .ok (.getfield 57, 3) := by decide +kernel
theorem d_M_act_49 : decode b_M_act 49 = .ok (.iconst 1, 1) := by decide +kernel
theorem d_M_act_50 : decode b_M_act 50 = .ok (.bastore, 1) := by decide +kernel
theorem d_M_act_51 : decode b_M_act 51 = .ok (.aload_n 0, 1) := by decide +kernel
theorem d_M_act_52 : decode b_M_act 52 = .ok (.aload_n 0, 1) := by decide +kernel
theorem d_M_act_53 : decode b_M_act 53 = .ok (.getfield 57, 3) := by decide +kernel
theorem d_M_act_56 : decode b_M_act 56 = .ok (.invokevirtual 67, 3) := by decide +kernel
theorem d_M_act_59 : decode b_M_act 59 = .ok (.aload_n 0, 1) := by decide +kernel
theorem d_M_act_60 : decode b_M_act 60 = .ok (.dup, 1) := by decide +kernel
theorem d_M_act_61 : decode b_M_act 61 = .ok (.getfield 57, 3) := by decide +kernel
theorem d_M_act_64 : decode b_M_act 64 = .ok (.iconst 1, 1) := by decide +kernel
theorem d_M_act_65 : decode b_M_act 65 = .ok (.iadd, 1) := by decide +kernel
theorem d_M_act_66 : decode b_M_act 66 = .ok (.putfield 57, 3) := by decide +kernel
theorem d_M_act_69 : decode b_M_act 69 = .ok (.goto 101, 3) := by decide +kernel
theorem d_M_act_72 : decode b_M_act 72 = .ok (.iload_n 2, 1) := by decide +kernel
theorem d_M_act_73 : decode b_M_act 73 = .ok (.iconst 2, 1) := by decide +kernel
theorem d_M_act_74 : decode b_M_act 74 = .ok (.if_icmp .ne 18, 3) := by decide +kernel
theorem d_M_act_77 : decode b_M_act 77 = .ok (.aload_n 0, 1) := by decide +kernel
theorem d_M_act_78 : decode b_M_act 78 = .ok (.aload_n 0, 1) := by decide +kernel
theorem d_M_act_79 : decode b_M_act 79 = .ok (.getfield 13, 3) := by decide +kernel
theorem d_M_act_82 : decode b_M_act 82 = .ok (.iload_n 1, 1) := by decide +kernel
theorem d_M_act_83 : decode b_M_act 83 = .ok (.iconst 1, 1) := by decide +kernel
theorem d_M_act_84 : decode b_M_act 84 = .ok (.iadd, 1) := by decide +kernel
theorem d_M_act_85 : decode b_M_act 85 = .ok (.iaload, 1) := by decide +kernel
theorem d_M_act_86 : decode b_M_act 86 = .ok (.invokevirtual 67, 3) := by decide +kernel
theorem d_M_act_89 : decode b_M_act 89 = .ok (.goto 81, 3) := by decide +kernel
theorem d_M_act_92 : decode b_M_act 92 = .ok (.iload_n 2, 1) := by decide +kernel
theorem d_M_act_93 : decode b_M_act 93 = .ok (.iconst 3, 1) := by decide +kernel
theorem d_M_act_94 : decode b_M_act 94 = .ok (.if_icmp .ne 36, 3) := by decide +kernel
theorem d_M_act_97 : decode b_M_act 97 = .ok (.aload_n 0, 1) := by decide +kernel
theorem d_M_act_98 : decode b_M_act 98 = .ok (.dup, 1) := by decide +kernel
theorem d_M_act_99 : decode b_M_act 99 = .ok (.getfield 51, 3) := by decide +kernel
theorem d_M_act_102 : decode b_M_act 102 = .ok (.iconst 1, 1) := by decide +kernel
theorem d_M_act_103 : decode b_M_act 103 = .ok (.iadd, 1) := by decide +kernel
theorem d_M_act_104 : decode b_M_act 104 = .ok (.putfield 51, 3) := by decide +kernel
theorem d_M_act_107 : decode b_M_act 107 = .ok (.aload_n 0, 1) := by decide +kernel
theorem d_M_act_108 : decode b_M_act 108 = .ok (.getfield 35, 3) := by decide +kernel
theorem d_M_act_111 : decode b_M_act 111 = .ok (.aload_n 0, 1) := by decide +kernel
theorem d_M_act_112 : decode b_M_act 112 = .ok (.getfield 51, 3) := by decide +kernel
theorem d_M_act_115 : decode b_M_act 115 = .ok (.iconst 0, 1) := by decide +kernel
theorem d_M_act_116 : decode b_M_act 116 = .ok (.iastore, 1) := by decide +kernel
theorem d_M_act_117 : decode b_M_act 117 = .ok (.aload_n 0, 1) := by decide +kernel
theorem d_M_act_118 : decode b_M_act 118 = .ok (.getfield 41, 3) := by decide +kernel
theorem d_M_act_121 : decode b_M_act 121 = .ok (.aload_n 0, 1) := by decide +kernel
theorem d_M_act_122 : decode b_M_act 122 = .ok (.getfield 51, 3) := by decide +kernel
theorem d_M_act_125 : decode b_M_act 125 = .ok (.iconst 0, 1) := by decide +kernel
theorem d_M_act_126 : decode b_M_act 126 = .ok (.bastore, 1) := by decide +kernel
theorem d_M_act_127 : decode b_M_act 127 = .ok (.goto 43, 3) := by decide +kernel
theorem d_M_act_130 : decode b_M_act 130 = .ok (.iload_n 2, 1) := by decide +kernel
theorem d_M_act_131 : decode b_M_act 131 = .ok (.iconst 4, 1) := by decide +kernel
theorem d_M_act_132 : decode b_M_act 132 = .ok (.if_icmp .ne 34, 3) := by decide +kernel
theorem d_M_act_135 : decode b_M_act 135 = .ok (.aload_n 0, 1) := by decide +kernel
theorem d_M_act_136 : decode b_M_act 136 = .ok (.getfield 41, 3) := by decide +kernel
theorem d_M_act_139 : decode b_M_act 139 = .ok (.aload_n 0, 1) := by decide +kernel
theorem d_M_act_140 : decode b_M_act 140 = .ok (.getfield 13, 3) := by decide +kernel
theorem d_M_act_143 : decode b_M_act 143 = .ok (.iload_n 1, 1) := by decide +kernel
theorem d_M_act_144 : decode b_M_act 144 = .ok (.iconst 1, 1) := by decide +kernel
theorem d_M_act_145 : decode b_M_act 145 = .ok (.iadd, 1) := by decide +kernel
theorem d_M_act_146 : decode b_M_act 146 = .ok (.iaload, 1) := by decide +kernel
theorem d_M_act_147 : decode b_M_act 147 = .ok (.iconst 1, 1) := by decide +kernel
theorem d_M_act_148 : decode b_M_act 148 = .ok (.bastore, 1) := by decide +kernel
theorem d_M_act_149 : decode b_M_act 149 = .ok (.aload_n 0, 1) := by decide +kernel
theorem d_M_act_150 : decode b_M_act 150 = .ok (.getfield 35, 3) := by decide +kernel
theorem d_M_act_153 : decode b_M_act 153 = .ok (.aload_n 0, 1) := by decide +kernel
theorem d_M_act_154 : decode b_M_act 154 = .ok (.getfield 13, 3) := by decide +kernel
theorem d_M_act_157 : decode b_M_act 157 = .ok (.iload_n 1, 1) := by decide +kernel
theorem d_M_act_158 : decode b_M_act 158 = .ok (.iconst 1, 1) := by decide +kernel
theorem d_M_act_159 : decode b_M_act 159 = .ok (.iadd, 1) := by decide +kernel
theorem d_M_act_160 : decode b_M_act 160 = .ok (.iaload, 1) := by decide +kernel
theorem d_M_act_161 : decode b_M_act 161 = .ok (.iconst 0, 1) := by decide +kernel
theorem d_M_act_162 : decode b_M_act 162 = .ok (.iastore, 1) := by decide +kernel
theorem d_M_act_163 : decode b_M_act 163 = .ok (.goto 7, 3) := by decide +kernel
theorem d_M_act_166 : decode b_M_act 166 = .ok (.aload_n 0, 1) := by decide +kernel
theorem d_M_act_167 : decode b_M_act 167 = .ok (.invokevirtual 71, 3) := by decide +kernel
theorem d_M_act_170 : decode b_M_act 170 = .ok (.return_, 1) := by decide +kernel
set_option maxRecDepth 20000 in
set_option maxHeartbeats 4000000 in
theorem c_M_act1 {D : va_G} {cI cZ cJ : ClassId} {am : Nat → Nat} {mp : Nat} {th : Nat} {cr : Bool} {fd : Nat} {fo : Nat → Int32} {n : Nat} {lo : Nat → Int32} {np : Nat} {ps : Nat → Int32} {pb : Nat → Int32} {ip : Nat → Int32} {nb : Nat} {fr : Nat → Int32} {ln : Nat → Int32} {tr : Nat → Int32} {nv : Nat} {ct : Nat → Int32} {rw : Nat → Int32} {dr : Nat → Int32} {en : Nat} {sw : Nat} {rest : va_W} {lg : Nat → Nat} {p : Nat} (hRl : lg_R lo n lg) (hk : lg p = 1) {c : Nat} (hnv : nv ≤ 12) (hc : ct nv = nI c) (hc8 : c < 8) (hp : p + 1 < n) (hb : nb < 24) : bC D bcl (tys3 cI cZ cJ) y_M_act ({ frames := 2, cells := 0, slots := 0, locals := 45 }) (wM am cI cZ mp th cr fd fo n lo np ps pb ip nb fr ln tr nv ct rw dr en sw rest) [.ref (am 0), .int (nI (p))] (bO (fun ws9 => ws9 = wM am cI cZ mp th cr fd fo n lo np ps pb ip (nb + 1) (upd fr nb (nI (p + 2))) (upd ln nb (nI (lg (p + 1)))) (upd tr nb (bB true)) nv (upd ct nv (nI (c + 1))) (upd rw (8 * nv + c) (nI nb)) dr en sw rest) bno) := by
  have h4 := hRl.1
  refine bC.of (by decide) m_M_act.1 (Nat.le_of_ble_eq_true rfl) ?_
  intro Γ G E0
  show bV D bcl Γ 3 (wM am cI cZ mp th cr fd fo n lo np ps pb ip nb fr ln tr nv ct rw dr en sw rest) 0 0 0 [(0, .ref (am 0)), (1, .int (nI (p)))] []
  refine bV.aload_n G d_M_act_0 rfl ?_
  refine bV.getf G cl_M 0 6 rfl (by decide) bw_551 rfl d_M_act_1 ?_
  refine bV.iload_n G d_M_act_4 rfl ?_
  refine bV.ialoadN G 2 0 rfl rfl (by omega) (by omega) d_M_act_5 ?_
  refine bV.topi (y := (nI (lg p))) (hRl.2.1 _ (by omega)) ?_
  refine bV.istore_n G (lv' := [(0, .ref (am 0)), (1, .int (nI (p))), (2, .int (nI (lg p)))]) d_M_act_6 (by decide) rfl rfl ?_
  have hv0 : lg p < 256 := hRl.2.2 _ (by omega)
  refine bV.iload_n G d_M_act_7 rfl ?_
  refine bV.iconst (v := nI 1) G d_M_act_8 (by decide) ?_
  refine bV.icmp_neN (tgt := 72) G d_M_act_9 (by decide) (by omega) (by omega) (fun c9 => ?_) (fun c9 => ?_)
  · exfalso; omega
  · refine bV.aload_n G d_M_act_12 rfl ?_
    refine bV.getf G cl_M 0 12 rfl (by decide) bw_557 rfl d_M_act_13 ?_
    refine bV.aload_n G d_M_act_16 rfl ?_
    refine bV.getf G cl_M 0 11 rfl (by decide) bw_556 rfl d_M_act_17 ?_
    refine bV.iload_n G d_M_act_20 rfl ?_
    refine bV.iconst (v := nI 2) G d_M_act_21 (by decide) ?_
    refine bV.iaddN G d_M_act_22 ?_
    refine bV.iastoreN G (ws' := (wM am cI cZ mp th cr fd fo n lo np ps pb ip nb (upd fr nb ((nI (p + 2)))) ln tr nv ct rw dr en sw rest)) 6 0 rfl rfl (by omega) (by omega) d_M_act_23 rfl ?_
    refine bV.aload_n G d_M_act_24 rfl ?_
    refine bV.getf G cl_M 0 13 rfl (by decide) bw_558 rfl d_M_act_25 ?_
    refine bV.aload_n G d_M_act_28 rfl ?_
    refine bV.getf G cl_M 0 11 rfl (by decide) bw_556 rfl d_M_act_29 ?_
    refine bV.aload_n G d_M_act_32 rfl ?_
    refine bV.getf G cl_M 0 6 rfl (by decide) bw_551 rfl d_M_act_33 ?_
    refine bV.iload_n G d_M_act_36 rfl ?_
    refine bV.iconst (v := nI 1) G d_M_act_37 (by decide) ?_
    refine bV.iaddN G d_M_act_38 ?_
    refine bV.ialoadN G 2 0 rfl rfl (by omega) (by omega) d_M_act_39 ?_
    refine bV.topi (y := (nI (lg (p + 1)))) (hRl.2.1 _ (by omega)) ?_
    refine bV.iastoreN G (ws' := (wM am cI cZ mp th cr fd fo n lo np ps pb ip nb (upd fr nb ((nI (p + 2)))) (upd ln nb ((nI (lg (p + 1))))) tr nv ct rw dr en sw rest)) 7 0 rfl rfl (by omega) (by omega) d_M_act_40 rfl ?_
    refine bV.aload_n G d_M_act_41 rfl ?_
    refine bV.getf G cl_M 0 14 rfl (by decide) bw_559 rfl d_M_act_42 ?_
    refine bV.aload_n G d_M_act_45 rfl ?_
    refine bV.getf G cl_M 0 11 rfl (by decide) bw_556 rfl d_M_act_46 ?_
    refine bV.iconst (v := nI 1) G d_M_act_49 (by decide) ?_
    refine bV.topi (x := nI 1) (y := bB true) (by decide) ?_
    refine bV.zastoreN G (ws' := (wM am cI cZ mp th cr fd fo n lo np ps pb ip nb (upd fr nb ((nI (p + 2)))) (upd ln nb ((nI (lg (p + 1))))) (upd tr nb ((bB (true)))) nv ct rw dr en sw rest)) 8 1 rfl rfl (by omega) (by omega) d_M_act_50 rfl ?_
    refine bV.aload_n G d_M_act_51 rfl ?_
    refine bV.aload_n G d_M_act_52 rfl ?_
    refine bV.getf G cl_M 0 11 rfl (by decide) bw_556 rfl d_M_act_53 ?_
    refine bV.callVo G m_M_append bw_635 bw_s30 bw_633 (c_M_append (b := nb) (c := c) hnv hc hc8) 0 rfl rfl rfl rfl rfl ⟨by decide, by decide⟩ ⟨by decide, by decide⟩ (Nat.le_of_ble_eq_true rfl) d_M_act_56 (fun ws9 h9 => ?_)
    rw [h9]
    refine bV.aload_n G d_M_act_59 rfl ?_
    refine bV.dup G d_M_act_60 rfl ?_
    refine bV.getf G cl_M 0 11 rfl (by decide) bw_556 rfl d_M_act_61 ?_
    refine bV.iconst (v := nI 1) G d_M_act_64 (by decide) ?_
    refine bV.iaddN G d_M_act_65 ?_
    refine bV.putf G (ws' := (wM am cI cZ mp th cr fd fo n lo np ps pb ip (nb + 1) (upd fr nb ((nI (p + 2)))) (upd ln nb ((nI (lg (p + 1))))) (upd tr nb ((bB (true)))) nv (upd ct nv (nI (c + 1))) (upd rw (8 * nv + c) (nI nb)) dr en sw rest)) cl_M 0 11 rfl (by decide) bw_556 rfl rfl rfl (Nat.le_of_ble_eq_true rfl) d_M_act_66 rfl ?_
    refine bV.goto (tgt := 170) G d_M_act_69 (by decide) ?_
    exact bV.vretO G E0 rfl (by decide) (by decide) d_M_act_170 rfl
set_option maxRecDepth 20000 in
set_option maxHeartbeats 4000000 in
theorem c_M_act2 {D : va_G} {cI cZ cJ : ClassId} {am : Nat → Nat} {mp : Nat} {th : Nat} {cr : Bool} {fd : Nat} {fo : Nat → Int32} {n : Nat} {lo : Nat → Int32} {np : Nat} {ps : Nat → Int32} {pb : Nat → Int32} {ip : Nat → Int32} {nb : Nat} {fr : Nat → Int32} {ln : Nat → Int32} {tr : Nat → Int32} {nv : Nat} {ct : Nat → Int32} {rw : Nat → Int32} {dr : Nat → Int32} {en : Nat} {sw : Nat} {rest : va_W} {lg : Nat → Nat} {p : Nat} (hRl : lg_R lo n lg) (hk : lg p = 2) {c : Nat} (hnv : nv ≤ 12) (hc : ct nv = nI c) (hc8 : c < 8) (hp : p + 1 < n) : bC D bcl (tys3 cI cZ cJ) y_M_act ({ frames := 2, cells := 0, slots := 0, locals := 45 }) (wM am cI cZ mp th cr fd fo n lo np ps pb ip nb fr ln tr nv ct rw dr en sw rest) [.ref (am 0), .int (nI (p))] (bO (fun ws9 => ws9 = wM am cI cZ mp th cr fd fo n lo np ps pb ip nb fr ln tr nv (upd ct nv (nI (c + 1))) (upd rw (8 * nv + c) (nI (lg (p + 1)))) dr en sw rest) bno) := by
  have h4 := hRl.1
  refine bC.of (by decide) m_M_act.1 (Nat.le_of_ble_eq_true rfl) ?_
  intro Γ G E0
  show bV D bcl Γ 3 (wM am cI cZ mp th cr fd fo n lo np ps pb ip nb fr ln tr nv ct rw dr en sw rest) 0 0 0 [(0, .ref (am 0)), (1, .int (nI (p)))] []
  refine bV.aload_n G d_M_act_0 rfl ?_
  refine bV.getf G cl_M 0 6 rfl (by decide) bw_551 rfl d_M_act_1 ?_
  refine bV.iload_n G d_M_act_4 rfl ?_
  refine bV.ialoadN G 2 0 rfl rfl (by omega) (by omega) d_M_act_5 ?_
  refine bV.topi (y := (nI (lg p))) (hRl.2.1 _ (by omega)) ?_
  refine bV.istore_n G (lv' := [(0, .ref (am 0)), (1, .int (nI (p))), (2, .int (nI (lg p)))]) d_M_act_6 (by decide) rfl rfl ?_
  have hv0 : lg p < 256 := hRl.2.2 _ (by omega)
  refine bV.iload_n G d_M_act_7 rfl ?_
  refine bV.iconst (v := nI 1) G d_M_act_8 (by decide) ?_
  refine bV.icmp_neN (tgt := 72) G d_M_act_9 (by decide) (by omega) (by omega) (fun c9 => ?_) (fun c9 => ?_)
  · refine bV.iload_n G d_M_act_72 rfl ?_
    refine bV.iconst (v := nI 2) G d_M_act_73 (by decide) ?_
    refine bV.icmp_neN (tgt := 92) G d_M_act_74 (by decide) (by omega) (by omega) (fun c74 => ?_) (fun c74 => ?_)
    · exfalso; omega
    · refine bV.aload_n G d_M_act_77 rfl ?_
      refine bV.aload_n G d_M_act_78 rfl ?_
      refine bV.getf G cl_M 0 6 rfl (by decide) bw_551 rfl d_M_act_79 ?_
      refine bV.iload_n G d_M_act_82 rfl ?_
      refine bV.iconst (v := nI 1) G d_M_act_83 (by decide) ?_
      refine bV.iaddN G d_M_act_84 ?_
      refine bV.ialoadN G 2 0 rfl rfl (by omega) (by omega) d_M_act_85 ?_
      refine bV.topi (y := (nI (lg (p + 1)))) (hRl.2.1 _ (by omega)) ?_
      refine bV.callVo G m_M_append bw_635 bw_s30 bw_633 (c_M_append (b := lg (p + 1)) (c := c) hnv hc hc8) 0 rfl rfl rfl rfl rfl ⟨by decide, by decide⟩ ⟨by decide, by decide⟩ (Nat.le_of_ble_eq_true rfl) d_M_act_86 (fun ws9 h9 => ?_)
      rw [h9]
      refine bV.goto (tgt := 170) G d_M_act_89 (by decide) ?_
      exact bV.vretO G E0 rfl (by decide) (by decide) d_M_act_170 rfl
  · exfalso; omega
set_option maxRecDepth 20000 in
set_option maxHeartbeats 4000000 in
theorem c_M_act3 {D : va_G} {cI cZ cJ : ClassId} {am : Nat → Nat} {mp : Nat} {th : Nat} {cr : Bool} {fd : Nat} {fo : Nat → Int32} {n : Nat} {lo : Nat → Int32} {np : Nat} {ps : Nat → Int32} {pb : Nat → Int32} {ip : Nat → Int32} {nb : Nat} {fr : Nat → Int32} {ln : Nat → Int32} {tr : Nat → Int32} {nv : Nat} {ct : Nat → Int32} {rw : Nat → Int32} {dr : Nat → Int32} {en : Nat} {sw : Nat} {rest : va_W} {lg : Nat → Nat} {p : Nat} (hRl : lg_R lo n lg) (hk : lg p = 3) (hp : p < n) (hnv : nv < 12) : bC D bcl (tys3 cI cZ cJ) y_M_act ({ frames := 2, cells := 0, slots := 0, locals := 45 }) (wM am cI cZ mp th cr fd fo n lo np ps pb ip nb fr ln tr nv ct rw dr en sw rest) [.ref (am 0), .int (nI (p))] (bO (fun ws9 => ws9 = wM am cI cZ mp th cr fd fo n lo np ps pb ip nb fr ln tr (nv + 1) (upd ct (nv + 1) (nI 0)) rw (upd dr (nv + 1) (bB false)) en sw rest) bno) := by
  have h4 := hRl.1
  refine bC.of (by decide) m_M_act.1 (Nat.le_of_ble_eq_true rfl) ?_
  intro Γ G E0
  show bV D bcl Γ 3 (wM am cI cZ mp th cr fd fo n lo np ps pb ip nb fr ln tr nv ct rw dr en sw rest) 0 0 0 [(0, .ref (am 0)), (1, .int (nI (p)))] []
  refine bV.aload_n G d_M_act_0 rfl ?_
  refine bV.getf G cl_M 0 6 rfl (by decide) bw_551 rfl d_M_act_1 ?_
  refine bV.iload_n G d_M_act_4 rfl ?_
  refine bV.ialoadN G 2 0 rfl rfl (by omega) (by omega) d_M_act_5 ?_
  refine bV.topi (y := (nI (lg p))) (hRl.2.1 _ (by omega)) ?_
  refine bV.istore_n G (lv' := [(0, .ref (am 0)), (1, .int (nI (p))), (2, .int (nI (lg p)))]) d_M_act_6 (by decide) rfl rfl ?_
  have hv0 : lg p < 256 := hRl.2.2 _ (by omega)
  refine bV.iload_n G d_M_act_7 rfl ?_
  refine bV.iconst (v := nI 1) G d_M_act_8 (by decide) ?_
  refine bV.icmp_neN (tgt := 72) G d_M_act_9 (by decide) (by omega) (by omega) (fun c9 => ?_) (fun c9 => ?_)
  · refine bV.iload_n G d_M_act_72 rfl ?_
    refine bV.iconst (v := nI 2) G d_M_act_73 (by decide) ?_
    refine bV.icmp_neN (tgt := 92) G d_M_act_74 (by decide) (by omega) (by omega) (fun c74 => ?_) (fun c74 => ?_)
    · refine bV.iload_n G d_M_act_92 rfl ?_
      refine bV.iconst (v := nI 3) G d_M_act_93 (by decide) ?_
      refine bV.icmp_neN (tgt := 130) G d_M_act_94 (by decide) (by omega) (by omega) (fun c94 => ?_) (fun c94 => ?_)
      · exfalso; omega
      · refine bV.aload_n G d_M_act_97 rfl ?_
        refine bV.dup G d_M_act_98 rfl ?_
        refine bV.getf G cl_M 0 15 rfl (by decide) bw_560 rfl d_M_act_99 ?_
        refine bV.iconst (v := nI 1) G d_M_act_102 (by decide) ?_
        refine bV.iaddN G d_M_act_103 ?_
        refine bV.putf G (ws' := (wM am cI cZ mp th cr fd fo n lo np ps pb ip nb fr ln tr (nv + 1) ct rw dr en sw rest)) cl_M 0 15 rfl (by decide) bw_560 rfl rfl rfl (Nat.le_of_ble_eq_true rfl) d_M_act_104 rfl ?_
        refine bV.aload_n G d_M_act_107 rfl ?_
        refine bV.getf G cl_M 0 16 rfl (by decide) bw_561 rfl d_M_act_108 ?_
        refine bV.aload_n G d_M_act_111 rfl ?_
        refine bV.getf G cl_M 0 15 rfl (by decide) bw_560 rfl d_M_act_112 ?_
        refine bV.iconst (v := nI 0) G d_M_act_115 (by decide) ?_
        refine bV.iastoreN G (ws' := (wM am cI cZ mp th cr fd fo n lo np ps pb ip nb fr ln tr (nv + 1) (upd ct (nv + 1) ((nI (0)))) rw dr en sw rest)) 9 0 rfl rfl (by omega) (by omega) d_M_act_116 rfl ?_
        refine bV.aload_n G d_M_act_117 rfl ?_
        refine bV.getf G cl_M 0 18 rfl (by decide) bw_563 rfl d_M_act_118 ?_
        refine bV.aload_n G d_M_act_121 rfl ?_
        refine bV.getf G cl_M 0 15 rfl (by decide) bw_560 rfl d_M_act_122 ?_
        refine bV.iconst (v := nI 0) G d_M_act_125 (by decide) ?_
        refine bV.topi (x := nI 0) (y := bB false) (by decide) ?_
        refine bV.zastoreN G (ws' := (wM am cI cZ mp th cr fd fo n lo np ps pb ip nb fr ln tr (nv + 1) (upd ct (nv + 1) ((nI (0)))) rw (upd dr (nv + 1) ((bB (false)))) en sw rest)) 11 1 rfl rfl (by omega) (by omega) d_M_act_126 rfl ?_
        refine bV.goto (tgt := 170) G d_M_act_127 (by decide) ?_
        exact bV.vretO G E0 rfl (by decide) (by decide) d_M_act_170 rfl
    · exfalso; omega
  · exfalso; omega
set_option maxRecDepth 20000 in
set_option maxHeartbeats 4000000 in
theorem c_M_act4 {D : va_G} {cI cZ cJ : ClassId} {am : Nat → Nat} {mp : Nat} {th : Nat} {cr : Bool} {fd : Nat} {fo : Nat → Int32} {n : Nat} {lo : Nat → Int32} {np : Nat} {ps : Nat → Int32} {pb : Nat → Int32} {ip : Nat → Int32} {nb : Nat} {fr : Nat → Int32} {ln : Nat → Int32} {tr : Nat → Int32} {nv : Nat} {ct : Nat → Int32} {rw : Nat → Int32} {dr : Nat → Int32} {en : Nat} {sw : Nat} {rest : va_W} {lg : Nat → Nat} {p : Nat} (hRl : lg_R lo n lg) (hk : lg p = 4) (hp : p + 1 < n) (hx : lg (p + 1) < 12) : bC D bcl (tys3 cI cZ cJ) y_M_act ({ frames := 2, cells := 0, slots := 0, locals := 45 }) (wM am cI cZ mp th cr fd fo n lo np ps pb ip nb fr ln tr nv ct rw dr en sw rest) [.ref (am 0), .int (nI (p))] (bO (fun ws9 => ws9 = wM am cI cZ mp th cr fd fo n lo np ps pb ip nb fr ln tr nv (upd ct (lg (p + 1)) (nI 0)) rw (upd dr (lg (p + 1)) (bB true)) en sw rest) bno) := by
  have h4 := hRl.1
  refine bC.of (by decide) m_M_act.1 (Nat.le_of_ble_eq_true rfl) ?_
  intro Γ G E0
  show bV D bcl Γ 3 (wM am cI cZ mp th cr fd fo n lo np ps pb ip nb fr ln tr nv ct rw dr en sw rest) 0 0 0 [(0, .ref (am 0)), (1, .int (nI (p)))] []
  refine bV.aload_n G d_M_act_0 rfl ?_
  refine bV.getf G cl_M 0 6 rfl (by decide) bw_551 rfl d_M_act_1 ?_
  refine bV.iload_n G d_M_act_4 rfl ?_
  refine bV.ialoadN G 2 0 rfl rfl (by omega) (by omega) d_M_act_5 ?_
  refine bV.topi (y := (nI (lg p))) (hRl.2.1 _ (by omega)) ?_
  refine bV.istore_n G (lv' := [(0, .ref (am 0)), (1, .int (nI (p))), (2, .int (nI (lg p)))]) d_M_act_6 (by decide) rfl rfl ?_
  have hv0 : lg p < 256 := hRl.2.2 _ (by omega)
  refine bV.iload_n G d_M_act_7 rfl ?_
  refine bV.iconst (v := nI 1) G d_M_act_8 (by decide) ?_
  refine bV.icmp_neN (tgt := 72) G d_M_act_9 (by decide) (by omega) (by omega) (fun c9 => ?_) (fun c9 => ?_)
  · refine bV.iload_n G d_M_act_72 rfl ?_
    refine bV.iconst (v := nI 2) G d_M_act_73 (by decide) ?_
    refine bV.icmp_neN (tgt := 92) G d_M_act_74 (by decide) (by omega) (by omega) (fun c74 => ?_) (fun c74 => ?_)
    · refine bV.iload_n G d_M_act_92 rfl ?_
      refine bV.iconst (v := nI 3) G d_M_act_93 (by decide) ?_
      refine bV.icmp_neN (tgt := 130) G d_M_act_94 (by decide) (by omega) (by omega) (fun c94 => ?_) (fun c94 => ?_)
      · refine bV.iload_n G d_M_act_130 rfl ?_
        refine bV.iconst (v := nI 4) G d_M_act_131 (by decide) ?_
        refine bV.icmp_neN (tgt := 166) G d_M_act_132 (by decide) (by omega) (by omega) (fun c132 => ?_) (fun c132 => ?_)
        · exfalso; omega
        · refine bV.aload_n G d_M_act_135 rfl ?_
          refine bV.getf G cl_M 0 18 rfl (by decide) bw_563 rfl d_M_act_136 ?_
          refine bV.aload_n G d_M_act_139 rfl ?_
          refine bV.getf G cl_M 0 6 rfl (by decide) bw_551 rfl d_M_act_140 ?_
          refine bV.iload_n G d_M_act_143 rfl ?_
          refine bV.iconst (v := nI 1) G d_M_act_144 (by decide) ?_
          refine bV.iaddN G d_M_act_145 ?_
          refine bV.ialoadN G 2 0 rfl rfl (by omega) (by omega) d_M_act_146 ?_
          refine bV.topi (y := (nI (lg (p + 1)))) (hRl.2.1 _ (by omega)) ?_
          refine bV.iconst (v := nI 1) G d_M_act_147 (by decide) ?_
          refine bV.topi (x := nI 1) (y := bB true) (by decide) ?_
          refine bV.zastoreN G (ws' := (wM am cI cZ mp th cr fd fo n lo np ps pb ip nb fr ln tr nv ct rw (upd dr (lg (p + 1)) ((bB (true)))) en sw rest)) 11 1 rfl rfl (by omega) (by omega) d_M_act_148 rfl ?_
          refine bV.aload_n G d_M_act_149 rfl ?_
          refine bV.getf G cl_M 0 16 rfl (by decide) bw_561 rfl d_M_act_150 ?_
          refine bV.aload_n G d_M_act_153 rfl ?_
          refine bV.getf G cl_M 0 6 rfl (by decide) bw_551 rfl d_M_act_154 ?_
          refine bV.iload_n G d_M_act_157 rfl ?_
          refine bV.iconst (v := nI 1) G d_M_act_158 (by decide) ?_
          refine bV.iaddN G d_M_act_159 ?_
          refine bV.ialoadN G 2 0 rfl rfl (by omega) (by omega) d_M_act_160 ?_
          refine bV.topi (y := (nI (lg (p + 1)))) (hRl.2.1 _ (by omega)) ?_
          refine bV.iconst (v := nI 0) G d_M_act_161 (by decide) ?_
          refine bV.iastoreN G (ws' := (wM am cI cZ mp th cr fd fo n lo np ps pb ip nb fr ln tr nv (upd ct (lg (p + 1)) ((nI (0)))) rw (upd dr (lg (p + 1)) ((bB (true)))) en sw rest)) 9 0 rfl rfl (by omega) (by omega) d_M_act_162 rfl ?_
          refine bV.goto (tgt := 170) G d_M_act_163 (by decide) ?_
          exact bV.vretO G E0 rfl (by decide) (by decide) d_M_act_170 rfl
      · exfalso; omega
    · exfalso; omega
  · exfalso; omega
set_option maxRecDepth 20000 in
set_option maxHeartbeats 4000000 in
theorem c_M_act5 {D : va_G} {cI cZ cJ : ClassId} {am : Nat → Nat} {mp : Nat} {th : Nat} {cr : Bool} {fd : Nat} {fo : Nat → Int32} {n : Nat} {lo : Nat → Int32} {np : Nat} {ps : Nat → Int32} {pb : Nat → Int32} {ip : Nat → Int32} {fr : Nat → Int32} {ln : Nat → Int32} {tr : Nat → Int32} {ct : Nat → Int32} {rw : Nat → Int32} {dr : Nat → Int32} {en : Nat} {sw : Nat} {rest : va_W} {lg : Nat → Nat} {p : Nat} (hRl : lg_R lo n lg) (hk : lg p = 5) {S : aS} {a : Nat} (hp : p < n) (hok : okS a S) (htr : ∀ b, b < sNb S → tr b = bB (sTh S b)) (hct : ctR S ct) (hrw : rwR S rw) : bC D bcl (tys3 cI cZ cJ) y_M_act ({ frames := 2, cells := 0, slots := 0, locals := 45 }) (wM am cI cZ mp th cr fd fo n lo np ps pb ip (sNb S) fr ln tr (sNv S) ct rw dr en sw rest) [.ref (am 0), .int (nI (p))] (bO (fun ws9 => ∃ tr1 : Nat → Int32, (∀ b, b < sNb S → tr1 b = bB (swS (sTh S) (hlB (sDr S) (sCt S) (sRw S) (sNv S)) (sNb S) b)) ∧ ws9 = wM am cI cZ mp th cr fd fo n lo np ps pb ip (sNb S) fr ln tr1 (sNv S) ct rw dr en (cntU (fun b => sTh S b && !hlB (sDr S) (sCt S) (sRw S) (sNv S) b) (sNb S)) rest) bno) := by
  have h4 := hRl.1
  refine bC.of (by decide) m_M_act.1 (Nat.le_of_ble_eq_true rfl) ?_
  intro Γ G E0
  show bV D bcl Γ 3 (wM am cI cZ mp th cr fd fo n lo np ps pb ip (sNb S) fr ln tr (sNv S) ct rw dr en sw rest) 0 0 0 [(0, .ref (am 0)), (1, .int (nI (p)))] []
  refine bV.aload_n G d_M_act_0 rfl ?_
  refine bV.getf G cl_M 0 6 rfl (by decide) bw_551 rfl d_M_act_1 ?_
  refine bV.iload_n G d_M_act_4 rfl ?_
  refine bV.ialoadN G 2 0 rfl rfl (by omega) (by omega) d_M_act_5 ?_
  refine bV.topi (y := (nI (lg p))) (hRl.2.1 _ (by omega)) ?_
  refine bV.istore_n G (lv' := [(0, .ref (am 0)), (1, .int (nI (p))), (2, .int (nI (lg p)))]) d_M_act_6 (by decide) rfl rfl ?_
  have hv0 : lg p < 256 := hRl.2.2 _ (by omega)
  refine bV.iload_n G d_M_act_7 rfl ?_
  refine bV.iconst (v := nI 1) G d_M_act_8 (by decide) ?_
  refine bV.icmp_neN (tgt := 72) G d_M_act_9 (by decide) (by omega) (by omega) (fun c9 => ?_) (fun c9 => ?_)
  · refine bV.iload_n G d_M_act_72 rfl ?_
    refine bV.iconst (v := nI 2) G d_M_act_73 (by decide) ?_
    refine bV.icmp_neN (tgt := 92) G d_M_act_74 (by decide) (by omega) (by omega) (fun c74 => ?_) (fun c74 => ?_)
    · refine bV.iload_n G d_M_act_92 rfl ?_
      refine bV.iconst (v := nI 3) G d_M_act_93 (by decide) ?_
      refine bV.icmp_neN (tgt := 130) G d_M_act_94 (by decide) (by omega) (by omega) (fun c94 => ?_) (fun c94 => ?_)
      · refine bV.iload_n G d_M_act_130 rfl ?_
        refine bV.iconst (v := nI 4) G d_M_act_131 (by decide) ?_
        refine bV.icmp_neN (tgt := 166) G d_M_act_132 (by decide) (by omega) (by omega) (fun c132 => ?_) (fun c132 => ?_)
        · refine bV.aload_n G d_M_act_166 rfl ?_
          refine bV.callVo G m_M_sweepAll bw_639 bw_s31 bw_637 (c_M_sweepAll hok htr hct hrw) 0 rfl rfl rfl rfl rfl ⟨by decide, by decide⟩ ⟨by decide, by decide⟩ (Nat.le_of_ble_eq_true rfl) d_M_act_167 (fun ws9 h9 => ?_)
          obtain ⟨tr1, htr1, h9e⟩ := h9
          rw [h9e]
          exact bV.vretO G E0 rfl (by decide) (by decide) d_M_act_170 ⟨tr1, htr1, rfl⟩
        · exfalso; omega
      · exfalso; omega
    · exfalso; omega
  · exfalso; omega
set_option maxRecDepth 20000 in
set_option maxHeartbeats 4000000 in
theorem c_M_act {D : va_G} {cI cZ cJ : ClassId} {am : Nat → Nat} {mp : Nat} {th : Nat} {cr : Bool} {fd : Nat} {fo : Nat → Int32} {n : Nat} {lo : Nat → Int32} {np : Nat} {ps : Nat → Int32} {pb : Nat → Int32} {ip : Nat → Int32} {fr : Nat → Int32} {ln : Nat → Int32} {tr : Nat → Int32} {ct : Nat → Int32} {rw : Nat → Int32} {dr : Nat → Int32} {en : Nat} {sw : Nat} {rest : va_W} {lg : Nat → Nat} {p : Nat} {S : aS} (hRl : lg_R lo n lg) (hok : okS p S) (hk : okR lg p S) (hp : p + rlen lg p ≤ n) (hdv : dvR S fr ln tr ct rw dr) : bC D bcl (tys3 cI cZ cJ) y_M_act ({ frames := 2, cells := 0, slots := 0, locals := 45 }) (wM am cI cZ mp th cr fd fo n lo np ps pb ip (sNb S) fr ln tr (sNv S) ct rw dr en sw rest) [.ref (am 0), .int (nI p)] (bO (fun ws9 => ∃ (fr1 ln1 tr1 ct1 rw1 dr1 : Nat → Int32) (sw1 : Nat), dvR (actS lg p S) fr1 ln1 tr1 ct1 rw1 dr1 ∧ ws9 = wM am cI cZ mp th cr fd fo n lo np ps pb ip (sNb (actS lg p S)) fr1 ln1 tr1 (sNv (actS lg p S)) ct1 rw1 dr1 en sw1 rest) bno) := by
  obtain ⟨h1, h2, h3, h4, h5, h6⟩ := hdv
  have hn := hok.2.1
  have hd := dr_nv hok (Nat.le_refl (sNv S))
  have hc : ct (sNv S) = nI (sCt S (sNv S)) := by
    have z := h4 (sNv S) (Nat.le_refl _)
    rw [show lvS S (sNv S) = sCt S (sNv S) from lenV_f hd] at z
    exact z
  rcases hk with ⟨k, a, b, c⟩ | ⟨k, a, c⟩ | ⟨k, a⟩ | ⟨k, a⟩ | k
  · have e := act_1 (S := S) k
    rw [e.2] at hp
    refine (c_M_act1 (p := p) (c := sCt S (sNv S)) hRl k hn hc c (by omega) a).mono (bO_mono fun ws' h => ?_)
    refine ⟨_, _, _, _, _, _, _, ?_, by rw [e.1]; exact h⟩
    rw [e.1]
    have q := app_R (S' := ac1 p (lg (p + 1)) S) hok h4 h5 c rfl rfl rfl rfl
    refine ⟨fun x hx => ?_, fun x hx => ?_, fun x hx => ?_, q.1, q.2, h6⟩
    · show upd fr (sNb S) (nI (p + 2)) x = nI (fup (sFr S) (sNb S) (p + 2) x)
      by_cases z : x = sNb S
      · rw [z, pk_us, fup_s]
      · have hx' : x < sNb S + 1 := hx
        rw [pk_un z, fup_n z]; exact h1 x (by omega)
    · show upd ln (sNb S) (nI (lg (p + 1))) x = nI (fup (sLn S) (sNb S) (lg (p + 1)) x)
      by_cases z : x = sNb S
      · rw [z, pk_us, fup_s]
      · have hx' : x < sNb S + 1 := hx
        rw [pk_un z, fup_n z]; exact h2 x (by omega)
    · show upd tr (sNb S) (bB true) x = bB (if x = sNb S then true else sTh S x)
      by_cases z : x = sNb S
      · rw [z, pk_us, if_pos rfl]
      · have hx' : x < sNb S + 1 := hx
        rw [pk_un z, if_neg z]; exact h3 x (by omega)
  · have e := act_2 (S := S) k
    rw [e.2] at hp
    refine (c_M_act2 (p := p) (c := sCt S (sNv S)) hRl k hn hc c (by omega)).mono (bO_mono fun ws' h => ?_)
    refine ⟨_, _, _, _, _, _, _, ?_, by rw [e.1]; exact h⟩
    rw [e.1]
    have q := app_R (S' := ac2 (lg (p + 1)) S) hok h4 h5 c rfl rfl rfl rfl
    exact ⟨h1, h2, h3, q.1, q.2, h6⟩
  · have e := act_3 (S := S) k
    rw [e.2] at hp
    refine (c_M_act3 (p := p) hRl k (by omega) a).mono (bO_mono fun ws' h => ?_)
    refine ⟨_, _, _, _, _, _, _, ?_, by rw [e.1]; exact h⟩
    rw [e.1]
    have eo : ∀ v, v ≠ sNv S + 1 → lvS (ac3 S) v = lvS S v := fun v hv => lenV_c rfl (fup_n hv)
    have en : lvS (ac3 S) (sNv S + 1) = 0 := by
      show lenV (sDr S) (fup (sCt S) (sNv S + 1) 0) (sNv S + 1) = 0
      rw [lenV_f (dr_nv hok (by omega)), fup_s]
    refine ⟨h1, h2, h3, fun v hv => ?_, fun v i hv hi => ?_, fun v hv => ?_⟩
    · have hv' : v ≤ sNv S + 1 := hv
      by_cases z : v = sNv S + 1
      · rw [z, pk_us, en]
      · rw [pk_un z, eo v z]; exact h4 v (by omega)
    · have hv' : v ≤ sNv S + 1 := hv
      by_cases z : v = sNv S + 1
      · rw [z, en] at hi; exact absurd hi (Nat.not_lt_zero _)
      · rw [eo v z] at hi; exact h5 v i (by omega) hi
    · have hv' : v ≤ sNv S + 1 := hv
      show upd dr (sNv S + 1) (bB false) v = bB (sDr S v)
      by_cases z : v = sNv S + 1
      · rw [z, pk_us, dr_nv hok (by omega)]
      · rw [pk_un z]; exact h6 v (by omega)
  · have e := act_4 (S := S) k
    rw [e.2] at hp
    refine (c_M_act4 (p := p) hRl k (by omega) (by omega)).mono (bO_mono fun ws' h => ?_)
    refine ⟨_, _, _, _, _, _, _, ?_, by rw [e.1]; exact h⟩
    rw [e.1]
    have eo : ∀ v, v ≠ lg (p + 1) → lvS (ac4 (lg (p + 1)) S) v = lvS S v := fun v hv => lenV_c (if_neg hv) rfl
    have en : lvS (ac4 (lg (p + 1)) S) (lg (p + 1)) = 0 := lenV_t (by omega) (if_pos rfl)
    refine ⟨h1, h2, h3, fun v hv => ?_, fun v i hv hi => ?_, fun v hv => ?_⟩
    · by_cases z : v = lg (p + 1)
      · rw [z, pk_us, en]
      · rw [pk_un z, eo v z]; exact h4 v hv
    · by_cases z : v = lg (p + 1)
      · rw [z, en] at hi; exact absurd hi (Nat.not_lt_zero _)
      · rw [eo v z] at hi; exact h5 v i hv hi
    · show upd dr (lg (p + 1)) (bB true) v = bB (if v = lg (p + 1) then true else sDr S v)
      by_cases z : v = lg (p + 1)
      · rw [z, pk_us, if_pos rfl]
      · rw [pk_un z, if_neg z]; exact h6 v hv
  · have e := act_5 (S := S) k
    rw [e.2] at hp
    refine (c_M_act5 (p := p) hRl k (by omega) hok h3 h4 h5).mono (bO_mono fun ws' h => ?_)
    obtain ⟨tr1, q1, q2⟩ := h
    refine ⟨_, _, _, _, _, _, _, ?_, by rw [e.1]; exact q2⟩
    rw [e.1]
    exact ⟨h1, h2, q1, h4, h5, h6⟩
theorem d_M_walk_0 : decode b_M_walk 0 = .ok (.aload_n 0, 1) := by decide +kernel
theorem d_M_walk_1 : decode b_M_walk 1 = .ok (.iconst 0, 1) := by decide +kernel
theorem d_M_walk_2 : decode b_M_walk 2 = .ok (.putfield 57, 3) := by decide +kernel
theorem d_M_walk_5 : decode b_M_walk 5 = .ok (.aload_n 0, 1) := by decide +kernel
theorem d_M_walk_6 : decode b_M_walk 6 = .ok (.iconst 0, 1) := by decide +kernel
theorem d_M_walk_7 : decode b_M_walk 7 = .ok (.putfield 51, 3) := by decide +kernel
theorem d_M_walk_10 : decode b_M_walk 10 = .ok (.aload_n 0, 1) := by decide +kernel
theorem d_M_walk_11 : decode b_M_walk 11 = .ok (.getfield 35, 3) := by decide +kernel
theorem d_M_walk_14 : decode b_M_walk 14 = .ok (.iconst 0, 1) := by decide +kernel
theorem d_M_walk_15 : decode b_M_walk 15 = .ok (.iconst 0, 1) := by decide +kernel
theorem d_M_walk_16 : decode b_M_walk 16 = .ok (.iastore, 1) := by decide +kernel
theorem d_M_walk_17 : decode b_M_walk 17 = .ok (.aload_n 0, 1) := by decide +kernel
theorem d_M_walk_18 : decode b_M_walk 18 = .ok (.getfield 41, 3) := by decide +kernel
theorem d_M_walk_21 : decode b_M_walk 21 = .ok (.iconst 0, 1) := by decide +kernel
theorem d_M_walk_22 : decode b_M_walk 22 = .ok (.iconst 0, 1) := by decide +kernel
theorem d_M_walk_23 : decode b_M_walk 23 = .ok (.bastore, 1) := by decide +kernel
theorem d_M_walk_24 : decode b_M_walk 24 = .ok (.aload_n 0, 1) := by decide +kernel
theorem d_M_walk_25 : decode b_M_walk 25 = .ok (.iconst 0, 1) := by decide +kernel
theorem d_M_walk_26 : decode b_M_walk 26 = .ok (.putfield 74, 3) := by decide +kernel
theorem d_M_walk_29 : decode b_M_walk 29 = .ok (.aload_n 0, 1) := by decide +kernel
theorem d_M_walk_30 : decode b_M_walk 30 = .ok (.getfield 74, 3) := by decide +kernel
theorem d_M_walk_33 : decode b_M_walk 33 = .ok (.aload_n 0, 1) := by decide +kernel
theorem d_M_walk_34 : decode b_M_walk 34 = .ok (.getfield 64, 3) := by decide +kernel
theorem d_M_walk_37 : decode b_M_walk 37 = .ok (.if_icmp .ge 51, 3) := by decide +kernel
theorem d_M_walk_40 : decode b_M_walk 40 = .ok (.aload_n 0, 1) := by decide +kernel
theorem d_M_walk_41 : decode b_M_walk 41 = .ok (.getfield 74, 3) := by decide +kernel
theorem d_M_walk_44 : decode b_M_walk 44 = .ok (.aload_n 0, 1) := by decide +kernel
theorem d_M_walk_45 : decode b_M_walk 45 = .ok (.aload_n 0, 1) := by decide +kernel
theorem d_M_walk_46 : decode b_M_walk 46 = .ok (.getfield 74, 3) := by decide +kernel
theorem d_M_walk_49 : decode b_M_walk 49 = .ok (.invokevirtual 77, 3) := by decide +kernel
theorem d_M_walk_52 : decode b_M_walk 52 = .ok (.iadd, 1) := by decide +kernel
theorem d_M_walk_53 : decode b_M_walk 53 = .ok (.aload_n 0, 1) := by decide +kernel
theorem d_M_walk_54 : decode b_M_walk 54 = .ok (.getfield 64, 3) := by decide +kernel
theorem d_M_walk_57 : decode b_M_walk 57 = .ok (.if_icmp .gt 31, 3) := by decide +kernel
theorem d_M_walk_60 : decode b_M_walk 60 = .ok (.aload_n 0, 1) := by decide +kernel
theorem d_M_walk_61 : decode b_M_walk 61 = .ok (.aload_n 0, 1) := by decide +kernel
theorem d_M_walk_62 : decode b_M_walk 62 = .ok (.getfield 74, 3) := by decide +kernel
theorem d_M_walk_65 : decode b_M_walk 65 = .ok (.invokevirtual 81, 3) := by decide +kernel
theorem d_M_walk_68 : decode b_M_walk 68 = .ok (.aload_n 0, 1) := by decide +kernel
theorem d_M_walk_69 : decode b_M_walk 69 = .ok (.dup, 1) := by decide +kernel
theorem d_M_walk_70 : decode b_M_walk 70 = .ok (.getfield 74, 3) := by decide +kernel
theorem d_M_walk_73 : decode b_M_walk 73 = .ok (.aload_n 0, 1) := by decide +kernel
theorem d_M_walk_74 : decode b_M_walk 74 = .ok (.aload_n 0, 1) := by decide +kernel
theorem d_M_walk_75 : decode b_M_walk 75 = .ok (.getfield 74, 3) := by decide +kernel
theorem d_M_walk_78 : decode b_M_walk 78 = .ok (.invokevirtual 77, 3) := by decide +kernel
theorem d_M_walk_81 : decode b_M_walk 81 = .ok (.iadd, 1) := by decide +kernel
theorem d_M_walk_82 : decode b_M_walk 82 = .ok (.putfield 74, 3) := by decide +kernel
theorem d_M_walk_85 : decode b_M_walk 85 = .ok (.goto (-56), 3) := by decide +kernel
theorem d_M_walk_88 : decode b_M_walk 88 = .ok (.return_, 1) := by decide +kernel
set_option maxRecDepth 20000 in
set_option maxHeartbeats 4000000 in
theorem c_M_walk {D : va_G} {cI cZ cJ : ClassId} {am : Nat → Nat} {mp : Nat} {th : Nat} {cr : Bool} {fd : Nat} {fo : Nat → Int32} {n : Nat} {lo : Nat → Int32} {np : Nat} {ps : Nat → Int32} {pb : Nat → Int32} {ip : Nat → Int32} {nb : Nat} {fr : Nat → Int32} {ln : Nat → Int32} {tr : Nat → Int32} {nv : Nat} {ct : Nat → Int32} {rw : Nat → Int32} {dr : Nat → Int32} {en : Nat} {sw : Nat} {rest : va_W} {lg : Nat → Nat} {r : Nat} (hRl : lg_R lo n lg) (hcut : cutOk lg n r) : bC D bcl (tys3 cI cZ cJ) y_M_walk ({ frames := 3, cells := 0, slots := 0, locals := 67 }) (wM am cI cZ mp th cr fd fo n lo np ps pb ip nb fr ln tr nv ct rw dr en sw rest) [.ref (am 0)] (bO (fun ws9 => ∃ (fr1 ln1 tr1 ct1 rw1 dr1 : Nat → Int32) (sw1 : Nat), dvR (chS lg r).2 fr1 ln1 tr1 ct1 rw1 dr1 ∧ ws9 = wM am cI cZ mp th cr fd fo n lo np ps pb ip (sNb (chS lg r).2) fr1 ln1 tr1 (sNv (chS lg r).2) ct1 rw1 dr1 ((chS lg r).1) sw1 rest) bno) := by
  have h4 := hRl.1
  have hcn := hcut.2.1
  refine bC.of (by decide) m_M_walk.1 (Nat.le_of_ble_eq_true rfl) ?_
  intro Γ G E0
  show bV D bcl Γ 1 (wM am cI cZ mp th cr fd fo n lo np ps pb ip nb fr ln tr nv ct rw dr en sw rest) 0 0 0 [(0, .ref (am 0))] []
  have loop : ∀ (d : Nat) (q : Nat) (frz lnz trz ctz rwz drz : Nat → Int32) (swz : Nat), d + q = r → dvR (chS lg q).2 frz lnz trz ctz rwz drz → bV D bcl Γ 1 (wM am cI cZ mp th cr fd fo n lo np ps pb ip (sNb (chS lg q).2) frz lnz trz (sNv (chS lg q).2) ctz rwz drz ((chS lg q).1) swz rest) 0 0 29 [(0, .ref (am 0))] [] := by
    intro d
    induction d with
    | zero =>
      intro q frz lnz trz ctz rwz drz swz hd hdv
      have hqr := chS_le (lg := lg) (q := q) r (by omega)
      refine bV.aload_n G d_M_walk_29 rfl ?_
      refine bV.getf G cl_M 0 19 rfl (by decide) bw_564 rfl d_M_walk_30 ?_
      refine bV.aload_n G d_M_walk_33 rfl ?_
      refine bV.getf G cl_M 0 5 rfl (by decide) bw_550 rfl d_M_walk_34 ?_
      refine bV.icmp_geN (tgt := 88) G d_M_walk_37 (by decide) (by omega) (by omega) (fun c37 => ?_) (fun c37 => ?_)
      · exact bV.vretO G E0 rfl (by decide) (by decide) d_M_walk_88 ⟨frz, lnz, trz, ctz, rwz, drz, swz, by obtain rfl : r = q := (by omega); exact hdv, by obtain rfl : r = q := (by omega); rfl⟩
      · have c37 := Nat.lt_of_not_le c37
        refine bV.aload_n G d_M_walk_40 rfl ?_
        refine bV.getf G cl_M 0 19 rfl (by decide) bw_564 rfl d_M_walk_41 ?_
        refine bV.aload_n G d_M_walk_44 rfl ?_
        refine bV.aload_n G d_M_walk_45 rfl ?_
        refine bV.getf G cl_M 0 19 rfl (by decide) bw_564 rfl d_M_walk_46 ?_
        refine bV.callVi G m_M_sizeOf bw_627 bw_s28 bw_625 (c_M_sizeOf (p := (chS lg q).1) hRl (by omega)) 0 rfl rfl rfl rfl rfl ⟨by decide, by decide⟩ ⟨by decide, by decide⟩ (Nat.le_of_ble_eq_true rfl) d_M_walk_49 (fun x9 ws9 h9 => ?_)
        obtain ⟨rfl, h9e⟩ := h9
        rw [h9e]
        try dsimp only
        have hsz49 := szM_le (n := n) (p := (chS lg q).1) hRl.2.2
        refine bV.iaddN G d_M_walk_52 ?_
        refine bV.aload_n G d_M_walk_53 rfl ?_
        refine bV.getf G cl_M 0 5 rfl (by decide) bw_550 rfl d_M_walk_54 ?_
        refine bV.icmp_gtN (tgt := 88) G d_M_walk_57 (by decide) (by omega) (by omega) (fun c57 => ?_) (fun c57 => ?_)
        · exact bV.vretO G E0 rfl (by decide) (by decide) d_M_walk_88 ⟨frz, lnz, trz, ctz, rwz, drz, swz, by obtain rfl : r = q := (by omega); exact hdv, by obtain rfl : r = q := (by omega); rfl⟩
        · exfalso; obtain rfl : r = q := (by omega); have z := szM_cut c37 (hcut.2.2.resolve_left (by omega)); omega
    | succ d ih =>
      intro q frz lnz trz ctz rwz drz swz hd hdv
      have hqr := chS_le (lg := lg) (q := q) r (by omega)
      refine bV.aload_n G d_M_walk_29 rfl ?_
      refine bV.getf G cl_M 0 19 rfl (by decide) bw_564 rfl d_M_walk_30 ?_
      refine bV.aload_n G d_M_walk_33 rfl ?_
      refine bV.getf G cl_M 0 5 rfl (by decide) bw_550 rfl d_M_walk_34 ?_
      refine bV.icmp_geN (tgt := 88) G d_M_walk_37 (by decide) (by omega) (by omega) (fun c37 => ?_) (fun c37 => ?_)
      · exfalso; omega
      · have hpq := chS_le (lg := lg) (q := q + 1) r (by omega)
        have hpq : (chS lg q).1 + rlen lg (chS lg q).1 ≤ n := by have z : (chS lg (q + 1)).1 = (chS lg q).1 + rlen lg (chS lg q).1 := rfl; omega
        have hszf := szM_full hpq
        have hrp := rlen_pos (lg := lg) (p := (chS lg q).1)
        refine bV.aload_n G d_M_walk_40 rfl ?_
        refine bV.getf G cl_M 0 19 rfl (by decide) bw_564 rfl d_M_walk_41 ?_
        refine bV.aload_n G d_M_walk_44 rfl ?_
        refine bV.aload_n G d_M_walk_45 rfl ?_
        refine bV.getf G cl_M 0 19 rfl (by decide) bw_564 rfl d_M_walk_46 ?_
        refine bV.callVi G m_M_sizeOf bw_627 bw_s28 bw_625 (c_M_sizeOf (p := (chS lg q).1) hRl (by omega)) 0 rfl rfl rfl rfl rfl ⟨by decide, by decide⟩ ⟨by decide, by decide⟩ (Nat.le_of_ble_eq_true rfl) d_M_walk_49 (fun x9 ws9 h9 => ?_)
        obtain ⟨rfl, h9e⟩ := h9
        rw [h9e]
        try dsimp only
        have hsz49 := szM_le (n := n) (p := (chS lg q).1) hRl.2.2
        refine bV.iaddN G d_M_walk_52 ?_
        refine bV.aload_n G d_M_walk_53 rfl ?_
        refine bV.getf G cl_M 0 5 rfl (by decide) bw_550 rfl d_M_walk_54 ?_
        refine bV.icmp_gtN (tgt := 88) G d_M_walk_57 (by decide) (by omega) (by omega) (fun c57 => ?_) (fun c57 => ?_)
        · exfalso; omega
        · refine bV.aload_n G d_M_walk_60 rfl ?_
          refine bV.aload_n G d_M_walk_61 rfl ?_
          refine bV.getf G cl_M 0 19 rfl (by decide) bw_564 rfl d_M_walk_62 ?_
          refine bV.callVo G m_M_act bw_631 bw_s29 bw_629 (c_M_act hRl (okS_ch q (fun q0 z => hcut.1 q0 (by omega))) (hcut.1 q (by omega)) hpq hdv) 0 rfl rfl rfl rfl rfl ⟨by decide, by decide⟩ ⟨by decide, by decide⟩ (Nat.le_of_ble_eq_true rfl) d_M_walk_65 (fun ws9 h9 => ?_)
          obtain ⟨fr1, ln1, tr1, ct1, rw1, dr1, sw1, hdv1, h9e⟩ := h9
          rw [h9e]
          refine bV.aload_n G d_M_walk_68 rfl ?_
          refine bV.dup G d_M_walk_69 rfl ?_
          refine bV.getf G cl_M 0 19 rfl (by decide) bw_564 rfl d_M_walk_70 ?_
          refine bV.aload_n G d_M_walk_73 rfl ?_
          refine bV.aload_n G d_M_walk_74 rfl ?_
          refine bV.getf G cl_M 0 19 rfl (by decide) bw_564 rfl d_M_walk_75 ?_
          refine bV.callVi G m_M_sizeOf bw_627 bw_s28 bw_625 (c_M_sizeOf (p := (chS lg q).1) hRl (by omega)) 0 rfl rfl rfl rfl rfl ⟨by decide, by decide⟩ ⟨by decide, by decide⟩ (Nat.le_of_ble_eq_true rfl) d_M_walk_78 (fun x9 ws9 h9 => ?_)
          obtain ⟨rfl, h9e⟩ := h9
          rw [h9e]
          try dsimp only
          have hsz78 := szM_le (n := n) (p := (chS lg q).1) hRl.2.2
          refine bV.iaddN G d_M_walk_81 ?_
          refine bV.putf G (ws' := (wM am cI cZ mp th cr fd fo n lo np ps pb ip (sNb (chS lg (q + 1)).2) fr1 ln1 tr1 (sNv (chS lg (q + 1)).2) ct1 rw1 dr1 (((chS lg q).1) + (szM lg n ((chS lg q).1))) sw1 rest)) cl_M 0 19 rfl (by decide) bw_564 rfl rfl rfl (Nat.le_of_ble_eq_true rfl) d_M_walk_82 rfl ?_
          refine bV.goto (tgt := 29) G d_M_walk_85 (by decide) ?_
          rw [hszf]
          exact ih (q + 1) fr1 ln1 tr1 ct1 rw1 dr1 sw1 (by omega) hdv1
  refine bV.aload_n G d_M_walk_0 rfl ?_
  refine bV.iconst (v := nI 0) G d_M_walk_1 (by decide) ?_
  refine bV.putf G (ws' := (wM am cI cZ mp th cr fd fo n lo np ps pb ip 0 fr ln tr nv ct rw dr en sw rest)) cl_M 0 11 rfl (by decide) bw_556 rfl rfl rfl (Nat.le_of_ble_eq_true rfl) d_M_walk_2 rfl ?_
  refine bV.aload_n G d_M_walk_5 rfl ?_
  refine bV.iconst (v := nI 0) G d_M_walk_6 (by decide) ?_
  refine bV.putf G (ws' := (wM am cI cZ mp th cr fd fo n lo np ps pb ip 0 fr ln tr 0 ct rw dr en sw rest)) cl_M 0 15 rfl (by decide) bw_560 rfl rfl rfl (Nat.le_of_ble_eq_true rfl) d_M_walk_7 rfl ?_
  refine bV.aload_n G d_M_walk_10 rfl ?_
  refine bV.getf G cl_M 0 16 rfl (by decide) bw_561 rfl d_M_walk_11 ?_
  refine bV.iconst (v := nI 0) G d_M_walk_14 (by decide) ?_
  refine bV.iconst (v := nI 0) G d_M_walk_15 (by decide) ?_
  refine bV.iastoreN G (ws' := (wM am cI cZ mp th cr fd fo n lo np ps pb ip 0 fr ln tr 0 (upd ct 0 ((nI (0)))) rw dr en sw rest)) 9 0 rfl rfl (by omega) (by omega) d_M_walk_16 rfl ?_
  refine bV.aload_n G d_M_walk_17 rfl ?_
  refine bV.getf G cl_M 0 18 rfl (by decide) bw_563 rfl d_M_walk_18 ?_
  refine bV.iconst (v := nI 0) G d_M_walk_21 (by decide) ?_
  refine bV.iconst (v := nI 0) G d_M_walk_22 (by decide) ?_
  refine bV.topi (x := nI 0) (y := bB false) (by decide) ?_
  refine bV.zastoreN G (ws' := (wM am cI cZ mp th cr fd fo n lo np ps pb ip 0 fr ln tr 0 (upd ct 0 ((nI (0)))) rw (upd dr 0 ((bB (false)))) en sw rest)) 11 1 rfl rfl (by omega) (by omega) d_M_walk_23 rfl ?_
  refine bV.aload_n G d_M_walk_24 rfl ?_
  refine bV.iconst (v := nI 0) G d_M_walk_25 (by decide) ?_
  refine bV.putf G (ws' := (wM am cI cZ mp th cr fd fo n lo np ps pb ip 0 fr ln tr 0 (upd ct 0 ((nI (0)))) rw (upd dr 0 ((bB (false)))) 0 sw rest)) cl_M 0 19 rfl (by decide) bw_564 rfl rfl rfl (Nat.le_of_ble_eq_true rfl) d_M_walk_26 rfl ?_
  exact loop r 0 fr ln tr (upd ct 0 (nI 0)) rw (upd dr 0 (bB false)) sw (by omega) ⟨fun b hb => absurd hb (Nat.not_lt_zero _), fun b hb => absurd hb (Nat.not_lt_zero _), fun b hb => absurd hb (Nat.not_lt_zero _), fun v hv => by obtain rfl : v = 0 := Nat.le_zero.mp hv; exact pk_us, fun v k hv hk => absurd (Nat.lt_of_lt_of_le hk (lenV_le _ _ _)) (Nat.not_lt_zero _), fun v hv => by obtain rfl : v = 0 := Nat.le_zero.mp hv; exact pk_us⟩
theorem d_M_isReady_0 : decode b_M_isReady 0 = .ok (.aload_n 0, 1) := by decide +kernel
theorem d_M_isReady_1 : decode b_M_isReady 1 = .ok (.aload_n 0, 1) := by decide +kernel
theorem d_M_isReady_2 : decode b_M_isReady 2 = .ok (.getfield 84, 3) := by decide +kernel
theorem d_M_isReady_5 : decode b_M_isReady 5 = .ok (.ifCond .eq 7, 3) := by decide +kernel
theorem d_M_isReady_8 : decode b_M_isReady 8 = .ok (.iload_n 1, 1) := by decide +kernel
theorem d_M_isReady_9 : decode b_M_isReady 9 = .ok (.goto 4, 3) := by decide +kernel
theorem d_M_isReady_12 : decode b_M_isReady 12 = .ok (.iconst 0, 1) := by decide +kernel
theorem d_M_isReady_13 : decode b_M_isReady 13 = .ok (.putfield 48, 3) := by decide +kernel
theorem d_M_isReady_16 : decode b_M_isReady 16 = .ok (.aload_n 0, 1) := by decide +kernel
theorem d_M_isReady_17 : decode b_M_isReady 17 = .ok (.getfield 84, 3) := by decide +kernel
theorem d_M_isReady_20 : decode b_M_isReady 20 = .ok (.ifCond .ne 7, 3) := by decide +kernel
theorem d_M_isReady_23 : decode b_M_isReady 23 = .ok (.aload_n 0, 1) := by decide +kernel
theorem d_M_isReady_24 : decode b_M_isReady 24 = .ok (.invokevirtual 88, 3) := by decide +kernel
theorem d_M_isReady_27 : decode b_M_isReady 27 = .ok (.aload_n 0, 1) := by decide +kernel
theorem d_M_isReady_28 : decode b_M_isReady 28 = .ok (.getfield 84, 3) := by decide +kernel
theorem d_M_isReady_31 : decode b_M_isReady 31 = .ok (.ifCond .ne 7, 3) := by decide +kernel
theorem d_M_isReady_34 : decode b_M_isReady 34 = .ok (.iconst 1, 1) := by decide +kernel
theorem d_M_isReady_35 : decode b_M_isReady 35 = .ok (.goto 4, 3) := by decide +kernel
theorem d_M_isReady_38 : decode b_M_isReady 38 = .ok (.iconst 0, 1) := by decide +kernel
theorem d_M_isReady_39 : decode b_M_isReady 39 = .ok (.ireturn, 1) := by decide +kernel
set_option maxRecDepth 20000 in
set_option maxHeartbeats 4000000 in
theorem c_M_isReady {D : va_G} {cI cZ cJ : ClassId} {am : Nat → Nat} {mp : Nat} {th : Nat} {cr : Bool} {fd : Nat} {fo : Nat → Int32} {n : Nat} {lo : Nat → Int32} {np : Nat} {ps : Nat → Int32} {pb : Nat → Int32} {ip : Nat → Int32} {nb : Nat} {fr : Nat → Int32} {ln : Nat → Int32} {tr : Nat → Int32} {nv : Nat} {ct : Nat → Int32} {rw : Nat → Int32} {dr : Nat → Int32} {en : Nat} {sw : Nat} {rest : va_W} {lg : Nat → Nat} {S : aS} {f : Nat} (hRl : lg_R lo n lg) (hok : cr = false → logOk lg n S) : bC D bcl (tys3 cI cZ cJ) y_M_isReady ({ frames := 4, cells := 0, slots := 0, locals := 87 }) (wM am cI cZ mp th cr fd fo n lo np ps pb ip nb fr ln tr nv ct rw dr en sw rest) [.ref (am 0), .int (nI (f))] (bI (fun x ws9 => (cr = true ∧ x = bB false ∧ ws9 = wM am cI cZ mp f cr fd fo n lo np ps pb ip nb fr ln tr nv ct rw dr en sw rest) ∨ (cr = false ∧ x = bB true ∧ ∃ (fr1 ln1 tr1 ct1 rw1 dr1 : Nat → Int32) (sw1 : Nat), dvR S fr1 ln1 tr1 ct1 rw1 dr1 ∧ ws9 = wM am cI cZ mp 0 cr fd fo n lo np ps pb ip (sNb S) fr1 ln1 tr1 (sNv S) ct1 rw1 dr1 n sw1 rest)) bno) := by
  refine bC.of (by decide) m_M_isReady.1 (Nat.le_of_ble_eq_true rfl) ?_
  intro Γ G E0
  show bV D bcl Γ 2 (wM am cI cZ mp th cr fd fo n lo np ps pb ip nb fr ln tr nv ct rw dr en sw rest) 0 0 0 [(0, .ref (am 0)), (1, .int (nI (f)))] []
  refine bV.aload_n G d_M_isReady_0 rfl ?_
  refine bV.aload_n G d_M_isReady_1 rfl ?_
  refine bV.getf G cl_M 0 2 rfl (by decide) bw_547 rfl d_M_isReady_2 ?_
  refine bV.if_eqB (tgt := 12) G d_M_isReady_5 (by decide) (fun c5 => ?_) (fun c5 => ?_)
  · refine bV.iconst (v := nI 0) G d_M_isReady_12 (by decide) ?_
    refine bV.putf G (ws' := (wM am cI cZ mp 0 cr fd fo n lo np ps pb ip nb fr ln tr nv ct rw dr en sw rest)) cl_M 0 0 rfl (by decide) bw_545 rfl rfl rfl (Nat.le_of_ble_eq_true rfl) d_M_isReady_13 rfl ?_
    refine bV.aload_n G d_M_isReady_16 rfl ?_
    refine bV.getf G cl_M 0 2 rfl (by decide) bw_547 rfl d_M_isReady_17 ?_
    refine bV.if_neB (tgt := 27) G d_M_isReady_20 (by decide) (fun c20 => ?_) (fun c20 => ?_)
    · exact absurd (c5.symm.trans c20) (by decide)
    · obtain ⟨r, hrc⟩ := hok c5
      refine bV.aload_n G d_M_isReady_23 rfl ?_
      refine bV.callVo G m_M_walk bw_623 bw_s27 bw_621 (c_M_walk (r := r) hRl ⟨hrc.1, by rw [hrc.2]; exact Nat.le_refl _, Or.inl (by rw [hrc.2])⟩) 0 rfl rfl rfl rfl rfl ⟨by decide, by decide⟩ ⟨by decide, by decide⟩ (Nat.le_of_ble_eq_true rfl) d_M_isReady_24 (fun ws9 h9 => ?_)
      obtain ⟨fr1, ln1, tr1, ct1, rw1, dr1, sw1, hdv1, h9e⟩ := h9
      rw [hrc.2] at hdv1 h9e
      rw [h9e]
      refine bV.aload_n G d_M_isReady_27 rfl ?_
      refine bV.getf G cl_M 0 2 rfl (by decide) bw_547 rfl d_M_isReady_28 ?_
      refine bV.if_neB (tgt := 38) G d_M_isReady_31 (by decide) (fun c31 => ?_) (fun c31 => ?_)
      · exact absurd (c5.symm.trans c31) (by decide)
      · refine bV.iconst (v := nI 1) G d_M_isReady_34 (by decide) ?_
        refine bV.goto (tgt := 39) G d_M_isReady_35 (by decide) ?_
        refine bV.topi (x := nI 1) (y := bB true) (by decide) ?_
        exact bV.iretI G E0 rfl (bB_n _) (by decide) (by decide) d_M_isReady_39 (Or.inr ⟨c5, rfl, fr1, ln1, tr1, ct1, rw1, dr1, sw1, hdv1, rfl⟩)
  · refine bV.iload_n G d_M_isReady_8 rfl ?_
    refine bV.goto (tgt := 13) G d_M_isReady_9 (by decide) ?_
    refine bV.putf G (ws' := (wM am cI cZ mp f cr fd fo n lo np ps pb ip nb fr ln tr nv ct rw dr en sw rest)) cl_M 0 0 rfl (by decide) bw_545 rfl rfl rfl (Nat.le_of_ble_eq_true rfl) d_M_isReady_13 rfl ?_
    refine bV.aload_n G d_M_isReady_16 rfl ?_
    refine bV.getf G cl_M 0 2 rfl (by decide) bw_547 rfl d_M_isReady_17 ?_
    refine bV.if_neB (tgt := 27) G d_M_isReady_20 (by decide) (fun c20 => ?_) (fun c20 => ?_)
    · refine bV.aload_n G d_M_isReady_27 rfl ?_
      refine bV.getf G cl_M 0 2 rfl (by decide) bw_547 rfl d_M_isReady_28 ?_
      refine bV.if_neB (tgt := 38) G d_M_isReady_31 (by decide) (fun c31 => ?_) (fun c31 => ?_)
      · refine bV.iconst (v := nI 0) G d_M_isReady_38 (by decide) ?_
        refine bV.topi (x := nI 0) (y := bB false) (by decide) ?_
        exact bV.iretI G E0 rfl (bB_n _) (by decide) (by decide) d_M_isReady_39 (Or.inl ⟨c5, rfl, rfl⟩)
      · exact absurd (c5.symm.trans c31) (by decide)
    · exact absurd (c5.symm.trans c20) (by decide)
