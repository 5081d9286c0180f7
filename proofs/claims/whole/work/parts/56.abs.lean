/-! ===== the state that class and reference share; what each call does to it ===== -/
abbrev aA := (Nat → Nat) × Nat × aS × Nat × (Nat → Nat) × (Nat → Bool) × Nat × (Nat → Nat) × (Nat → Nat → Nat) × Bool
abbrev aLg (A : aA) : Nat → Nat := A.1
abbrev aN (A : aA) : Nat := A.2.1
abbrev aSt (A : aA) : aS := A.2.2.1
abbrev aFd (A : aA) : Nat := A.2.2.2.1
abbrev aFn (A : aA) : Nat → Nat := A.2.2.2.2.1
abbrev aMk (A : aA) : Nat → Bool := A.2.2.2.2.2.1
abbrev aNp (A : aA) : Nat := A.2.2.2.2.2.2.1
abbrev aQl (A : aA) : Nat → Nat := A.2.2.2.2.2.2.2.1
abbrev aQa (A : aA) : Nat → Nat → Nat := A.2.2.2.2.2.2.2.2.1
abbrev aCr (A : aA) : Bool := A.2.2.2.2.2.2.2.2.2
def AI (mp : Nat) (A : aA) : Prop := (aCr A = false → logOk (aLg A) (aN A) (aSt A)) ∧ (aCr A = true → aSt A = aS0 ∧ aFd A = 0 ∧ ∃ r, cutOk (aLg A) (aN A) r) ∧ aFd A ≤ 24 ∧ (∀ i, i < aFd A → aFn A i < 256) ∧ okQ mp (aNp A) (aQl A) (aQa A) (aMk A)
def CL (mp : Nat) (A : aA) (lf : Nat → Int32) (Pb : pc_C) (gt gp gh : Nat → Int32) (Pv : pc_C) (gd : Nat → Int32) (Pq : pc_C) : Prop := lg_R lf (aN A) (aLg A) ∧ clR (aLg A) (aSt A) (aFd A) (aFn A) Pb gt Pv gd ∧ mk_R 24 gp (aMk A) ∧ pc_R 664 (mp + 1) Pq (aNp A, aQl A, aQa A) ∧ ∃ mh, mk_R 24 gh mh
def MO (A : aA) (fo lo ps pb ip : Nat → Int32) : Prop := lg_R lo (aN A) (aLg A) ∧ foR fo (aFd A) (aFn A) ∧ qR (aNp A) (aQl A) (aQa A) ps pb ∧ mk_R 24 ip (aMk A)
theorem AI.okS {mp : Nat} {A : aA} (h : AI mp A) : okS (aN A) (aSt A) := by
  cases e : aCr A
  · exact (h.1 e).s
  · rw [(h.2.1 e).1]; exact okS_mono okS_0 (Nat.zero_le _)
theorem bI_mono2 {Ψ Ψ' : Int32 → va_W → Prop} {Θ Θ' : String → va_W → Prop} (h : ∀ x ws', Ψ x ws' → Ψ' x ws') (h2 : ∀ E ws', Θ E ws' → Θ' E ws') : ∀ r ws', bI Ψ Θ r ws' → bI Ψ' Θ' r ws' := fun r ws' hp => hp.elim (fun ⟨x, z1, z2⟩ => Or.inl ⟨x, z1, h _ _ z2⟩) (fun ⟨E, z1, z2⟩ => Or.inr ⟨E, z1, h2 _ _ z2⟩)
theorem baS_f {lg : Nat → Nat} {S : aS} {fo : Nat → Nat} {j : Nat} (h : j < sNb S) : baS lg S fo j = lbS lg S j := by
  funext i; exact baS_j h
theorem rootS_congr {row : Nat → Nat} {bl bl' : Nat → Nat} {ba ba' : Nat → Nat → Nat} : ∀ k, (∀ q, q < k → bl (row q) = bl' (row q) ∧ ba (row q) = ba' (row q)) → rootS row bl ba k = rootS row bl' ba' k := by
  intro k
  induction k with
  | zero => intro _; rfl
  | succ k ih =>
    intro h
    show sumS (ba (row k)) (rootS row bl ba k) (bl (row k)) = sumS (ba' (row k)) (rootS row bl' ba' k) (bl' (row k))
    rw [ih (fun q hq => h q (by omega)), (h k (by omega)).1, (h k (by omega)).2]
theorem outS_congr {row : Nat → Nat} {bl bl' : Nat → Nat} {ba ba' : Nat → Nat → Nat} : ∀ r k i, (∀ q, k ≤ q → q < k + r → bl (row q) = bl' (row q) ∧ ba (row q) = ba' (row q)) → outS row bl ba r k i = outS row bl' ba' r k i := by
  intro r
  induction r with
  | zero => intro k i _; rfl
  | succ r ih =>
    intro k i h
    show (if i < bl (row k) then nI (ba (row k) i) else outS row bl ba r (k + 1) (i - bl (row k))) = (if i < bl' (row k) then nI (ba' (row k) i) else outS row bl' ba' r (k + 1) (i - bl' (row k)))
    rw [(h k (by omega) (by omega)).1, (h k (by omega) (by omega)).2, ih (k + 1) _ (fun q h1 h2 => h q (by omega) (by omega))]
theorem pkA_congr {mt mk : Nat → Bool} {bl bl' : Nat → Nat} {ba ba' : Nat → Nat → Nat} {np : Nat} {Q : pkQ} : ∀ j, (∀ q, q < j → bl q = bl' q ∧ ba q = ba' q) → pkA mt mk bl ba np Q j = pkA mt mk bl' ba' np Q j := by
  intro j
  induction j with
  | zero => intro _; rfl
  | succ j ih =>
    intro h
    show (if (mt j && !mk j) = true then putB np j (bl j) (ba j) (pkA mt mk bl ba np Q j) else pkA mt mk bl ba np Q j) = (if (mt j && !mk j) = true then putB np j (bl' j) (ba' j) (pkA mt mk bl' ba' np Q j) else pkA mt mk bl' ba' np Q j)
    rw [ih (fun q hq => h q (by omega)), (h j (by omega)).1, (h j (by omega)).2]
theorem eqF_eqM {lg : Nat → Nat} {S : aS} {fd : Nat} {fn : Nat → Nat} {j : Nat} (h : j < sNb S) : eqF (sTh S) (fup (sLn S) (sNb S) fd) (baS lg S fn) (sNb S) j ↔ eqM lg S fd fn j := by
  unfold eqF eqM
  rw [fup_s, fup_n (show j ≠ sNb S by omega), baS_f h]
  exact ⟨fun z => ⟨z.1, z.2.1, fun i hi => (z.2.2 i hi).trans baS_o⟩, fun z => ⟨z.1, z.2.1, fun i hi => (z.2.2 i hi).trans baS_o.symm⟩⟩
theorem rec1_n {lg : Nat → Nat} {n len : Nat} {f : Nat → Nat} : rec1 lg n len f n = 1 ∧ rec1 lg n len f (n + 1) = len ∧ (∀ i, i < n → rec1 lg n len f i = lg i) ∧ (∀ i, i < len → rec1 lg n len f (n + 2 + i) = f i) := by
  unfold rec1 apB
  refine ⟨?_, ?_, fun i hi => ?_, fun i hi => ?_⟩
  · rw [if_neg (by omega), fup_n (by omega), fup_s]
  · rw [if_neg (by omega), fup_s]
  · rw [if_neg (by omega), fup_n (by omega), fup_n (by omega)]
  · rw [if_pos (by omega), Nat.add_sub_cancel_left]
theorem rec2_n {lg : Nat → Nat} {n k v : Nat} : rec2 lg n k v n = k ∧ rec2 lg n k v (n + 1) = v ∧ (∀ i, i < n → rec2 lg n k v i = lg i) := by
  unfold rec2
  refine ⟨?_, ?_, fun i hi => ?_⟩
  · rw [fup_n (by omega), fup_s]
  · rw [fup_s]
  · rw [fup_n (by omega), fup_n (by omega)]
theorem clB_lg {lg lg' : Nat → Nat} {S : aS} {n fd : Nat} {fn : Nat → Nat} {Pb : pc_C} (h : pc_R 600 25 Pb (sNb S, fup (sLn S) (sNb S) fd, baS lg S fn)) (hs : okS n S) (he : ∀ i, i < n → lg' i = lg i) : pc_R 600 25 Pb (sNb S, fup (sLn S) (sNb S) fd, baS lg' S fn) := by
  refine pc_R_congr h (fun j hj => rfl) (fun j i hj hi => ?_)
  by_cases z : j = sNb S
  · rw [z, baS_o, baS_o]
  · rw [fup_n z] at hi
    have h5 := hs.2.2.2.2.1 j (by omega)
    rw [baS_j (by omega), baS_j (by omega), he _ (by omega)]
theorem clB_0 {lg lg' : Nat → Nat} {S : aS} {n fd : Nat} {fn fn' : Nat → Nat} {Pb : pc_C} (h : pc_R 600 25 Pb (sNb S, fup (fup (sLn S) (sNb S) fd) (sNb S) 0, baS lg S fn)) (hs : okS n S) (he : ∀ i, i < n → lg' i = lg i) : pc_R 600 25 Pb (sNb S, fup (sLn S) (sNb S) 0, baS lg' S fn') := by
  refine pc_R_congr h (fun j hj => ?_) (fun j i hj hi => ?_)
  · by_cases z : j = sNb S
    · rw [z, fup_s, fup_s]
    · rw [fup_n z, fup_n z, fup_n z]
  · by_cases z : j = sNb S
    · rw [z, fup_s] at hi; exact absurd hi (Nat.not_lt_zero _)
    · rw [fup_n z, fup_n z] at hi
      have h5 := hs.2.2.2.2.1 j (by omega)
      rw [baS_j (by omega), baS_j (by omega), he _ (by omega)]
theorem clB_new {lg : Nat → Nat} {S : aS} {n fd : Nat} {fn : Nat → Nat} {Pb : pc_C} (h : pc_R 600 25 Pb (sNb S + 1, fup (fup (sLn S) (sNb S) fd) (sNb S + 1) 0, baS lg S fn)) (hs : okS n S) : pc_R 600 25 Pb (sNb (ac1 n fd S), fup (sLn (ac1 n fd S)) (sNb (ac1 n fd S)) 0, baS (rec1 lg n fd fn) (ac1 n fd S) fn) := by
  refine pc_R_congr h (fun j hj => rfl) (fun j i hj hi => ?_)
  show (if j = sNb S + 1 then fn i else rec1 lg n fd fn (fup (sFr S) (sNb S) (n + 2) j + i)) = (if j = sNb S then fn i else lg (sFr S j + i))
  have hj' : j ≤ sNb S + 1 := hj
  by_cases z : j = sNb S + 1
  · rw [z, fup_s] at hi; exact absurd hi (Nat.not_lt_zero _)
  · rw [fup_n z] at hi
    rw [if_neg z]
    by_cases y : j = sNb S
    · subst y
      rw [fup_s] at hi
      rw [if_pos rfl, fup_s]; exact rec1_n.2.2.2 i hi
    · rw [fup_n y] at hi
      have h5 := hs.2.2.2.2.1 j (by omega)
      rw [if_neg y, fup_n y]; exact rec1_n.2.2.1 _ (by omega)
theorem clB_feed {lg : Nat → Nat} {S : aS} {fd x : Nat} {fn : Nat → Nat} {Pb : pc_C} (h : pc_R 600 25 Pb (sNb S, fup (fup (sLn S) (sNb S) fd) (sNb S) (fd + 1), fup2 (baS lg S fn) (sNb S) fd x)) : pc_R 600 25 Pb (sNb S, fup (sLn S) (sNb S) (fd + 1), baS lg S (fup fn fd x)) := by
  refine pc_R_congr h (fun j hj => ?_) (fun j i hj hi => ?_)
  · by_cases z : j = sNb S
    · rw [z, fup_s, fup_s]
    · rw [fup_n z, fup_n z, fup_n z]
  · by_cases z : j = sNb S
    · subst z
      rw [baS_o]
      by_cases y : i = fd
      · rw [y, fup_s, fup2_s]
      · rw [fup_n y, fup2_n (by omega), baS_o]
    · rw [fup2_n (by omega)]
      show (if j = sNb S then _ else _) = (if j = sNb S then _ else _)
      rw [if_neg z, if_neg z]
/-! packs keep what they promise -/
def qv (Q : pkQ) (np : Nat) : Prop := ∀ p i, p ≤ np → i < Q.1 p → Q.2 p i < 256
theorem qv_put {Q : pkQ} {np x : Nat} (h : qv Q np) (hx : x < 256) : qv (putS np x Q) np := by
  intro p i hp hi
  have hi' : i < fup Q.1 np (Q.1 np + 1) p := hi
  show fup2 Q.2 np (Q.1 np) x p i < 256
  by_cases z : p = np ∧ i = Q.1 np
  · rw [z.1, z.2, fup2_s]; exact hx
  · rw [fup2_n z]
    by_cases y : p = np
    · subst y; rw [fup_s] at hi'; exact h p i hp (by omega)
    · rw [fup_n y] at hi'; exact h p i hp hi'
theorem qv_putN {Q : pkQ} {np : Nat} {f : Nat → Nat} (h : qv Q np) : ∀ k, (∀ i, i < k → f i < 256) → qv (putN np f Q k) np := by
  intro k
  induction k with
  | zero => intro _; exact h
  | succ k ih => intro hf; exact qv_put (ih (fun i hi => hf i (by omega))) (hf k (by omega))
theorem putS_oth {np x p : Nat} {Q : pkQ} (hp : p ≠ np) : (putS np x Q).1 p = Q.1 p := fup_n hp
theorem putB_oth {np j len p : Nat} {f : Nat → Nat} {Q : pkQ} (hp : p ≠ np) : (putB np j len f Q).1 p = Q.1 p := by
  unfold putB; rw [putN_oth hp, putS_oth hp, putS_oth hp]
theorem pkA_facts {mt mk : Nat → Bool} {bl : Nat → Nat} {ba : Nat → Nat → Nat} {np : Nat} {Q : pkQ} : ∀ j, j ≤ 24 → (∀ q, q < j → bl q ≤ 24 ∧ ∀ i, i < bl q → ba q i < 256) → qv Q np → qv (pkA mt mk bl ba np Q j) np ∧ (∀ p, p ≠ np → (pkA mt mk bl ba np Q j).1 p = Q.1 p) ∧ pcS (pkA mt mk bl ba np Q j).1 (np + 1) + 26 * cntU (fun b => !pkM mt mk j b) 24 ≤ pcS Q.1 (np + 1) + 26 * cntU (fun b => !mk b) 24 := by
  intro j
  induction j with
  | zero => intro _ _ h; refine ⟨h, fun _ _ => rfl, ?_⟩; rw [pkM_0]; exact Nat.le_refl _
  | succ j ih =>
    intro hj hb h
    obtain ⟨i1, i2, i3⟩ := ih (by omega) (fun q hq => hb q (by omega)) h
    cases e : mt j && !mk j
    · rw [pkA_f e, ← pkM_f e]; exact ⟨i1, i2, i3⟩
    · rw [pkA_t e]
      have c := pkM_cnt (show j < 24 by omega) e
      have b := hb j (by omega)
      refine ⟨qv_putN (qv_put (qv_put i1 (by omega)) (by omega)) _ b.2, fun p hp => by rw [putB_oth hp]; exact i2 p hp, ?_⟩
      rw [pcS_putB]; omega
theorem okQ_pack {mp np : Nat} {ql : Nat → Nat} {qa : Nat → Nat → Nat} {mk mt : Nat → Bool} {bl : Nat → Nat} {ba : Nat → Nat → Nat} {nb : Nat} (h : okQ mp np ql qa mk) (hn : np < mp) (hnb : nb ≤ 24) (hb : ∀ q, q < nb → bl q ≤ 24 ∧ ∀ i, i < bl q → ba q i < 256) {s : Int32} {Q : pkQ} (hQ : Q = pkA mt mk bl ba np (putS np (cntU (unp mt mk) nb) (ql, qa)) nb) : okQ mp (np + 1) (fup (putN np (byteN s) Q 4).1 (np + 1) 0) (putN np (byteN s) Q 4).2 (pkM mt mk nb) := by
  obtain ⟨h1, h2, h3, h4, h5, h6⟩ := h
  have hc := cntU_le (f := unp mt mk) nb
  have q0 : qv (ql, qa) np := by
    intro p i hp hi
    have hi' : i < ql p := hi
    by_cases z : p = np
    · rw [z, h3] at hi'; exact absurd hi' (Nat.not_lt_zero _)
    · exact h6 p i (by omega) hi'
  obtain ⟨a1, a2, a3⟩ := pkA_facts (mt := mt) (mk := mk) (bl := bl) (ba := ba) (np := np) (Q := putS np (cntU (unp mt mk) nb) (ql, qa)) nb hnb hb (qv_put q0 (by omega))
  rw [← hQ] at a1 a2 a3
  have hp4 : pcS (putN np (byteN s) Q 4).1 (np + 1) = pcS Q.1 (np + 1) + 4 := pcS_putN 4
  have hps : pcS (putS np (cntU (unp mt mk) nb) (ql, qa)).1 (np + 1) = pcS ql (np + 1) + 1 := pcS_putS
  have q4 := qv_putN (f := byteN s) a1 4 (fun i _ => byteN_lt s i)
  refine ⟨by omega, h2, fup_s, ?_, fun p hp => ?_, fun p i hp hi => ?_⟩
  · have e : pcS (fup (putN np (byteN s) Q 4).1 (np + 1) 0) (np + 1 + 1) = pcS (putN np (byteN s) Q 4).1 (np + 1) + 0 := pcS_fup
    rw [e, hp4]; omega
  · rw [fup_n (by omega)]
    by_cases z : p = np
    · rw [z, putN_len]; omega
    · rw [putN_oth z, a2 p z, putS_oth z]; exact h5 p (by omega)
  · rw [fup_n (by omega)] at hi
    exact q4 p i (by omega) hi
theorem okQ_poke {mp np : Nat} {ql : Nat → Nat} {qa : Nat → Nat → Nat} {mk : Nat → Bool} {j i : Nat} {m : Int32} (h : okQ mp np ql qa mk) (hj : j < np) (hi : i < ql j) : okQ mp np ql (fup2 qa j i (pkX (qa j i) m)) mk := by
  refine ⟨h.1, h.2.1, h.2.2.1, h.2.2.2.1, h.2.2.2.2.1, fun p k hp hk => ?_⟩
  by_cases z : p = j ∧ k = i
  · rw [z.1, z.2, fup2_s]; exact pkX_lt (h.2.2.2.2.2 j i hj hi) m
  · rw [fup2_n z]; exact h.2.2.2.2.2 p k hp hk
theorem okQ_0 {mp : Nat} (h : mp ≤ 8) {qa : Nat → Nat → Nat} : okQ mp 0 (fun _ => 0) qa (fun _ => false) := ⟨Nat.zero_le _, h, rfl, by decide, fun p hp => absurd hp (Nat.not_lt_zero _), fun p i hp => absurd hp (Nat.not_lt_zero _)⟩
