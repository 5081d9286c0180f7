/-! ===== what a log stands for: records, the state that they make, chains of them ===== -/
abbrev aS := Nat × (Nat → Nat) × (Nat → Nat) × (Nat → Bool) × Nat × (Nat → Nat) × (Nat → Nat → Nat) × (Nat → Bool)
def aS0 : aS := (0, fun _ => 0, fun _ => 0, fun _ => false, 0, fun _ => 0, fun _ _ => 0, fun _ => false)
abbrev sNb (S : aS) : Nat := S.1
abbrev sFr (S : aS) : Nat → Nat := S.2.1
abbrev sLn (S : aS) : Nat → Nat := S.2.2.1
abbrev sTh (S : aS) : Nat → Bool := S.2.2.2.1
abbrev sNv (S : aS) : Nat := S.2.2.2.2.1
abbrev sCt (S : aS) : Nat → Nat := S.2.2.2.2.2.1
abbrev sRw (S : aS) : Nat → Nat → Nat := S.2.2.2.2.2.2.1
abbrev sDr (S : aS) : Nat → Bool := S.2.2.2.2.2.2.2
def ac1 (p len : Nat) (S : aS) : aS := (sNb S + 1, fup (sFr S) (sNb S) (p + 2), fup (sLn S) (sNb S) len, mk_up (sTh S) (sNb S) true, sNv S, fup (sCt S) (sNv S) (sCt S (sNv S) + 1), fup2 (sRw S) (sNv S) (sCt S (sNv S)) (sNb S), sDr S)
def ac2 (j : Nat) (S : aS) : aS := (sNb S, sFr S, sLn S, sTh S, sNv S, fup (sCt S) (sNv S) (sCt S (sNv S) + 1), fup2 (sRw S) (sNv S) (sCt S (sNv S)) j, sDr S)
def ac3 (S : aS) : aS := (sNb S, sFr S, sLn S, sTh S, sNv S + 1, fup (sCt S) (sNv S + 1) 0, sRw S, sDr S)
def ac4 (v : Nat) (S : aS) : aS := (sNb S, sFr S, sLn S, sTh S, sNv S, sCt S, sRw S, mk_up (sDr S) v true)
noncomputable def ac5 (S : aS) : aS := (sNb S, sFr S, sLn S, swS (sTh S) (hlB (sDr S) (sCt S) (sRw S) (sNv S)) (sNb S), sNv S, sCt S, sRw S, sDr S)
noncomputable def actS (lg : Nat → Nat) (p : Nat) (S : aS) : aS := if lg p = 1 then ac1 p (lg (p + 1)) S else if lg p = 2 then ac2 (lg (p + 1)) S else if lg p = 3 then ac3 S else if lg p = 4 then ac4 (lg (p + 1)) S else ac5 S
def rlen (lg : Nat → Nat) (p : Nat) : Nat := if lg p = 1 then 2 + lg (p + 1) else if lg p = 2 ∨ lg p = 4 then 2 else 1
def okS (a : Nat) (S : aS) : Prop := sNb S ≤ 24 ∧ sNv S ≤ 12 ∧ (∀ v, v ≤ sNv S → sCt S v ≤ 8) ∧ (∀ v k, v ≤ sNv S → k < sCt S v → sRw S v k < sNb S) ∧ (∀ b, b < sNb S → sLn S b ≤ 24 ∧ sFr S b + sLn S b ≤ a) ∧ (∀ v, sDr S v = true → v < sNv S)
def okR (lg : Nat → Nat) (p : Nat) (S : aS) : Prop := (lg p = 1 ∧ sNb S < 24 ∧ lg (p + 1) ≤ 24 ∧ sCt S (sNv S) < 8) ∨ (lg p = 2 ∧ lg (p + 1) < sNb S ∧ sCt S (sNv S) < 8) ∨ (lg p = 3 ∧ sNv S < 12) ∨ (lg p = 4 ∧ lg (p + 1) < sNv S) ∨ lg p = 5
theorem act_1 {lg : Nat → Nat} {p : Nat} {S : aS} (h : lg p = 1) : actS lg p S = ac1 p (lg (p + 1)) S ∧ rlen lg p = 2 + lg (p + 1) := ⟨if_pos h, if_pos h⟩
theorem act_2 {lg : Nat → Nat} {p : Nat} {S : aS} (h : lg p = 2) : actS lg p S = ac2 (lg (p + 1)) S ∧ rlen lg p = 2 := by
  unfold actS rlen; rw [h]; exact ⟨rfl, rfl⟩
theorem act_3 {lg : Nat → Nat} {p : Nat} {S : aS} (h : lg p = 3) : actS lg p S = ac3 S ∧ rlen lg p = 1 := by
  unfold actS rlen; rw [h]; exact ⟨rfl, rfl⟩
theorem act_4 {lg : Nat → Nat} {p : Nat} {S : aS} (h : lg p = 4) : actS lg p S = ac4 (lg (p + 1)) S ∧ rlen lg p = 2 := by
  unfold actS rlen; rw [h]; exact ⟨rfl, rfl⟩
theorem act_5 {lg : Nat → Nat} {p : Nat} {S : aS} (h : lg p = 5) : actS lg p S = ac5 S ∧ rlen lg p = 1 := by
  unfold actS rlen; rw [h]; exact ⟨rfl, rfl⟩
theorem rlen_pos {lg : Nat → Nat} {p : Nat} : 1 ≤ rlen lg p := by
  unfold rlen
  split
  · omega
  · split <;> omega
theorem okS_mono {a b : Nat} {S : aS} (h : okS a S) (hab : a ≤ b) : okS b S := ⟨h.1, h.2.1, h.2.2.1, h.2.2.2.1, fun j hj => ⟨(h.2.2.2.2.1 j hj).1, Nat.le_trans (h.2.2.2.2.1 j hj).2 hab⟩, h.2.2.2.2.2⟩
theorem fup_le {f : Nat → Nat} {k v c j : Nat} (h : j ≠ k → f j ≤ c) (hv : v ≤ c) : fup f k v j ≤ c := by
  unfold fup
  split
  · exact hv
  · rename_i z; exact h z
theorem okS_act {lg : Nat → Nat} {p : Nat} {S : aS} (h : okS p S) (hr : okR lg p S) : okS (p + rlen lg p) (actS lg p S) := by
  obtain ⟨h1, h2, h3, h4, h5, h6⟩ := h
  rcases hr with ⟨k, a, b, c⟩ | ⟨k, a, c⟩ | ⟨k, a⟩ | ⟨k, a⟩ | k
  · rw [(act_1 k).1, (act_1 (S := S) k).2]
    refine ⟨?_, h2, fun v hv => fup_le (fun _ => h3 v hv) (by omega), fun v i hv hi => ?_, fun j hj => ?_, h6⟩
    · show sNb S + 1 ≤ 24; omega
    · show fup2 (sRw S) (sNv S) (sCt S (sNv S)) (sNb S) v i < sNb S + 1
      unfold fup2
      split
      · omega
      · rename_i z
        have hi' : i < fup (sCt S) (sNv S) (sCt S (sNv S) + 1) v := hi
        have : i < sCt S v := by
          by_cases e : v = sNv S
          · subst e; rw [fup_s] at hi'; omega
          · rw [fup_n e] at hi'; exact hi'
        have := h4 v i hv this
        omega
    · show fup (sLn S) (sNb S) (lg (p + 1)) j ≤ 24 ∧ fup (sFr S) (sNb S) (p + 2) j + fup (sLn S) (sNb S) (lg (p + 1)) j ≤ p + (2 + lg (p + 1))
      by_cases e : j = sNb S
      · subst e; rw [fup_s, fup_s]; omega
      · have hj' : j < sNb S + 1 := hj
        rw [fup_n e, fup_n e]
        have := h5 j (by omega)
        omega
  · rw [(act_2 k).1, (act_2 (S := S) k).2]
    refine ⟨h1, h2, fun v hv => fup_le (fun _ => h3 v hv) (by omega), fun v i hv hi => ?_, fun j hj => ⟨(h5 j hj).1, Nat.le_trans (h5 j hj).2 (Nat.le_add_right _ _)⟩, h6⟩
    show fup2 (sRw S) (sNv S) (sCt S (sNv S)) (lg (p + 1)) v i < sNb S
    unfold fup2
    split
    · omega
    · rename_i z
      have hi' : i < fup (sCt S) (sNv S) (sCt S (sNv S) + 1) v := hi
      have : i < sCt S v := by
        by_cases e : v = sNv S
        · subst e; rw [fup_s] at hi'; omega
        · rw [fup_n e] at hi'; exact hi'
      exact h4 v i hv this
  · rw [(act_3 k).1, (act_3 (S := S) k).2]
    refine ⟨h1, ?_, fun v hv => fup_le (fun e => ?_) (by omega), fun v i hv hi => ?_, fun j hj => ⟨(h5 j hj).1, Nat.le_trans (h5 j hj).2 (Nat.le_add_right _ _)⟩, fun v hv => Nat.lt_succ_of_lt (h6 v hv)⟩
    · show sNv S + 1 ≤ 12; omega
    · have hv' : v ≤ sNv S + 1 := hv
      exact h3 v (by omega)
    · have hv' : v ≤ sNv S + 1 := hv
      have hi' : i < fup (sCt S) (sNv S + 1) 0 v := hi
      by_cases e : v = sNv S + 1
      · subst e; rw [fup_s] at hi'; exact absurd hi' (Nat.not_lt_zero _)
      · rw [fup_n e] at hi'; exact h4 v i (by omega) hi'
  · rw [(act_4 k).1, (act_4 (S := S) k).2]
    refine ⟨h1, h2, h3, h4, fun j hj => ⟨(h5 j hj).1, Nat.le_trans (h5 j hj).2 (Nat.le_add_right _ _)⟩, fun v hv => ?_⟩
    have hv' : mk_up (sDr S) (lg (p + 1)) true v = true := hv
    unfold mk_up at hv'
    by_cases e : v = lg (p + 1)
    · show v < sNv S; omega
    · rw [if_neg e] at hv'; exact h6 v hv'
  · rw [(act_5 k).1, (act_5 (S := S) k).2]
    exact ⟨h1, h2, h3, h4, fun j hj => ⟨(h5 j hj).1, Nat.le_trans (h5 j hj).2 (Nat.le_add_right _ _)⟩, h6⟩
noncomputable def chS (lg : Nat → Nat) : Nat → Nat × aS
  | 0 => (0, aS0)
  | r + 1 => ((chS lg r).1 + rlen lg (chS lg r).1, actS lg (chS lg r).1 (chS lg r).2)
def okC (lg : Nat → Nat) (r : Nat) : Prop := ∀ q, q < r → okR lg (chS lg q).1 (chS lg q).2
theorem okS_0 : okS 0 aS0 := ⟨by decide, by decide, fun v _ => Nat.zero_le _, fun v k _ hk => absurd hk (Nat.not_lt_zero _), fun b hb => absurd hb (Nat.not_lt_zero _), fun v hv => by cases hv⟩
theorem okS_ch {lg : Nat → Nat} : ∀ r, okC lg r → okS (chS lg r).1 (chS lg r).2 := by
  intro r
  induction r with
  | zero => intro _; exact okS_0
  | succ r ih => intro h; exact okS_act (ih (fun q hq => h q (by omega))) (h r (Nat.lt_succ_self _))
theorem chS_le {lg : Nat → Nat} {q : Nat} : ∀ r, q ≤ r → (chS lg q).1 + (r - q) ≤ (chS lg r).1 := by
  intro r
  induction r with
  | zero => intro h; obtain rfl : q = 0 := Nat.le_zero.mp h; exact Nat.le_refl _
  | succ r ih =>
    intro h
    rcases Nat.lt_or_ge q (r + 1) with z | z
    · have h1 := ih (by omega)
      have h2 := rlen_pos (lg := lg) (p := (chS lg r).1)
      show (chS lg q).1 + (r + 1 - q) ≤ (chS lg r).1 + rlen lg (chS lg r).1
      omega
    · obtain rfl : q = r + 1 := by omega
      omega
theorem chS_r {lg : Nat → Nat} (r : Nat) : r ≤ (chS lg r).1 := by
  have h := chS_le (lg := lg) (q := 0) r (Nat.zero_le _)
  omega
theorem act_congr {lg lg' : Nat → Nat} {p : Nat} {S : aS} (h : ∀ i, p ≤ i → i < p + rlen lg p → lg' i = lg i) : rlen lg' p = rlen lg p ∧ actS lg' p S = actS lg p S ∧ (okR lg p S → okR lg' p S) := by
  have h0 : lg' p = lg p := h p (Nat.le_refl _) (by have := rlen_pos (lg := lg) (p := p); omega)
  by_cases k1 : lg p = 1
  · have e := (act_1 (S := S) k1).2
    have h1 : lg' (p + 1) = lg (p + 1) := h (p + 1) (by omega) (by omega)
    unfold rlen actS okR
    rw [h0, h1]
    exact ⟨rfl, rfl, id⟩
  by_cases k2 : lg p = 2
  · have e := (act_2 (S := S) k2).2
    have h1 : lg' (p + 1) = lg (p + 1) := h (p + 1) (by omega) (by omega)
    unfold rlen actS okR
    rw [h0, h1]
    exact ⟨rfl, rfl, id⟩
  by_cases k4 : lg p = 4
  · have e := (act_4 (S := S) k4).2
    have h1 : lg' (p + 1) = lg (p + 1) := h (p + 1) (by omega) (by omega)
    unfold rlen actS okR
    rw [h0, h1]
    exact ⟨rfl, rfl, id⟩
  · unfold rlen actS okR
    rw [h0, if_neg k1, if_neg k1, if_neg k1, if_neg k1, if_neg k2, if_neg k2, if_neg k4, if_neg k4]
    exact ⟨rfl, rfl, fun z => by
      rcases z with z | z | z | z | z
      · exact absurd z.1 k1
      · exact absurd z.1 k2
      · exact Or.inr (Or.inr (Or.inl z))
      · exact absurd z.1 k4
      · exact Or.inr (Or.inr (Or.inr (Or.inr z)))⟩
theorem chS_congr {lg lg' : Nat → Nat} {r : Nat} (h : ∀ i, i < (chS lg r).1 → lg' i = lg i) : ∀ q, q ≤ r → chS lg' q = chS lg q := by
  intro q
  induction q with
  | zero => intro _; rfl
  | succ q ih =>
    intro hq
    have h1 := chS_le (lg := lg) (q := q + 1) r hq
    have h2 : (chS lg (q + 1)).1 = (chS lg q).1 + rlen lg (chS lg q).1 := rfl
    have e := act_congr (lg := lg) (lg' := lg') (p := (chS lg q).1) (S := (chS lg q).2) (fun i _ hi => h i (by omega))
    show ((chS lg' q).1 + rlen lg' (chS lg' q).1, actS lg' (chS lg' q).1 (chS lg' q).2) = ((chS lg q).1 + rlen lg (chS lg q).1, actS lg (chS lg q).1 (chS lg q).2)
    rw [ih (by omega), e.1, e.2.1]
theorem okC_congr {lg lg' : Nat → Nat} {r : Nat} (h : ∀ i, i < (chS lg r).1 → lg' i = lg i) (hc : okC lg r) : okC lg' r := by
  intro q hq
  rw [chS_congr h q (Nat.le_of_lt hq)]
  have h1 := chS_le (lg := lg) (q := q + 1) r hq
  have h2 : (chS lg (q + 1)).1 = (chS lg q).1 + rlen lg (chS lg q).1 := rfl
  exact (act_congr (fun i _ hi => h i (by omega))).2.2 (hc q hq)
/-- a log whose records end at n, and the state there -/
def logOk (lg : Nat → Nat) (n : Nat) (S : aS) : Prop := ∃ r, okC lg r ∧ chS lg r = (n, S)
theorem logOk.s {lg : Nat → Nat} {n : Nat} {S : aS} (h : logOk lg n S) : okS n S := by
  obtain ⟨r, h1, h2⟩ := h
  have h3 := okS_ch r h1
  rw [h2] at h3
  exact h3
theorem logOk.ext {lg lg' : Nat → Nat} {n n' : Nat} {S S' : aS} (h : logOk lg n S) (he : ∀ i, i < n → lg' i = lg i) (hr : okR lg' n S) (hn : n' = n + rlen lg' n) (hS : S' = actS lg' n S) : logOk lg' n' S' := by
  obtain ⟨r, h1, h2⟩ := h
  have he' : ∀ i, i < (chS lg r).1 → lg' i = lg i := by rw [h2]; exact he
  have e : chS lg' r = (n, S) := (chS_congr he' r (Nat.le_refl _)).trans h2
  refine ⟨r + 1, fun q hq => ?_, ?_⟩
  · rcases Nat.lt_or_ge q r with z | z
    · exact okC_congr he' h1 q z
    · obtain rfl : q = r := by omega
      rw [e]; exact hr
  · show ((chS lg' r).1 + rlen lg' (chS lg' r).1, actS lg' (chS lg' r).1 (chS lg' r).2) = (n', S')
    rw [e, hn, hS]
/-- a log of n bytes, cut anywhere: its whole records are r -/
def cutOk (lg : Nat → Nat) (n r : Nat) : Prop := okC lg r ∧ (chS lg r).1 ≤ n ∧ ((chS lg r).1 = n ∨ n < (chS lg r).1 + rlen lg (chS lg r).1)
theorem ch_cut {lg : Nat → Nat} {k : Nat} : ∀ r, okC lg r → k ≤ (chS lg r).1 → ∃ q, cutOk lg k q := by
  intro r
  induction r with
  | zero => intro h hk; exact ⟨0, h, Nat.zero_le _, Or.inl (Nat.le_zero.mp hk).symm⟩
  | succ r ih =>
    intro h hk
    rcases Nat.lt_or_ge k (chS lg r).1 with z | z
    · exact ih (fun q hq => h q (by omega)) (Nat.le_of_lt z)
    · rcases Nat.lt_or_ge k (chS lg (r + 1)).1 with y | y
      · exact ⟨r, fun q hq => h q (by omega), z, Or.inr y⟩
      · exact ⟨r + 1, h, y, Or.inl (Nat.le_antisymm y hk)⟩
theorem recLen_full {lg : Nat → Nat} {n p : Nat} {S : aS} (hr : okR lg p S) (h : p + rlen lg p ≤ n) : (if recLen lg n p ≤ n - p then recLen lg n p else 0) = rlen lg p ∧ p < n := by
  have hp : p < n := by have := rlen_pos (lg := lg) (p := p); omega
  have e : recLen lg n p = rlen lg p := by
    unfold recLen
    rw [if_pos hp]
    rcases hr with ⟨k, _⟩ | ⟨k, _⟩ | ⟨k, _⟩ | ⟨k, _⟩ | k
    · have z := (act_1 (S := S) k).2
      rw [if_pos k, if_pos (by omega), z]
    · rw [(act_2 (S := S) k).2, k]; rfl
    · rw [(act_3 (S := S) k).2, k]; rfl
    · rw [(act_4 (S := S) k).2, k]; rfl
    · rw [(act_5 (S := S) k).2, k]; rfl
  rw [e, if_pos (by omega)]
  exact ⟨rfl, hp⟩
theorem recLen_cut {lg : Nat → Nat} {n p : Nat} (hp : p ≤ n) (h : p = n ∨ n < p + rlen lg p) : (if recLen lg n p ≤ n - p then recLen lg n p else 0) = 0 := by
  have key : recLen lg n p = 0 ∨ ¬ recLen lg n p ≤ n - p := by
    unfold recLen
    by_cases hlt : p < n
    · rw [if_pos hlt]
      have h' : n < p + rlen lg p := by omega
      unfold rlen at h'
      by_cases k1 : lg p = 1
      · rw [if_pos k1] at h' ⊢
        by_cases k2 : p + 1 < n
        · rw [if_pos k2]; exact Or.inr (by omega)
        · rw [if_neg k2]; exact Or.inr (by omega)
      · rw [if_neg k1] at h' ⊢
        by_cases k2 : lg p = 2 ∨ lg p = 4
        · rw [if_pos k2] at h' ⊢; exact Or.inr (by omega)
        · rw [if_neg k2] at h' ; exact absurd h' (by omega)
    · rw [if_neg hlt]; exact Or.inl rfl
  rcases key with z | z
  · rw [z]; split <;> rfl
  · rw [if_neg z]
/-! ===== the class's parts beside such a state ===== -/
def baS (lg : Nat → Nat) (S : aS) (fo : Nat → Nat) : Nat → Nat → Nat := fun j i => if j = sNb S then fo i else lg (sFr S j + i)
def clR (lg : Nat → Nat) (S : aS) (fd : Nat) (fo : Nat → Nat) (Pb : pc_C) (gt : Nat → Int32) (Pv : pc_C) (gd : Nat → Int32) : Prop := pc_R 600 25 Pb (sNb S, fup (sLn S) (sNb S) fd, baS lg S fo) ∧ mk_R 24 gt (sTh S) ∧ pc_R 104 13 Pv (sNv S, sCt S, sRw S) ∧ mk_R 12 gd (sDr S)
theorem baS_o {lg : Nat → Nat} {S : aS} {fo : Nat → Nat} {i : Nat} : baS lg S fo (sNb S) i = fo i := if_pos rfl
theorem baS_j {lg : Nat → Nat} {S : aS} {fo : Nat → Nat} {j i : Nat} (h : j < sNb S) : baS lg S fo j i = lg (sFr S j + i) := if_neg (by omega)
theorem clR_0 {lg : Nat → Nat} {fo : Nat → Nat} {Pb : pc_C} {gt : Nat → Int32} {Pv : pc_C} {gd : Nat → Int32} {ba va : Nat → Nat → Nat} (hb : pc_R 600 25 Pb (0, (fun _ => 0), ba)) (ht : mk_R 24 gt (fun _ => false)) (hv : pc_R 104 13 Pv (0, (fun _ => 0), va)) (hd : mk_R 12 gd (fun _ => false)) : clR lg aS0 0 fo Pb gt Pv gd :=
  ⟨pc_R_congr hb (fun j hj => by unfold fup; split <;> rfl) (fun j i _ hi => absurd hi (Nat.not_lt_zero _)), ht, pc_R_congr hv (fun j hj => rfl) (fun j i _ hi => absurd hi (Nat.not_lt_zero _)), hd⟩
