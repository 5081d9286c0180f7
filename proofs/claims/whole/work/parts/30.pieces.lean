/-! ===== numbered pieces of one row of numbers: the cells (items, starts, size, count) and what they stand for (how many, each one's length, its numbers; the last one is open) ===== -/
def fup (f : Nat → Nat) (k v : Nat) : Nat → Nat := fun j => if j = k then v else f j
def fup2 (g : Nat → Nat → Nat) (a b v : Nat) : Nat → Nat → Nat := fun j i => if j = a ∧ i = b then v else g j i
theorem fup_s {f : Nat → Nat} {k v : Nat} : fup f k v k = v := if_pos rfl
theorem fup_n {f : Nat → Nat} {k v j : Nat} (h : j ≠ k) : fup f k v j = f j := if_neg h
theorem fup2_s {g : Nat → Nat → Nat} {a b v : Nat} : fup2 g a b v a b = v := if_pos ⟨rfl, rfl⟩
theorem fup2_n {g : Nat → Nat → Nat} {a b v j i : Nat} (h : ¬ (j = a ∧ i = b)) : fup2 g a b v j i = g j i := if_neg h
def pcS (pl : Nat → Nat) : Nat → Nat
  | 0 => 0
  | j + 1 => pcS pl j + pl j
theorem pcS_congr {pl pl' : Nat → Nat} : ∀ n, (∀ j, j < n → pl j = pl' j) → pcS pl n = pcS pl' n := by
  intro n
  induction n with
  | zero => intro _; rfl
  | succ n ih =>
    intro h
    show pcS pl n + pl n = pcS pl' n + pl' n
    rw [ih (fun j hj => h j (by omega)), h n (by omega)]
theorem pcS_mono {pl : Nat → Nat} {a b : Nat} (h : a ≤ b) : pcS pl a ≤ pcS pl b := by
  induction b with
  | zero => rw [Nat.le_zero.mp h]; exact Nat.le_refl _
  | succ b ih =>
    rcases Nat.lt_or_ge a (b + 1) with q | q
    · exact Nat.le_trans (ih (by omega)) (Nat.le_add_right _ _)
    · rw [show a = b + 1 by omega]; exact Nat.le_refl _
theorem pcS_lt {pl : Nat → Nat} {ct j i : Nat} (hj : j ≤ ct) (hi : i < pl j) : pcS pl j + i < pcS pl (ct + 1) := by
  have h1 : pcS pl (j + 1) ≤ pcS pl (ct + 1) := pcS_mono (by omega)
  have h2 : pcS pl (j + 1) = pcS pl j + pl j := rfl
  omega
theorem pcS_inj {pl : Nat → Nat} {j i j' i' : Nat} (hi : i < pl j) (hi' : i' < pl j') (h : pcS pl j + i = pcS pl j' + i') : j = j' ∧ i = i' := by
  have key : ∀ {a b x y : Nat}, a < b → x < pl a → y < pl b → pcS pl a + x ≠ pcS pl b + y := by
    intro a b x y hab hx hy he
    have h1 : pcS pl (a + 1) ≤ pcS pl b := pcS_mono (by omega)
    have h2 : pcS pl (a + 1) = pcS pl a + pl a := rfl
    omega
  rcases Nat.lt_trichotomy j j' with q | q | q
  · exact absurd h (key q hi hi')
  · subst q; exact ⟨rfl, by omega⟩
  · exact absurd h.symm (key q hi' hi)
abbrev pc_A := Nat × (Nat → Nat) × (Nat → Nat → Nat)
abbrev pc_C := (Nat → Int32) × (Nat → Int32) × Nat × Nat
def pc_R (NI ns : Nat) (P : pc_C) (A : pc_A) : Prop := P.2.2.2 = A.1 ∧ A.1 < ns ∧ ns < 2 ^ 31 ∧ NI < 2 ^ 31 ∧ P.2.2.1 = pcS A.2.1 (A.1 + 1) ∧ P.2.2.1 ≤ NI ∧ (∀ j, j ≤ A.1 → P.2.1 j = nI (pcS A.2.1 j)) ∧ (∀ j i, j ≤ A.1 → i < A.2.1 j → P.1 (pcS A.2.1 j + i) = nI (A.2.2 j i)) ∧ (∀ j i, j ≤ A.1 → i < A.2.1 j → A.2.2 j i < 2 ^ 31)
theorem pc_R_add {NI ns : Nat} {P : pc_C} {A : pc_A} {x : Nat} (h : pc_R NI ns P A) (hx : x < 2 ^ 31) (hr : P.2.2.1 < NI) : pc_R NI ns (upd P.1 P.2.2.1 (nI x), P.2.1, P.2.2.1 + 1, P.2.2.2) (A.1, fup A.2.1 A.1 (A.2.1 A.1 + 1), fup2 A.2.2 A.1 (A.2.1 A.1) x) := by
  obtain ⟨f, st, sz, ct⟩ := P
  obtain ⟨c, pl, pa⟩ := A
  obtain ⟨h1, h2, h3, h4, h5, h6, h7, h8, h9⟩ := h
  dsimp only at *
  subst h1
  have hS : ∀ j, j ≤ ct → pcS (fup pl ct (pl ct + 1)) j = pcS pl j := fun j hj => pcS_congr j (fun i hi => fup_n (by omega))
  have hE : sz = pcS pl ct + pl ct := h5
  unfold pc_R
  dsimp only
  refine ⟨rfl, h2, h3, h4, ?_, hr, fun j hj => by rw [hS j hj]; exact h7 j hj, fun j i hj hi => ?_, fun j i hj hi => ?_⟩
  · show sz + 1 = pcS (fup pl ct (pl ct + 1)) ct + fup pl ct (pl ct + 1) ct
    rw [hS ct (Nat.le_refl _), fup_s]; omega
  · rw [hS j hj]
    by_cases hjc : j = ct
    · subst hjc
      rw [fup_s] at hi
      by_cases hi2 : i = pl j
      · subst hi2
        rw [fup2_s, ← hE]; exact pk_us
      · rw [fup2_n (by omega), pk_un (by omega)]
        exact h8 j i hj (by omega)
    · rw [fup_n hjc] at hi
      rw [fup2_n (by omega)]
      have := pcS_lt hj hi
      rw [pk_un (by omega)]
      exact h8 j i hj hi
  · by_cases hjc : j = ct
    · subst hjc
      rw [fup_s] at hi
      by_cases hi2 : i = pl j
      · subst hi2; rw [fup2_s]; exact hx
      · rw [fup2_n (by omega)]; exact h9 j i hj (by omega)
    · rw [fup_n hjc] at hi
      rw [fup2_n (by omega)]; exact h9 j i hj hi
theorem pc_R_close {NI ns : Nat} {P : pc_C} {A : pc_A} (h : pc_R NI ns P A) (hr : A.1 + 1 < ns) : pc_R NI ns (P.1, upd P.2.1 (P.2.2.2 + 1) (nI P.2.2.1), P.2.2.1, P.2.2.2 + 1) (A.1 + 1, fup A.2.1 (A.1 + 1) 0, A.2.2) := by
  obtain ⟨f, st, sz, ct⟩ := P
  obtain ⟨c, pl, pa⟩ := A
  obtain ⟨h1, h2, h3, h4, h5, h6, h7, h8, h9⟩ := h
  dsimp only at *
  subst h1
  have hS : ∀ j, j ≤ ct + 1 → pcS (fup pl (ct + 1) 0) j = pcS pl j := fun j hj => pcS_congr j (fun i hi => fup_n (by omega))
  unfold pc_R
  dsimp only
  refine ⟨rfl, hr, h3, h4, ?_, h6, fun j hj => ?_, fun j i hj hi => ?_, fun j i hj hi => ?_⟩
  · show sz = pcS (fup pl (ct + 1) 0) (ct + 1) + fup pl (ct + 1) 0 (ct + 1)
    rw [hS (ct + 1) (Nat.le_refl _), fup_s]; exact h5
  · rw [hS j hj]
    by_cases hjc : j = ct + 1
    · subst hjc; rw [pk_us, h5]
    · rw [pk_un hjc]; exact h7 j (by omega)
  · rw [hS j hj]
    by_cases hjc : j = ct + 1
    · subst hjc; rw [fup_s] at hi; omega
    · rw [fup_n hjc] at hi; exact h8 j i (by omega) hi
  · by_cases hjc : j = ct + 1
    · subst hjc; rw [fup_s] at hi; omega
    · rw [fup_n hjc] at hi; exact h9 j i (by omega) hi
theorem pc_R_clearOpen {NI ns : Nat} {P : pc_C} {A : pc_A} (h : pc_R NI ns P A) : pc_R NI ns (P.1, P.2.1, P.2.2.1 - A.2.1 A.1, P.2.2.2) (A.1, fup A.2.1 A.1 0, A.2.2) := by
  obtain ⟨f, st, sz, ct⟩ := P
  obtain ⟨c, pl, pa⟩ := A
  obtain ⟨h1, h2, h3, h4, h5, h6, h7, h8, h9⟩ := h
  dsimp only at *
  subst h1
  have hS : ∀ j, j ≤ ct → pcS (fup pl ct 0) j = pcS pl j := fun j hj => pcS_congr j (fun i hi => fup_n (by omega))
  have hE : sz = pcS pl ct + pl ct := h5
  unfold pc_R
  dsimp only
  refine ⟨rfl, h2, h3, h4, ?_, by omega, fun j hj => by rw [hS j hj]; exact h7 j hj, fun j i hj hi => ?_, fun j i hj hi => ?_⟩
  · show sz - pl ct = pcS (fup pl ct 0) ct + fup pl ct 0 ct
    rw [hS ct (Nat.le_refl _), fup_s]; omega
  · rw [hS j hj]
    by_cases hjc : j = ct
    · subst hjc; rw [fup_s] at hi; omega
    · rw [fup_n hjc] at hi; exact h8 j i hj hi
  · by_cases hjc : j = ct
    · subst hjc; rw [fup_s] at hi; omega
    · rw [fup_n hjc] at hi; exact h9 j i hj hi
theorem pc_R_clear {NI ns : Nat} {P : pc_C} {A : pc_A} (h : pc_R NI ns P A) : pc_R NI ns (P.1, P.2.1, 0, 0) (0, fun _ => 0, A.2.2) := by
  obtain ⟨f, st, sz, ct⟩ := P
  obtain ⟨c, pl, pa⟩ := A
  obtain ⟨h1, h2, h3, h4, h5, h6, h7, h8, h9⟩ := h
  dsimp only at *
  unfold pc_R
  dsimp only
  refine ⟨rfl, by omega, h3, h4, rfl, Nat.zero_le _, fun j hj => ?_, fun j i hj hi => absurd hi (Nat.not_lt_zero _), fun j i hj hi => absurd hi (Nat.not_lt_zero _)⟩
  rw [Nat.le_zero.mp hj]
  exact h7 0 (Nat.zero_le _)
theorem pc_R_put {NI ns : Nat} {P : pc_C} {A : pc_A} {j i x : Nat} (h : pc_R NI ns P A) (hj : j ≤ A.1) (hi : i < A.2.1 j) (hx : x < 2 ^ 31) : pc_R NI ns (upd P.1 (pcS A.2.1 j + i) (nI x), P.2.1, P.2.2.1, P.2.2.2) (A.1, A.2.1, fup2 A.2.2 j i x) := by
  obtain ⟨f, st, sz, ct⟩ := P
  obtain ⟨c, pl, pa⟩ := A
  obtain ⟨h1, h2, h3, h4, h5, h6, h7, h8, h9⟩ := h
  dsimp only at *
  unfold pc_R
  dsimp only
  refine ⟨h1, h2, h3, h4, h5, h6, h7, fun j' i' hj' hi' => ?_, fun j' i' hj' hi' => ?_⟩
  · by_cases hq : j' = j ∧ i' = i
    · obtain ⟨rfl, rfl⟩ := hq
      rw [fup2_s, pk_us]
    · rw [fup2_n hq, pk_un (fun z => hq (pcS_inj hi' hi z))]
      exact h8 j' i' hj' hi'
  · by_cases hq : j' = j ∧ i' = i
    · obtain ⟨rfl, rfl⟩ := hq
      rw [fup2_s]; exact hx
    · rw [fup2_n hq]; exact h9 j' i' hj' hi'
