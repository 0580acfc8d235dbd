/-! class and reference tell tokens apart alike -/
def c_blk (g : Nat → Int32) (p : Nat) (T : r_T) : List r_K :=
  if T.1 = 1 then (if g p = 34 then (0, 0, 0) :: c_lit g (p + 1) (T.2.2.2 - 1 - (p + 1)) else if g p = 92 then [(1, g (p + 1), 0)] else if g p = 95 then [(1, 32, 0)] else [(1, g p, 0)])
  else if T.1 = 2 then [(2, T.2.1, 0)] else if T.1 = 3 then [(3, 46, 0)] else if T.1 = 4 then [(4, 44, 0)] else if T.1 = 5 then [(5, 37, 0)]
  else if T.1 = 6 then [(6, T.2.1, 0)] else if T.1 = 7 then [(7, T.2.2.1, c_tst T.2.1)] else if T.1 = 8 then [(9, T.2.1, 0)] else if T.1 = 9 then [(8, T.2.1, T.2.2.1)] else [(10, 65, 0)]
def c_of (g : Nat → Int32) (p : Nat) (T : r_T) : c_R := if T.1 = 0 then none else some (c_blk g p T, T.2.2.2 - p)
def c_V (c : Nat → Int32) (n : Nat) : Prop := ∀ j, j < n → 32 ≤ c j ∧ c j ≤ 126
theorem c_V0 {c : Nat → Int32} {n : Nat} (hv : c_V c n) (j : Nat) : ¬ r_at c n j = 0 ↔ j < n := by
  constructor
  · exact r_lt0
  · intro h e
    rw [r_at, if_pos h] at e
    have := (hv j h).1
    rw [e] at this
    exact absurd this (by decide)
theorem r_cmp_cases (g : Nat → Int32) (j : Nat) : r_cmp g j = 0 ∨ r_cmp g j = 1 ∨ r_cmp g j = 2 ∨ r_cmp g j = 3 ∨ r_cmp g j = 4 ∨ r_cmp g j = 5 ∨ r_cmp g j = 6 := by
  unfold r_cmp
  split
  · split
    · simp
    · split <;> simp
  · split
    · split <;> simp
    · split <;> simp
theorem r_run_S (g : Nat → Int32) : ∀ k q, r_run g q k ≤ k ∧ ((r_run g q (k + 1) = r_run g q k ∧ (r_run g q k < k ∨ r_dg (g (q + k)) = false)) ∨ (r_run g q k = k ∧ r_run g q (k + 1) = k + 1 ∧ r_dg (g (q + k)) = true)) := by
  intro k
  induction k with
  | zero =>
    intro q
    refine ⟨Nat.le_refl _, ?_⟩
    rw [r_run, r_run]
    cases e : r_dg (g q) with
    | false => left; exact ⟨rfl, Or.inr (by simpa using e)⟩
    | true => right; exact ⟨rfl, rfl, by simpa using e⟩
  | succ k ih =>
    intro q
    obtain ⟨h1, h2⟩ := ih (q + 1)
    rw [show r_run g q (k + 1 + 1) = (bif r_dg (g q) then 1 + r_run g (q + 1) (k + 1) else 0) from rfl, show r_run g q (k + 1) = (bif r_dg (g q) then 1 + r_run g (q + 1) k else 0) from rfl]
    cases e : r_dg (g q) with
    | false => exact ⟨Nat.zero_le _, Or.inl ⟨rfl, Or.inl (by show 0 < k + 1; omega)⟩⟩
    | true =>
      simp only [cond_true]
      rw [show q + (k + 1) = q + 1 + k by omega]
      refine ⟨by omega, ?_⟩
      rcases h2 with ⟨a, b⟩ | ⟨a, b, c⟩
      · left
        refine ⟨by omega, ?_⟩
        rcases b with b | b
        · left; omega
        · right; exact b
      · right; exact ⟨by omega, by omega, c⟩
theorem r_dg93 : r_dg 93 = false := by decide
theorem c_cn2_eq (g : Nat → Int32) (p q : Nat) (neg : Bool) (how : Int32) : c_on (c_cn2 g p q neg (c_tst how)) = c_of g p (if 1 ≤ r_run g q 7 ∧ r_run g q 7 ≤ 6 ∧ g (q + r_run g q 7) = 93 then (7, how, (bif neg then - r_val g q (r_run g q 7) 0 else r_val g q (r_run g q 7) 0), q + r_run g q 7 + 1) else (0, 0, 0, 0)) := by
  obtain ⟨h1, h2⟩ := r_run_S g 6 q
  unfold c_cn2
  rcases h2 with ⟨a, b⟩ | ⟨a, b, c⟩
  · rw [show r_run g q 7 = r_run g q 6 from a, c_val_eq]
    by_cases e1 : r_run g q 6 = 0
    · rw [if_pos (Or.inl e1), if_neg (fun z => by omega)]
      rfl
    · by_cases e2 : g (q + r_run g q 6) = 93
      · rw [if_neg (fun z => z.elim e1 (fun y => y e2)), if_pos ⟨by omega, h1, e2⟩]
        rfl
      · rw [if_pos (Or.inr e2), if_neg (fun z => e2 z.2.2)]
        rfl
  · have e2 : ¬ g (q + r_run g q 6) = 93 := by
      rw [a]
      intro z
      rw [z, r_dg93] at c
      cases c
    rw [if_pos (Or.inr e2), if_neg (fun z => by rw [show r_run g q 7 = 7 from b] at z; omega)]
    rfl
theorem c_cnd_eq (g : Nat → Int32) (p : Nat) (h0 : ¬ ((g (p + 1) = 104 ∨ g (p + 1) = 109 ∨ g (p + 1) = 115) ∧ g (p + 2) = 93)) : c_on (c_cnd g p) = c_of g p (r_brk g p) := by
  rw [r_brk, if_neg h0, c_cnd]
  generalize hh : r_cmp g (p + 1) = how
  have hc := r_cmp_cases g (p + 1)
  rw [hh] at hc
  rcases hc with rfl | rfl | rfl | rfl | rfl | rfl | rfl
  · rfl
  all_goals
    simp only [c_tst, r_brk2]
    simp (decide := true) only [if_true, if_false, or_true, true_or, or_false, false_or, or_self]
  · split
    · exact c_cn2_eq g p (p + 2 + 1) true 1
    · exact c_cn2_eq g p (p + 2) false 1
  · split
    · exact c_cn2_eq g p (p + 3 + 1) true 2
    · exact c_cn2_eq g p (p + 3) false 2
  · split
    · exact c_cn2_eq g p (p + 2 + 1) true 3
    · exact c_cn2_eq g p (p + 2) false 3
  · split
    · exact c_cn2_eq g p (p + 3 + 1) true 4
    · exact c_cn2_eq g p (p + 3) false 4
  · split
    · exact c_cn2_eq g p (p + 2 + 1) true 5
    · exact c_cn2_eq g p (p + 2) false 5
  · split
    · exact c_cn2_eq g p (p + 3 + 1) true 6
    · exact c_cn2_eq g p (p + 3) false 6
theorem c_of1 {g : Nat → Int32} {p : Nat} {w a b : Int32} {c : Nat} (hw : ¬ w = 0) : c_of g p (w, a, b, c) = some (c_blk g p (w, a, b, c), c - p) := by simp [c_of, hw]
theorem c_br_eq (g : Nat → Int32) (p : Nat) : c_br g p = c_of g p (r_brk g p) := by
  by_cases h0 : (g (p + 1) = 104 ∨ g (p + 1) = 109 ∨ g (p + 1) = 115) ∧ g (p + 2) = 93
  · rw [c_br, if_pos h0, r_brk, if_pos h0, c_of1 (by decide), show p + 3 - p = 3 by omega]
    rfl
  · rw [c_br, if_neg h0]
    exact c_cnd_eq g p h0
theorem j_ch1 : j_ch 1 0 = 65 ∧ j_ch 1 1 = 77 ∧ j_ch 1 2 = 47 ∧ j_ch 1 3 = 80 ∧ j_ch 1 4 = 77 := by decide +kernel
theorem c_mer_eq (g : Nat → Int32) (p : Nat) : c_mer g p 0 5 = decide (g p = 65 ∧ g (p + 1) = 77 ∧ g (p + 2) = 47 ∧ g (p + 3) = 80 ∧ g (p + 4) = 77) := by
  obtain ⟨h0, h1, h2, h3, h4⟩ := j_ch1
  simp only [c_mer, h0, h1, h2, h3, h4, Nat.add_zero]
  by_cases e0 : g p = 65 <;> by_cases e1 : g (p + 1) = 77 <;> by_cases e2 : g (p + 2) = 47 <;> by_cases e3 : g (p + 3) = 80 <;> by_cases e4 : g (p + 4) = 77 <;> simp [e0, e1, e2, e3, e4]
/-- the class's token is the reference's -/
theorem c_tk_eq {c : Nat → Int32} {n p : Nat} (hv : c_V c n) (hp : p < n) (h59 : ¬ r_at c n p = 59) : c_tk (r_at c n) n p = c_of (r_at c n) p (r_tok (r_at c n) n p) := by
  have hz := c_V0 hv (p + 1)
  generalize hg : r_at c n = g at h59 hz ⊢
  by_cases e34 : g p = 34
  · have hl : c_tk g n p = c_qt g n p := by simp [c_tk, e34]
    have hr : r_tok g n p = r_quo g n p := by simp [r_tok, e34]
    rw [hl, hr, c_qt, r_quo]
    split
    · rw [c_of1 (by decide), c_blk, if_pos rfl, if_pos e34]
      rfl
    · rfl
  by_cases e92 : g p = 92
  · by_cases e1 : p + 1 < n
    · have hl : c_tk g n p = some ([(1, g (p + 1), 0)], 2) := by simp [c_tk, e92, e1]
      have hr : r_tok g n p = (1, nI (p + 1), nI (p + 2), p + 2) := by simp [r_tok, e92, hz.mpr e1]
      rw [hl, hr, c_of1 (by decide), show p + 2 - p = 2 by omega]
      simp [c_blk, e92]
    · have hl : c_tk g n p = none := by simp [c_tk, e92, e1]
      have e0 : g (p + 1) = 0 := Decidable.not_not.mp (fun z => e1 (hz.mp z))
      have hr : r_tok g n p = (0, 0, 0, 0) := by simp [r_tok, r_tkB, r_tkC, r_tkD, r_bare, e92, e0]
      rw [hl, hr]
      rfl
  by_cases e95 : g p = 95
  · by_cases e1 : p + 1 < n
    · have hl : c_tk g n p = some ([(1, 32, 0)], 2) := by simp [c_tk, e95, e1]
      have hr : r_tok g n p = (1, -1, 0, p + 2) := by simp [r_tok, r_tkB, e95, hz.mpr e1]
      rw [hl, hr, c_of1 (by decide), show p + 2 - p = 2 by omega]
      simp [c_blk, e95]
    · have hl : c_tk g n p = none := by simp [c_tk, e95, e1]
      have e0 : g (p + 1) = 0 := Decidable.not_not.mp (fun z => e1 (hz.mp z))
      have hr : r_tok g n p = (0, 0, 0, 0) := by simp [r_tok, r_tkB, r_tkC, r_tkD, r_bare, e95, e0]
      rw [hl, hr]
      rfl
  have hB : r_tok g n p = r_tkC g n p := by simp [r_tok, r_tkB, e34, e92, e95]
  rw [hB]
  by_cases e91 : g p = 91
  · have hl : c_tk g n p = c_br g p := by simp [c_tk, e91]
    have hr : r_tkC g n p = r_brk g p := by simp [r_tkC, r_tkD, r_bare, e91]
    rw [hl, hr]
    exact c_br_eq g p
  by_cases e69 : g p = 69
  · by_cases e1 : g (p + 1) = 43 ∨ g (p + 1) = 45
    · have hl : c_tk g n p = some ([(6, g (p + 1), 0)], 2) := by simp [c_tk, e69, e1]
      have hr : r_tkC g n p = (6, g (p + 1), 0, p + 2) := by simp [r_tkC, r_bare, e69, e1]
      rw [hl, hr, c_of1 (by decide), show p + 2 - p = 2 by omega]
      rfl
    · have hl : c_tk g n p = none := by simp [c_tk, e69, e1]
      have hr : r_tkC g n p = (0, 0, 0, 0) := by simp [r_tkC, r_tkD, r_bare, e69, e1]
      rw [hl, hr]
      rfl
  by_cases e65 : g p = 65
  · by_cases e1 : g (p + 1) = 77 ∧ g (p + 2) = 47 ∧ g (p + 3) = 80 ∧ g (p + 4) = 77
    · have hm : c_mer g p 0 5 = true := by rw [c_mer_eq]; exact decide_eq_true ⟨e65, e1⟩
      have hl : c_tk g n p = some ([(10, 65, 0)], 5) := by simp [c_tk, e65, hm]
      have hr : r_tkC g n p = (10, 0, 0, p + 5) := by simp [r_tkC, r_tkD, r_bare, e65, e1]
      rw [hl, hr, c_of1 (by decide), show p + 5 - p = 5 by omega]
      rfl
    · have hm : c_mer g p 0 5 = false := by rw [c_mer_eq]; exact decide_eq_false (fun z => e1 z.2)
      have hl : c_tk g n p = none := by simp [c_tk, e65, hm]
      have hr : r_tkC g n p = (0, 0, 0, 0) := by simp only [r_tkC, r_tkD, r_bare, e65]; simp (decide := true) [e1]
      rw [hl, hr]
      rfl
  by_cases el : g p = 121 ∨ g p = 109 ∨ g p = 100 ∨ g p = 104 ∨ g p = 115
  · have hr : r_tkC g n p = r_let g n p := by
      rcases el with z | z | z | z | z <;> simp [r_tkC, r_tkD, r_bare, z]
    have hl : c_tk g n p = (bif r_fit (g p) (nI (r_same g (g p) p (n - p))) then some ([(8, g p, nI (r_same g (g p) p (n - p)))], r_same g (g p) p (n - p)) else none) := by
      rw [c_tk, if_neg e34, if_neg (fun z => z.elim e92 e95), if_neg e91, if_neg e69, if_neg e65, if_pos el]
    rw [hl, hr, r_let]
    cases ef : r_fit (g p) (nI (r_same g (g p) p (n - p))) with
    | true =>
      rw [if_pos rfl, c_of1 (by decide), show p + r_same g (g p) p (n - p) - p = r_same g (g p) p (n - p) by omega]
      rfl
    | false => rw [if_neg (by decide)]; rfl
  have hl : c_tk g n p = c_o1 (c_sgl (g p)) 1 := by rw [c_tk, if_neg e34, if_neg (fun z => z.elim e92 e95), if_neg e91, if_neg e69, if_neg e65, if_neg el]
  rw [hl, c_sgl, r_tkC]
  by_cases eb : r_bare (g p) = true
  · rw [if_pos eb, if_pos eb, c_of1 (by decide), c_blk, if_pos rfl, if_neg e34, if_neg e92, if_neg e95, show p + 1 - p = 1 by omega]
    rfl
  rw [if_neg eb, if_neg eb]
  by_cases ep : g p = 48 ∨ g p = 35 ∨ g p = 63
  · rw [if_pos ep, if_pos ep, c_of1 (by decide), show p + 1 - p = 1 by omega]
    rfl
  rw [if_neg ep, if_neg ep]
  by_cases e46 : g p = 46
  · rw [if_pos e46, if_pos e46, c_of1 (by decide), show p + 1 - p = 1 by omega, e46]
    rfl
  rw [if_neg e46, if_neg e46]
  by_cases e44 : g p = 44
  · rw [if_pos e44, if_pos e44, c_of1 (by decide), show p + 1 - p = 1 by omega, e44]
    rfl
  rw [if_neg e44, if_neg e44]
  by_cases e37 : g p = 37
  · rw [if_pos e37, if_pos e37, c_of1 (by decide), show p + 1 - p = 1 by omega, e37]
    rfl
  rw [if_neg e37, if_neg e37, if_neg h59, if_neg (fun z => e69 z.1), r_tkD, if_neg e91, if_neg el, if_neg (fun z => e65 z.1)]
  rfl
theorem c_tk_semi {g : Nat → Int32} {n p : Nat} (h59 : g p = 59) : c_tk g n p = some ([(11, 59, 0)], 1) := by
  unfold c_tk
  rw [h59]
  rfl

