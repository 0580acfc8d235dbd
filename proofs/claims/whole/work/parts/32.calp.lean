/-! THE TWO CALENDARS, pure -/
theorem cf_b_t {b : Bool} (h : ¬ cf_b b = 0) : b = true := by
  cases b with
  | true => rfl
  | false => exact absurd rfl h
theorem cf_b_f {b : Bool} (h : cf_b b = 0) : b = false := by
  cases b with
  | false => rfl
  | true => exact absurd h (by decide)
def q_fy (c : Bool) : Nat := bif c then 1904 else 1900
def q_do (c : Bool) (y m : Nat) : Nat := if m = 2 then (if k_leap y = true ∨ (c = false ∧ y = 1900) then 29 else 28) else if m = 4 ∨ m = 6 ∨ m = 9 ∨ m = 11 then 30 else 31
def q_dy (c : Bool) (y : Nat) : Nat := 337 + q_do c y 2
def q_S (c : Bool) (y : Nat) : Nat := k_db y - k_db (q_fy c) + (if c = false ∧ 1900 < y then 1 else 0)
def q_cum (c : Bool) (y : Nat) : Nat → Nat
  | 0 => 0
  | m + 1 => q_cum c y m + (if m = 0 then 0 else q_do c y m)
def q_day (c : Bool) (s y m dd : Nat) : Prop := q_fy c ≤ y ∧ y ≤ 9999 ∧ 1 ≤ m ∧ m ≤ 12 ∧ 1 ≤ dd ∧ dd ≤ q_do c y m ∧ s + 1 = k_lo c + q_S c y + q_cum c y m + dd
def q_ser (c : Bool) (x y z : Int32) : Int32 := if x < nI (q_fy c) ∨ 9999 < x ∨ y < 1 ∨ 12 < y ∨ z < 1 ∨ nI (q_do c x.toNatClampNeg y.toNatClampNeg) < z then -3 else nI (k_lo c + z.toNatClampNeg - 1 + q_S c x.toNatClampNeg + q_cum c x.toNatClampNeg y.toNatClampNeg)
def q_dt (c : Bool) (x p : Int32) (y m dd : Nat) : Int32 := if x < nI (k_lo c) ∨ nI (k_hi c) < x ∨ p < 0 ∨ 3 < p then -3 else if p = 3 then nI (k_wd c x.toNatClampNeg) else if p = 0 then nI y else if p = 1 then nI m else nI dd
theorem k_lp {y : Nat} : (k_leap y = true ↔ (y % 4 = 0 ∧ (¬ y % 100 = 0 ∨ y % 400 = 0))) := by
  unfold k_leap; simp
theorem k_db_S {y : Nat} (hy : 1 ≤ y) : k_db (y + 1) = k_db y + 365 + (if k_leap y = true then 1 else 0) := by
  obtain ⟨z, rfl⟩ : ∃ z, y = z + 1 := ⟨y - 1, by omega⟩
  unfold k_db
  simp only [Nat.add_sub_cancel]
  by_cases hl : k_leap (z + 1) = true
  · rw [if_pos hl]; rw [k_lp] at hl; omega
  · rw [if_neg hl]; rw [k_lp] at hl; omega
theorem k_db_mono {a b : Nat} (ha : 1 ≤ a) (h : a ≤ b) : k_db a ≤ k_db b := by
  obtain ⟨d, rfl⟩ : ∃ d, b = a + d := ⟨b - a, by omega⟩
  clear h
  induction d with
  | zero => exact Nat.le_refl _
  | succ d ih => have := k_db_S (y := a + d) (by omega); rw [← Nat.add_assoc, this]; omega
theorem q_do2 (c : Bool) (y : Nat) : q_do c y 2 = 28 + (if k_leap y = true then 1 else 0) + (if c = false ∧ y = 1900 then 1 else 0) := by
  unfold q_do
  rw [if_pos rfl]
  by_cases h1 : k_leap y = true
  · have h2 : ¬ (c = false ∧ y = 1900) := fun z => by rw [z.2] at h1; exact absurd h1 (by decide)
    rw [if_pos (Or.inl h1), if_pos h1, if_neg h2]
  · by_cases h2 : c = false ∧ y = 1900
    · rw [if_pos (Or.inr h2), if_neg h1, if_pos h2]
    · rw [if_neg (fun z => z.elim h1 h2), if_neg h1, if_neg h2]
theorem q_do_le (c : Bool) (y m : Nat) : 28 ≤ q_do c y m ∧ q_do c y m ≤ 31 := by
  unfold q_do; repeat' split
  all_goals omega
theorem q_S_S {c : Bool} {y : Nat} (hy : q_fy c ≤ y) : q_S c (y + 1) = q_S c y + q_dy c y := by
  have hm := k_db_mono (a := q_fy c) (b := y) (by cases c <;> decide) hy
  have hs := k_db_S (y := y) (by cases c <;> simp only [q_fy, cond] at hy <;> omega)
  have e1 : (if c = false ∧ 1900 < y + 1 then 1 else 0) = (if c = false ∧ 1900 < y then 1 else 0) + (if c = false ∧ y = 1900 then 1 else 0) := by
    cases c with
    | true => rw [if_neg (fun z => absurd z.1 (by decide)), if_neg (fun z => absurd z.1 (by decide)), if_neg (fun z => absurd z.1 (by decide))]
    | false =>
      have hy : 1900 ≤ y := hy
      have a1 : false = false ∧ 1900 < y + 1 := ⟨rfl, by omega⟩
      rw [if_pos a1]
      by_cases h1 : y = 1900
      · have a2 : ¬ (false = false ∧ 1900 < y) := fun z => by have := z.2; omega
        rw [if_neg a2, if_pos ⟨rfl, h1⟩]
      · have a2 : false = false ∧ 1900 < y := ⟨rfl, by omega⟩
        rw [if_pos a2, if_neg (fun z => h1 z.2)]
  unfold q_S q_dy
  rw [hs, q_do2, e1]
  generalize k_db y = A at *
  generalize k_db (q_fy c) = B at *
  omega
theorem q_S_mono {c : Bool} {a b : Nat} (ha : q_fy c ≤ a) (h : a ≤ b) : q_S c a ≤ q_S c b := by
  obtain ⟨d, rfl⟩ : ∃ d, b = a + d := ⟨b - a, by omega⟩
  clear h
  induction d with
  | zero => exact Nat.le_refl _
  | succ d ih => rw [← Nat.add_assoc, q_S_S (by omega)]; omega
theorem q_S_hi (c : Bool) : k_lo c + q_S c 10000 = k_hi c + 1 := by cases c <;> decide
theorem q_S_fy (c : Bool) : q_S c (q_fy c) = 0 := by cases c <;> decide
theorem q_do_ml {c : Bool} {y m : Nat} (h1 : 1 ≤ m) (h2 : m ≤ 12) : q_do c y m = k_ml y m + (if c = false ∧ y = 1900 ∧ m = 2 then 1 else 0) := by
  by_cases e : m = 2
  · subst e
    rw [q_do2]
    unfold k_ml k_mm
    by_cases hl : k_leap y = true <;> simp [hl]
  · rw [if_neg (fun z => e z.2.2)]
    unfold q_do k_ml
    rw [if_neg e]
    have e2 : ¬ (m = 2 ∧ k_leap y = true) := fun z => e z.1
    rw [if_neg e2]
    have : m = 1 ∨ m = 3 ∨ m = 4 ∨ m = 5 ∨ m = 6 ∨ m = 7 ∨ m = 8 ∨ m = 9 ∨ m = 10 ∨ m = 11 ∨ m = 12 := by omega
    rcases this with e | e | e | e | e | e | e | e | e | e | e <;> subst e <;> simp [k_mm]
theorem q_cum_ml {c : Bool} {y : Nat} : ∀ m, m ≤ 13 → q_cum c y m = k_cum y m + (if c = false ∧ y = 1900 ∧ 3 ≤ m then 1 else 0) := by
  intro m
  induction m with
  | zero => intro _; simp [q_cum, k_cum]
  | succ m ih =>
    intro hm
    rw [q_cum, k_cum, ih (by omega)]
    by_cases h0 : m = 0
    · subst h0; simp [k_ml, k_mm]
    · rw [if_neg h0, q_do_ml (by omega) (by omega)]
      by_cases h1 : c = false ∧ y = 1900
      · rw [h1.1, h1.2]; simp
        by_cases h2 : m = 2
        · subst h2; simp; omega
        · simp [h2]; by_cases h3 : 3 ≤ m
          · rw [if_pos h3, if_pos (by omega)]; omega
          · rw [if_neg h3, if_neg (by omega)]; omega
      · have h2 : ¬ (c = false ∧ y = 1900 ∧ 3 ≤ m) := fun z => h1 ⟨z.1, z.2.1⟩
        have h3 : ¬ (c = false ∧ y = 1900 ∧ m = 2) := fun z => h1 ⟨z.1, z.2.1⟩
        have h4 : ¬ (c = false ∧ y = 1900 ∧ 3 ≤ m + 1) := fun z => h1 ⟨z.1, z.2.1⟩
        rw [if_neg h2, if_neg h3, if_neg h4]; omega
theorem q_cum_13 (c : Bool) (y : Nat) : q_cum c y 13 = q_dy c y := by
  unfold q_dy
  simp only [q_cum]
  generalize e2 : q_do c y 2 = f
  simp [q_do]; omega
theorem q_cum_mono {c : Bool} {y a b : Nat} (h : a ≤ b) : q_cum c y a ≤ q_cum c y b := by
  obtain ⟨d, rfl⟩ : ∃ d, b = a + d := ⟨b - a, by omega⟩
  clear h
  induction d with
  | zero => exact Nat.le_refl _
  | succ d ih => rw [← Nat.add_assoc, q_cum]; omega
theorem q_cum_S {c : Bool} {y m : Nat} (h : 1 ≤ m) : q_cum c y (m + 1) = q_cum c y m + q_do c y m := by rw [q_cum, if_neg (by omega)]
theorem k_cum12 (y : Nat) : k_cum y 12 = 334 + (if k_leap y = true then 1 else 0) := by
  simp only [k_cum]
  by_cases hl : k_leap y = true <;> simp [k_ml, k_mm, hl]
theorem k_D_ml {n y m dd : Nat} (h : k_D n y m dd) : dd ≤ k_ml y m := by
  obtain ⟨h1, h2, h3, h4, h5, h6, h7, h8, h9⟩ := h
  rcases h9 with e | e
  · subst e
    have := k_cum12 y
    have h10 := k_db_S (y := y) (by omega)
    have : k_ml y 12 = 31 := by simp [k_ml, k_mm]
    split at h10 <;> simp_all <;> omega
  · exact e
set_option maxRecDepth 100000 in
theorem k_day_q {c : Bool} {s y m dd : Nat} (hlo : k_lo c ≤ s) (h : k_day c s y m dd) : q_day c s y m dd := by
  unfold k_day at h
  cases c with
  | true =>
    rw [if_pos rfl] at h
    have hml := k_D_ml h
    obtain ⟨h1, h2, h3, h4, h5, h6, h7, h8, h9⟩ := h
    have hy : 1904 ≤ y := by
      apply Nat.not_lt.mp; intro hy
      have := k_db_mono (a := y + 1) (b := 1904) (by omega) (by omega); omega
    have hm := k_db_mono (a := 1904) (b := y) (by omega) hy
    refine ⟨hy, h2, h3, h4, h5, ?_, ?_⟩
    · rw [q_do_ml h3 h4]; omega
    · rw [q_cum_ml m (by omega)]; unfold q_S; simp [k_lo, q_fy]; omega
  | false =>
    rw [if_neg (by decide)] at h
    have hlo : 1 ≤ s := hlo
    by_cases h60 : s = 60
    · rw [if_pos h60] at h
      obtain ⟨rfl, rfl, rfl⟩ := h
      subst h60
      unfold q_day; decide
    · rw [if_neg h60] at h
      have hml := k_D_ml h
      obtain ⟨h1, h2, h3, h4, h5, h6, h7, h8, h9⟩ := h
      have hm := k_db_mono (a := 1900) (b := y) (by omega) h1
      refine ⟨h1, h2, h3, h4, h5, by rw [q_do_ml h3 h4]; omega, ?_⟩
      rw [q_cum_ml m (by omega)]
      unfold q_S
      show s + 1 = 1 + (k_db y - k_db 1900 + (if false = false ∧ 1900 < y then 1 else 0)) + (k_cum y m + (if false = false ∧ y = 1900 ∧ 3 ≤ m then 1 else 0)) + dd
      by_cases hy : y = 1900
      · subst hy
        have hc3 : k_cum 1900 1 = 0 ∧ k_cum 1900 2 = 31 ∧ k_cum 1900 3 = 59 ∧ k_ml 1900 1 = 31 ∧ k_ml 1900 2 = 28 := by decide
        by_cases hm3 : 3 ≤ m
        · have : k_cum 1900 3 ≤ k_cum 1900 m := by
            have := q_cum_mono (c := true) (y := 1900) hm3
            rw [q_cum_ml _ (by omega), q_cum_ml _ (by omega)] at this
            simpa using this
          rw [if_neg (by omega), if_pos ⟨rfl, rfl, hm3⟩]
          split at h8 <;> omega
        · have : m = 1 ∨ m = 2 := by omega
          rw [if_neg (by omega), if_neg (by omega)]
          rcases this with e | e <;> subst e <;> split at h8 <;> omega
      · have h59 : k_db 1901 = k_db 1900 + 365 := by decide
        have := k_db_mono (a := 1901) (b := y) (by omega) (by omega)
        rw [if_pos ⟨rfl, by omega⟩, if_neg (fun z => hy z.2.1)]
        split at h8 <;> omega
