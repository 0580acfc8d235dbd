/-! COUNTS AND PLACES of two lists of tokens, one a refinement of the other -/
theorem cf_cnt_add (p : Nat → Bool) : ∀ m n a, cf_cnt p a (m + n) = cf_cnt p a m + cf_cnt p (a + m) n := by
  intro m
  induction m with
  | zero => intro n a; simp [cf_cnt]
  | succ m ih => intro n a; rw [show m + 1 + n = (m + n) + 1 by omega, cf_cnt, cf_cnt, ih, show a + 1 + m = a + (m + 1) by omega]; omega
theorem cf_cnt_0 {p : Nat → Bool} : ∀ n a, cf_cnt p a n = 0 ↔ ∀ j, a ≤ j → j < a + n → p j = false := by
  intro n
  induction n with
  | zero => intro a; exact ⟨fun _ j h1 h2 => by omega, fun _ => rfl⟩
  | succ n ih =>
    intro a
    rw [cf_cnt]
    constructor
    · intro h j h1 h2
      have h3 : cf_cnt p (a + 1) n = 0 := by omega
      by_cases e : j = a
      · cases hp : p j with
        | false => rfl
        | true => rw [e] at hp; rw [hp] at h; simp at h
      · exact (ih (a + 1)).mp h3 j (by omega) (by omega)
    · intro h
      rw [h a (by omega) (by omega), (ih (a + 1)).mpr (fun j h1 h2 => h j (by omega) (by omega))]; rfl
theorem r_ct_sp {ty : Nat → Int32} {w : Int32} {i j k : Nat} (h1 : i ≤ j) (h2 : j ≤ k) : r_ct ty w i k = r_ct ty w i j + r_ct ty w j k := by
  unfold r_ct
  rw [show k - i = (j - i) + (k - j) by omega, cf_cnt_add, show i + (j - i) = j by omega]
theorem r_ct_S {ty : Nat → Int32} {w : Int32} {i j : Nat} (h : i < j) : r_ct ty w i j = (if ty i = w then 1 else 0) + r_ct ty w (i + 1) j := by
  unfold r_ct
  rw [show j - i = (j - (i + 1)) + 1 by omega, cf_cnt]
  by_cases e : ty i = w <;> simp [e]
theorem r_ct_n (ty : Nat → Int32) (w : Int32) (i : Nat) : r_ct ty w i i = 0 := by unfold r_ct; rw [Nat.sub_self]; rfl
theorem r_ct_0 {ty : Nat → Int32} {w : Int32} {i j : Nat} : r_ct ty w i j = 0 ↔ ∀ k, i ≤ k → k < j → ¬ ty k = w := by
  unfold r_ct
  rw [cf_cnt_0]
  constructor
  · intro h k h1 h2; exact of_decide_eq_false (h k h1 (by omega))
  · intro h k h1 h2; exact decide_eq_false (h k h1 (by omega))
theorem r_fd_n (ty : Nat → Int32) (w : Int32) (i : Nat) : r_fd ty w i i = i := by unfold r_fd; rw [Nat.sub_self]; rfl
theorem r_fd_S {ty : Nat → Int32} {w : Int32} {i j : Nat} (h : i < j) : r_fd ty w i j = if ty i = w then i else r_fd ty w (i + 1) j := by
  unfold r_fd
  rw [show j - i = (j - (i + 1)) + 1 by omega, cf_fst]
  by_cases e : ty i = w <;> simp [e]
theorem r_fd_sp {ty : Nat → Int32} {w : Int32} {a b : Nat} (h : a ≤ b) : (∀ j, a ≤ j → j < r_fd ty w a b → ¬ ty j = w) ∧ (r_fd ty w a b < b → ty (r_fd ty w a b) = w) := by
  obtain ⟨h1, h2, h3, h4⟩ := cf_fst_sp (p := fun j => decide (ty j = w)) (b - a) a
  exact ⟨fun j g1 g2 => of_decide_eq_false (h1 j g1 g2), fun g => of_decide_eq_true (h2 (by unfold r_fd at g; omega))⟩
theorem r_fd_skip {ty : Nat → Int32} {w : Int32} {b : Nat} : ∀ n i j, i + n = j → j ≤ b → (∀ k, i ≤ k → k < j → ¬ ty k = w) → r_fd ty w i b = r_fd ty w j b := by
  intro n
  induction n with
  | zero => intro i j e _ _; rw [← e]; rfl
  | succ n ih =>
    intro i j e hj h
    rw [r_fd_S (by omega), if_neg (h i (by omega) (by omega))]
    exact ih (i + 1) j (by omega) hj (fun k h1 h2 => h k (by omega) h2)
/-- the first place in a shorter reach -/
theorem r_fd_cut {ty : Nat → Int32} {w : Int32} {a m b : Nat} (h1 : a ≤ m) (h2 : m ≤ b) : r_fd ty w a m = if r_fd ty w a b < m then r_fd ty w a b else m := by
  have s1 := r_fd_sp (ty := ty) (w := w) h1
  have s2 := r_fd_sp (ty := ty) (w := w) (Nat.le_trans h1 h2)
  have l1 := r_fd_le (ty := ty) (w := w) h1
  have l2 := r_fd_le (ty := ty) (w := w) (Nat.le_trans h1 h2)
  have g1 := r_fd_ge ty w a m
  have g2 := r_fd_ge ty w a b
  split
  · rename_i h
    rcases Nat.lt_trichotomy (r_fd ty w a m) (r_fd ty w a b) with q | q | q
    · exact absurd (s1.2 (by omega)) (s2.1 _ g1 q)
    · exact q
    · exact absurd (s2.2 (by omega)) (s1.1 _ g2 q)
  · rename_i h
    apply Nat.le_antisymm l1
    apply Nat.not_lt.mp; intro q
    exact absurd (s1.2 q) (s2.1 _ g1 (by omega))
theorem n_pt_ie {ty : Nat → Int32} {a b : Nat} (h : a ≤ b) : n_pt ty a b = r_ie ty a b := by
  unfold n_pt n_ex r_ie
  rw [r_fd_cut (b := b) (r_fd_ge ty 6 a b) (r_fd_le h)]
  by_cases q : r_fd ty 6 a b ≤ r_fd ty 3 a b
  · rw [if_pos q, if_neg (by omega)]
  · rw [if_neg q, if_pos (by omega)]
/-! commas of a section -/
theorem r_bk_all {ty : Nat → Int32} {a L : Nat} (h2 : ty L = 2) (ha : a ≤ L) : ∀ n, (∀ j, L < j → j ≤ L + n → ty j = 4) → r_bk ty a (L + n) = L := by
  intro n
  induction n with
  | zero =>
    intro _
    cases L with
    | zero => rfl
    | succ L => rw [Nat.add_zero, r_bk, if_neg (fun z => by rw [h2] at z; exact absurd z.2 (by decide))]
  | succ n ih =>
    intro h
    rw [show L + (n + 1) = (L + n) + 1 by omega, r_bk, if_pos ⟨by omega, h _ (by omega) (by omega)⟩]
    exact ih (fun j g1 g2 => h j g1 (by omega))
theorem r_bk_ge2 {ty : Nat → Int32} {a j : Nat} (hj : ¬ ty j = 4) : ∀ n, j ≤ r_bk ty a (j + n) := by
  intro n
  induction n with
  | zero =>
    rw [Nat.add_zero]
    cases j with
    | zero => exact Nat.zero_le _
    | succ j => rw [r_bk, if_neg (fun z => hj z.2)]; exact Nat.le_refl _
  | succ n ih =>
    rw [show j + (n + 1) = (j + n) + 1 by omega, r_bk]
    split
    · exact ih
    · omega
theorem cf_lst_sp {p : Nat → Bool} {a : Nat} : ∀ n, (∀ j, cf_lst p a n ≤ j → j < a + n → p j = false) ∧ (a < cf_lst p a n → p (cf_lst p a n - 1) = true) := by
  intro n
  induction n with
  | zero => exact ⟨fun j h1 h2 => by simp only [cf_lst] at h1; omega, fun h => by simp only [cf_lst] at h; omega⟩
  | succ n ih =>
    rw [cf_lst]
    cases e : p (a + n) with
    | true => simp only [cond]; exact ⟨fun j h1 h2 => by omega, fun _ => by rw [Nat.add_sub_cancel]; exact e⟩
    | false =>
      simp only [cond]
      refine ⟨fun j h1 h2 => ?_, ih.2⟩
      by_cases q : j = a + n
      · rw [q]; exact e
      · exact ih.1 j h1 (by omega)
theorem cms_no {ty : Nat → Int32} {fp L : Nat} : ∀ n i g sc, c_cms ty false fp L i n g sc = if r_ct ty 4 i (i + n) = 0 then some (g, sc) else none := by
  intro n
  induction n with
  | zero => intro i g sc; rw [Nat.add_zero, r_ct_n]; rfl
  | succ n ih =>
    intro i g sc
    rw [c_cms, r_ct_S (by omega)]
    by_cases e : ty i = 4
    · rw [if_pos e, if_pos e]; simp
    · rw [if_neg e, if_neg e, ih, Nat.zero_add, show i + (n + 1) = i + 1 + n by omega]
def r_ag2 (ty : Nat → Int32) (a b : Nat) (k : Nat) : Bool := decide (ty k = 4) && r_gr ty a b k
theorem cms_yes {ty : Nat → Int32} {a b pt fp L : Nat} (hab : a ≤ b) (hpt : pt = r_ie ty a b) (hfp : fp = r_fd ty 2 a pt) (hL : L = cf_lst (fun j => decide (ty j = 2)) a (pt - a)) (hip : ¬ r_ct ty 2 a pt = 0) : ∀ n i g sc, i + n = b → a ≤ i → (i ≤ L → sc = 0) → (L ≤ i → L + sc ≤ i ∧ (∀ j, L ≤ j → j < L + sc → ty j = 4) ∧ (L + sc < i → ¬ ty (L + sc) = 4)) → c_cms ty true fp L i n g sc = if r_cm ty a b i n = true then some (g || x_any (r_ag2 ty a b) i n, sc + r_sk ty a b i n) else none := by
  have hpa : a ≤ pt := by rw [hpt]; exact r_ie_ge ty a b
  have hpb : pt ≤ b := by rw [hpt]; exact r_ie_le hab
  have hf1 := r_fd_sp (ty := ty) (w := 2) hpa
  have hf2 := r_fd_ge ty 2 a pt
  have hf3 := r_fd_le (ty := ty) (w := 2) hpa
  rw [← hfp] at hf1 hf2 hf3
  have hl1 := cf_lst_ge (fun j => decide (ty j = 2)) a (pt - a)
  have hl2 := cf_lst_sp (p := fun j => decide (ty j = 2)) (a := a) (pt - a)
  rw [← hL] at hl1 hl2
  have hno : ∀ j, L ≤ j → j < pt → ¬ ty j = 2 := fun j h1 h2 => of_decide_eq_false (hl2.1 j h1 (by omega))
  have hLa : a < L := by
    apply Nat.not_le.mp; intro q
    exact hip (r_ct_0.mpr (fun k h1 h2 => hno k (by omega) h2))
  have hL2 : ty (L - 1) = 2 := of_decide_eq_true (hl2.2 hLa)
  have hfpt : fp < pt := by
    apply Nat.not_le.mp; intro q
    exact hip (r_ct_0.mpr (fun k h1 h2 => hf1.1 k h1 (by omega)))
  have hfp2 : ty fp = 2 := hf1.2 hfpt
  have hfL : fp < L := by
    apply Nat.not_le.mp; intro q
    exact hno fp q hfpt hfp2
  have hptc : pt < b → ¬ ty pt = 4 := by
    intro q z
    rw [hpt] at q z
    unfold r_ie at q z
    split at q
    · rename_i h1
      rw [if_pos h1, (r_fd_sp (ty := ty) (w := 6) hab).2 q] at z; exact absurd z (by decide)
    · rename_i h1
      rw [if_neg h1, (r_fd_sp (ty := ty) (w := 3) hab).2 q] at z; exact absurd z (by decide)
  -- what groups and scales mean
  have hgr : ∀ k, a ≤ k → ty k = 4 → (r_gr ty a b k = true ↔ fp < k ∧ k + 1 < L) := by
    intro k hk h4
    unfold r_gr
    rw [← hpt]
    simp only [Bool.and_eq_true, Bool.not_eq_true', decide_eq_false_iff_not]
    constructor
    · intro ⟨⟨z1, z2⟩, z3⟩
      have y1 : fp < k := by
        apply Nat.not_le.mp; intro q
        exact z1 (r_ct_0.mpr (fun j g1 g2 => hf1.1 j g1 (by omega)))
      have y2 : k < L := by
        apply Nat.not_le.mp; intro q
        exact z3 (r_ct_0.mpr (fun j g1 g2 => hno j (by omega) g2))
      have y3 : k ≠ L - 1 := fun q => by rw [q, hL2] at h4; exact absurd h4 (by decide)
      exact ⟨y1, by omega⟩
    · intro ⟨y1, y2⟩
      refine ⟨⟨fun z => ?_, by omega⟩, fun z => ?_⟩
      · exact r_ct_0.mp z fp hf2 y1 hfp2
      · exact r_ct_0.mp z (L - 1) (by omega) (by omega) hL2
  have hsc : ∀ k, a ≤ k → k < b → ty k = 4 → (r_scl ty a b k = true ↔ L ≤ k ∧ ∀ j, L ≤ j → j ≤ k → ty j = 4) := by
    intro k hk hkb h4
    unfold r_scl
    rw [← hpt]
    simp only [Bool.and_eq_true, Bool.not_eq_true', decide_eq_false_iff_not, decide_eq_true_eq]
    constructor
    · intro ⟨⟨⟨z1, z2⟩, z3⟩, z4⟩
      have y2 : L ≤ k := by
        apply Nat.not_lt.mp; intro q
        have y3 : k ≠ L - 1 := fun q => by rw [q, hL2] at h4; exact absurd h4 (by decide)
        exact r_ct_0.mp z4 (L - 1) (by omega) (by omega) hL2
      refine ⟨y2, fun j g1 g2 => ?_⟩
      apply Classical.byContradiction; intro q
      have h1 := r_bk_ge2 (ty := ty) (a := a) q (k - j)
      rw [show j + (k - j) = k by omega] at h1
      have h2 := r_bk_le ty a k
      exact hno _ (by omega) (by omega) z3
    · intro ⟨y1, y2⟩
      have hkp : k < pt := by
        apply Nat.not_le.mp; intro q
        exact hptc (by omega) (y2 pt (by omega) q)
      refine ⟨⟨⟨by omega, fun z => ?_⟩, ?_⟩, ?_⟩
      · exact r_ct_0.mp z (L - 1) (by omega) (by omega) hL2
      · have := r_bk_all (ty := ty) (a := a) (L := L - 1) hL2 (by omega) (k - (L - 1)) (fun j g1 g2 => y2 j (by omega) (by omega))
        rw [show L - 1 + (k - (L - 1)) = k by omega] at this
        rw [this]; exact hL2
      · exact r_ct_0.mpr (fun j g1 g2 => hno j (by omega) g2)
  intro n
  induction n with
  | zero => intro i g sc _ _ _ _; rw [c_cms, r_cm, if_pos rfl, show x_any (r_ag2 ty a b) i 0 = false from rfl, Bool.or_false, show r_sk ty a b i 0 = 0 from rfl]; rfl
  | succ n ih =>
    intro i g sc hi ha h1 h2
    rw [c_cms, r_cm, x_any_S, show r_sk ty a b i (n + 1) = (bif (decide (ty i = 4) && r_scl ty a b i) then 1 else 0) + r_sk ty a b (i + 1) n from rfl]
    by_cases e : ty i = 4
    · rw [if_pos e]
      have d4 : decide (ty i = 4) = true := decide_eq_true e
      rw [show r_ag2 ty a b i = r_gr ty a b i from by rw [r_ag2, d4, Bool.true_and]]
      simp only [d4, Bool.true_and, cond_true]
      by_cases c1 : fp < i ∧ i + 1 < L
      · rw [if_pos c1]
        have g1 := (hgr i ha e).mpr c1
        have g2 : r_scl ty a b i = false := by
          cases q : r_scl ty a b i with
          | false => rfl
          | true => have := ((hsc i ha (by omega) e).mp q).1; omega
        rw [g1, g2, ih (i + 1) true sc (by omega) (by omega) (fun _ => h1 (by omega)) (fun q => by omega)]
        simp
      · rw [if_neg c1]
        have g1 : r_gr ty a b i = false := by
          cases q : r_gr ty a b i with
          | false => rfl
          | true => exact absurd ((hgr i ha e).mp q) c1
        by_cases c2 : i = L + sc
        · rw [if_pos c2]
          have hall : ∀ j, L ≤ j → j ≤ i → ty j = 4 := by
            intro j q1 q2
            by_cases q3 : j = i
            · rw [q3]; exact e
            · exact (h2 (by omega)).2.1 j q1 (by omega)
          have g2 := (hsc i ha (by omega) e).mpr ⟨by omega, hall⟩
          rw [g1, g2, ih (i + 1) g (sc + 1) (by omega) (by omega) (fun q => by omega) (fun q => ⟨by omega, fun j q1 q2 => hall j q1 (by omega), fun q1 => by omega⟩)]
          simp only [Bool.not_true, Bool.not_false, Bool.and_false, cond_false, cond_true, Bool.false_or]
          rw [show sc + 1 + r_sk ty a b (i + 1) n = sc + (1 + r_sk ty a b (i + 1) n) by omega]
        · rw [if_neg c2]
          have g2 : r_scl ty a b i = false := by
            cases q : r_scl ty a b i with
            | false => rfl
            | true =>
              obtain ⟨q1, q2⟩ := (hsc i ha (by omega) e).mp q
              obtain ⟨p1, p2, p3⟩ := h2 q1
              exact absurd (q2 (L + sc) (by omega) (by omega)) (p3 (by omega))
          rw [g1, g2]; simp
    · rw [if_neg e]
      have d4 : decide (ty i = 4) = false := decide_eq_false e
      rw [show r_ag2 ty a b i = false from by rw [r_ag2, d4, Bool.false_and]]
      simp only [d4, Bool.false_and, cond_false, Bool.false_or, Nat.zero_add]
      refine ih (i + 1) g sc (by omega) (by omega) (fun q => h1 (by omega)) (fun q => ?_)
      by_cases q2 : L ≤ i
      · obtain ⟨p1, p2, p3⟩ := h2 q2
        refine ⟨by omega, p2, fun q3 => ?_⟩
        by_cases q4 : L + sc = i
        · rw [q4]; exact e
        · exact p3 (by omega)
      · have s0 := h1 (by omega)
        have hiL : i = L - 1 := by omega
        refine ⟨by omega, fun j q3 q4 => by omega, fun q3 => by omega⟩
