/-! WELL MADE: the class's read and the reference's rules -/
theorem r_fd_ct {ty : Nat → Int32} {w : Int32} {a b : Nat} (h : a ≤ b) : r_fd ty w a b = b ↔ r_ct ty w a b = 0 := by
  have h1 := r_fd_sp (ty := ty) (w := w) h
  have h2 := r_fd_le (ty := ty) (w := w) h
  have h3 := r_fd_ge ty w a b
  constructor
  · intro e; rw [e] at h1; exact r_ct_0.mpr h1.1
  · intro e
    apply Classical.byContradiction; intro q
    exact r_ct_0.mp e _ h3 (by omega) (h1.2 (by omega))
theorem cmz_none {ty : Nat → Int32} {a b : Nat} : ∀ n i, r_ct ty 4 i (i + n) = 0 → r_cm ty a b i n = true ∧ x_any (r_ag2 ty a b) i n = false ∧ r_sk ty a b i n = 0 := by
  intro n
  induction n with
  | zero => intro i _; exact ⟨rfl, rfl, rfl⟩
  | succ n ih =>
    intro i h
    rw [r_ct_S (by omega)] at h
    have e : ¬ ty i = 4 := fun z => by rw [if_pos z] at h; omega
    obtain ⟨h1, h2, h3⟩ := ih (i + 1) (by rw [show i + 1 + n = i + (n + 1) by omega]; omega)
    rw [r_cm, x_any_S, h2, show r_sk ty a b i (n + 1) = (bif (decide (ty i = 4) && r_scl ty a b i) then 1 else 0) + r_sk ty a b (i + 1) n from rfl, h3, h1, r_ag2, decide_eq_false e]
    exact ⟨rfl, rfl, rfl⟩
theorem cmz_ip0 {ty : Nat → Int32} {a b : Nat} (hip : r_ct ty 2 a (r_ie ty a b) = 0) : ∀ n i, a ≤ i → r_cm ty a b i n = decide (r_ct ty 4 i (i + n) = 0) := by
  intro n
  induction n with
  | zero => intro i _; rw [Nat.add_zero, r_ct_n]; rfl
  | succ n ih =>
    intro i ha
    have g1 : r_gr ty a b i = false := by
      unfold r_gr
      by_cases q : r_ie ty a b ≤ i
      · rw [decide_eq_true q]; simp
      · rw [decide_eq_true (r_ct_0.mpr (fun k h1 h2 => r_ct_0.mp hip k h1 (by omega)) : r_ct ty 2 a i = 0)]; rfl
    have g2 : r_scl ty a b i = false := by
      unfold r_scl
      by_cases q : r_ie ty a b ≤ i
      · rw [decide_eq_true q]; simp
      · rw [decide_eq_true (r_ct_0.mpr (fun k h1 h2 => r_ct_0.mp hip k h1 (by omega)) : r_ct ty 2 a i = 0)]; simp
    rw [r_cm, g1, g2, ih (i + 1) (by omega), r_ct_S (w := 4) (i := i) (j := i + (n + 1)) (by omega), show i + (n + 1) = i + 1 + n by omega]
    by_cases e : ty i = 4
    · rw [decide_eq_true e, if_pos e]
      symm
      show decide _ = false
      exact decide_eq_false (by omega)
    · rw [decide_eq_false e, if_neg e, Nat.zero_add]; rfl
def r_w3 (ty : Nat → Int32) (a b : Nat) : Bool :=
  if 1 < nI (r_ct ty 3 a b) ∨ 1 < nI (r_ct ty 6 a b) ∨ ¬ nI (r_ct ty 5 a b) ≤ 2 then false
  else if nI (r_ct ty 6 a b) = 1 ∧ ((nI (r_ct ty 3 a b) = 1 ∧ nI (r_fd ty 6 a b) < nI (r_fd ty 3 a b)) ∨ nI (r_ct ty 2 (r_fd ty 6 a b) b) = 0 ∨ 0 < nI (r_ct ty 4 a b) ∨ nI (r_ct ty 2 a (r_ie ty a b)) = 0) then false
  else r_cm ty a b a (b - a)
theorem c_num_eq {ty : Nat → Int32} {a b : Nat} (hab : a ≤ b) (hb : b ≤ 40) : c_num ty a b = if r_w3 ty a b = true then some (x_any (r_ag2 ty a b) a (b - a), r_sk ty a b a (b - a)) else none := by
  have l3 := r_ct_le ty 3 a b
  have l6 := r_ct_le ty 6 a b
  have l5 := r_ct_le ty 5 a b
  have l4 := r_ct_le ty 4 a b
  have x1 := r_fd_ge ty 6 a b
  have x2 := r_fd_le (ty := ty) (w := 6) hab
  have x3 := r_fd_ge ty 3 a b
  have x4 := r_fd_le (ty := ty) (w := 3) hab
  have i1 := r_ie_ge ty a b
  have i2 := r_ie_le (ty := ty) hab
  have l7 := r_ct_le ty 2 (r_fd ty 6 a b) b
  have l8 := r_ct_le ty 2 a (r_ie ty a b)
  have hpt := n_pt_ie (ty := ty) hab
  have hx6 := r_fd_ct (ty := ty) (w := 6) hab
  have hx3 := r_fd_ct (ty := ty) (w := 3) hab
  have ht6 := (r_fd_sp (ty := ty) (w := 6) hab).2
  have ht3 := (r_fd_sp (ty := ty) (w := 3) hab).2
  have q1 : (1 < nI (r_ct ty 3 a b) ∨ 1 < nI (r_ct ty 6 a b) ∨ ¬ nI (r_ct ty 5 a b) ≤ 2) ↔ (1 < r_ct ty 3 a b ∨ 1 < r_ct ty 6 a b ∨ 2 < r_ct ty 5 a b) := by
    rw [show (1 : Int32) < nI (r_ct ty 3 a b) ↔ 1 < r_ct ty 3 a b from nI_ltI (a := 1) (by decide) (by omega), show (1 : Int32) < nI (r_ct ty 6 a b) ↔ 1 < r_ct ty 6 a b from nI_ltI (a := 1) (by decide) (by omega), show nI (r_ct ty 5 a b) ≤ 2 ↔ r_ct ty 5 a b ≤ 2 from nI_leI (b := 2) (by omega) (by decide)]
    omega
  have q2 : (nI (r_ct ty 6 a b) = 1 ∧ ((nI (r_ct ty 3 a b) = 1 ∧ nI (r_fd ty 6 a b) < nI (r_fd ty 3 a b)) ∨ nI (r_ct ty 2 (r_fd ty 6 a b) b) = 0 ∨ 0 < nI (r_ct ty 4 a b) ∨ nI (r_ct ty 2 a (r_ie ty a b)) = 0)) ↔ (r_ct ty 6 a b = 1 ∧ ((r_ct ty 3 a b = 1 ∧ r_fd ty 6 a b < r_fd ty 3 a b) ∨ r_ct ty 2 (r_fd ty 6 a b) b = 0 ∨ 0 < r_ct ty 4 a b ∨ r_ct ty 2 a (r_ie ty a b) = 0)) := by
    rw [show nI (r_ct ty 6 a b) = 1 ↔ r_ct ty 6 a b = 1 from nI_eq (b := 1) (by omega) (by decide), show nI (r_ct ty 3 a b) = 1 ↔ r_ct ty 3 a b = 1 from nI_eq (b := 1) (by omega) (by decide), nI_ltI (by omega) (by omega), z_eq (by omega), show (0 : Int32) < nI (r_ct ty 4 a b) ↔ 0 < r_ct ty 4 a b from nI_ltI (a := 0) (by decide) (by omega), z_eq (by omega)]
  have hne : r_fd ty 6 a b < b → r_fd ty 3 a b < b → r_fd ty 6 a b ≠ r_fd ty 3 a b := fun z1 z2 z3 => by
    have e1 := ht6 z1
    have e2 := ht3 z2
    rw [z3, e2] at e1; exact absurd e1 (by decide)
  unfold c_num r_w3
  by_cases c1 : 1 < r_ct ty 3 a b ∨ 1 < r_ct ty 6 a b ∨ 2 < r_ct ty 5 a b
  · rw [if_pos c1, if_pos (q1.mpr c1)]; rfl
  · rw [if_neg c1, if_neg (fun z => c1 (q1.mp z))]
    have hie : r_ie ty a b = if r_fd ty 6 a b ≤ r_fd ty 3 a b then r_fd ty 6 a b else r_fd ty 3 a b := rfl
    by_cases c6 : r_ct ty 6 a b = 1
    · have hxb : r_fd ty 6 a b < b := by
        apply Nat.lt_of_le_of_ne x2; intro z; rw [hx6] at z; omega
      by_cases c2 : r_ct ty 3 a b = 1 ∧ n_pt ty a b = n_ex ty a b
      · have h3b : r_fd ty 3 a b < b := by
          apply Nat.lt_of_le_of_ne x4; intro z; rw [hx3] at z; omega
        have hlt : r_fd ty 6 a b < r_fd ty 3 a b := by
          have z := c2.2
          rw [hpt, hie, n_ex] at z
          have := hne hxb h3b
          split at z <;> omega
        rw [if_pos c2, if_pos (q2.mpr ⟨c6, Or.inl ⟨c2.1, hlt⟩⟩)]; rfl
      · rw [if_neg c2]
        have nlt : ¬ (r_ct ty 3 a b = 1 ∧ r_fd ty 6 a b < r_fd ty 3 a b) := fun z => c2 ⟨z.1, by rw [hpt, hie, if_pos (by omega)]; rfl⟩
        by_cases c3 : n_ip ty a b = 0 ∨ n_ep ty a b = 0
        · rw [if_pos ⟨hxb, c3⟩]
          have : r_ct ty 2 (r_fd ty 6 a b) b = 0 ∨ 0 < r_ct ty 4 a b ∨ r_ct ty 2 a (r_ie ty a b) = 0 := by
            rcases c3 with z | z
            · rw [n_ip, hpt] at z; exact Or.inr (Or.inr z)
            · exact Or.inl z
          rw [if_pos (q2.mpr ⟨c6, Or.inr this⟩)]; rfl
        · rw [if_neg (fun z => c3 z.2), show decide (b ≤ n_ex ty a b) = false from decide_eq_false (by show ¬ b ≤ r_fd ty 6 a b; omega), Bool.and_false, cms_no]
          rw [show a + (b - a) = b by omega]
          by_cases c4 : r_ct ty 4 a b = 0
          · have n2 : ¬ (r_ct ty 6 a b = 1 ∧ ((r_ct ty 3 a b = 1 ∧ r_fd ty 6 a b < r_fd ty 3 a b) ∨ r_ct ty 2 (r_fd ty 6 a b) b = 0 ∨ 0 < r_ct ty 4 a b ∨ r_ct ty 2 a (r_ie ty a b) = 0)) := by
              rintro ⟨_, z | z | z | z⟩
              · exact nlt z
              · exact c3 (Or.inr z)
              · omega
              · exact c3 (Or.inl (by rw [n_ip, hpt]; exact z))
            obtain ⟨e1, e2, e3⟩ := cmz_none (ty := ty) (a := a) (b := b) (b - a) a (by rw [show a + (b - a) = b by omega]; exact c4)
            rw [if_neg (fun z => n2 (q2.mp z)), if_pos c4, e1, e2, e3]; rfl
          · rw [if_neg c4, if_pos (q2.mpr ⟨c6, Or.inr (Or.inr (Or.inl (by omega)))⟩)]; rfl
    · have c60 : r_ct ty 6 a b = 0 := by omega
      have hxb : r_fd ty 6 a b = b := hx6.mpr c60
      have n1 : ¬ (r_ct ty 3 a b = 1 ∧ n_pt ty a b = n_ex ty a b) := by
        rintro ⟨z1, z2⟩
        have h3b : r_fd ty 3 a b < b := by
          apply Nat.lt_of_le_of_ne x4; intro z; rw [hx3] at z; omega
        rw [hpt, hie, n_ex, hxb, if_neg (by omega)] at z2; omega
      rw [if_neg n1, if_neg (fun z => by have := z.1; unfold n_ex at this; omega), if_neg (fun z => c6 (q2.mp z).1), show decide (b ≤ n_ex ty a b) = true from decide_eq_true (by unfold n_ex; omega), Bool.and_true]
      by_cases cip : n_ip ty a b = 0
      · rw [decide_eq_true cip, Bool.not_true, cms_no, show a + (b - a) = b by omega]
        have hip : r_ct ty 2 a (r_ie ty a b) = 0 := by rw [n_ip, hpt] at cip; exact cip
        rw [cmz_ip0 hip _ _ (Nat.le_refl a), show a + (b - a) = b by omega]
        by_cases c4 : r_ct ty 4 a b = 0
        · obtain ⟨e1, e2, e3⟩ := cmz_none (ty := ty) (a := a) (b := b) (b - a) a (by rw [show a + (b - a) = b by omega]; exact c4)
          rw [if_pos c4, decide_eq_true c4, e2, e3]; rfl
        · rw [if_neg c4, decide_eq_false c4]; rfl
      · rw [decide_eq_false cip, Bool.not_false]
        have hip : ¬ r_ct ty 2 a (n_pt ty a b) = 0 := cip
        rw [cms_yes (a := a) (b := b) (pt := n_pt ty a b) hab hpt rfl rfl hip (b - a) a false 0 (by omega) (Nat.le_refl a) (fun _ => rfl) (fun q => ⟨by omega, fun j q1 q2 => by omega, fun q1 => by
          exfalso
          have hl := cf_lst_ge (fun j => decide (ty j = 2)) a (n_pt ty a b - a); omega⟩), Bool.false_or, Nat.zero_add]
theorem fd_ct (XS : List r_K) (a m : Nat) : cf_cnt (x_fd XS) a m = 0 ↔ (r_ct (x_ty XS) 9 a (a + m) = 0 ∧ r_ct (x_ty XS) 8 a (a + m) = 0 ∧ r_ct (x_ty XS) 10 a (a + m) = 0) := by
  rw [cf_cnt_0, r_ct_0, r_ct_0, r_ct_0]
  constructor
  · intro h
    refine ⟨fun k h1 h2 z => ?_, fun k h1 h2 z => ?_, fun k h1 h2 z => ?_⟩ <;>
    · have := h k h1 h2
      rw [x_fd, z] at this; exact absurd this (by decide)
  · intro ⟨h1, h2, h3⟩ k k1 k2
    rw [x_fd, decide_eq_false (h1 k k1 k2), decide_eq_false (h2 k k1 k2), decide_eq_false (h3 k k1 k2)]; rfl
theorem kd_eq {XS : List r_K} {a b : Nat} (hab : a ≤ b) (hb : b ≤ 40) : c_kd XS a b = r_kd (x_ty XS) a b := by
  unfold c_kd r_kd
  have l9 := r_ct_le (x_ty XS) 9 a b
  have l8 := r_ct_le (x_ty XS) 8 a b
  have l10 := r_ct_le (x_ty XS) 10 a b
  have l2 := r_ct_le (x_ty XS) 2 a b
  have e := fd_ct XS a (b - a)
  rw [show a + (b - a) = b by omega] at e
  rw [nI_add, nI_add]
  by_cases h : cf_cnt (x_fd XS) a (b - a) = 0
  · rw [if_pos h, if_pos ((z_le (by omega)).mpr (by have := e.mp h; omega))]
    by_cases h2 : r_ct (x_ty XS) 2 a b = 0
    · rw [if_pos h2, if_pos ((z_le (by omega)).mpr h2)]
    · rw [if_neg h2, if_neg (fun z => h2 ((z_le (by omega)).mp z))]
  · rw [if_neg h, if_neg (fun z => h (e.mpr (by have := (z_le (by omega)).mp z; omega)))]
theorem kd_cases (ty : Nat → Int32) (a b : Nat) : r_kd ty a b = 0 ∨ r_kd ty a b = 1 ∨ r_kd ty a b = 2 := by
  unfold r_kd
  split
  · split
    · exact Or.inl rfl
    · exact Or.inr (Or.inl rfl)
  · exact Or.inr (Or.inr rfl)
theorem kd_0 {ty : Nat → Int32} {a b : Nat} (hb : b ≤ 40) (h : r_kd ty a b = 0) : r_ct ty 2 a b = 0 := by
  have l2 := r_ct_le ty 2 a b
  unfold r_kd at h
  split at h
  · split at h
    · rename_i h2; exact (z_le (by omega)).mp h2
    · exact absurd h (by decide)
  · exact absurd h (by decide)
theorem rd_wm {XS : List r_K} {a b : Nat} (hab : a ≤ b) (hb : b ≤ 40) : c_rd XS a b = r_wm (x_ty XS) a b := by
  have l7 := r_ct_le (x_ty XS) 7 a b
  have l2 := r_ct_le (x_ty XS) 2 a b
  have l3 := r_ct_le (x_ty XS) 3 a b
  have l4 := r_ct_le (x_ty XS) 4 a b
  have l5 := r_ct_le (x_ty XS) 5 a b
  have l6 := r_ct_le (x_ty XS) 6 a b
  have e2 : c_rd2 XS a b = r_w2 (x_ty XS) a b := by
    unfold c_rd2
    rw [kd_eq hab hb]
    unfold r_w2
    rcases kd_cases (x_ty XS) a b with k | k | k
    · rw [k, if_neg (by decide), if_neg (by decide), if_pos rfl, c_mk, kd_0 hb k, nI_add, nI_add, nI_add]
      have hz : decide (nI (r_ct (x_ty XS) 3 a b + r_ct (x_ty XS) 4 a b + r_ct (x_ty XS) 5 a b + r_ct (x_ty XS) 6 a b) = 0) = decide (r_ct (x_ty XS) 3 a b = 0 ∧ r_ct (x_ty XS) 4 a b = 0 ∧ r_ct (x_ty XS) 5 a b = 0 ∧ r_ct (x_ty XS) 6 a b = 0) := by
        apply decide_eq_decide.mpr; rw [z_eq (by omega)]; omega
      rw [hz]; rfl
    · rw [k, if_pos rfl, if_neg (by decide), if_neg (by decide), c_num_eq hab hb]
      show _ = r_w3 (x_ty XS) a b
      cases r_w3 (x_ty XS) a b <;> rfl
    · rw [k, if_neg (by decide), if_pos rfl, c_mk, nI_add, nI_add, nI_add, nI_add]
      have hz : decide (nI (r_ct (x_ty XS) 2 a b + r_ct (x_ty XS) 3 a b + r_ct (x_ty XS) 4 a b + r_ct (x_ty XS) 5 a b + r_ct (x_ty XS) 6 a b) = 0) = decide (r_ct (x_ty XS) 2 a b = 0 ∧ r_ct (x_ty XS) 3 a b = 0 ∧ r_ct (x_ty XS) 4 a b = 0 ∧ r_ct (x_ty XS) 5 a b = 0 ∧ r_ct (x_ty XS) 6 a b = 0) := by
        apply decide_eq_decide.mpr; rw [z_eq (by omega)]; omega
      rw [hz, ← Bool.decide_and]
  unfold c_rd r_wm
  rw [e2]
  have q7 : (1 < nI (r_ct (x_ty XS) 7 a b) ∨ (nI (r_ct (x_ty XS) 7 a b) = 1 ∧ ¬ x_ty XS a = 7)) ↔ (1 < r_ct (x_ty XS) 7 a b ∨ (r_ct (x_ty XS) 7 a b = 1 ∧ ¬ x_ty XS a = 7)) := by
    rw [show (1 : Int32) < nI (r_ct (x_ty XS) 7 a b) ↔ 1 < r_ct (x_ty XS) 7 a b from nI_ltI (a := 1) (by decide) (by omega), show nI (r_ct (x_ty XS) 7 a b) = 1 ↔ r_ct (x_ty XS) 7 a b = 1 from nI_eq (b := 1) (by omega) (by decide)]
  by_cases z : 1 < r_ct (x_ty XS) 7 a b ∨ (r_ct (x_ty XS) 7 a b = 1 ∧ ¬ x_ty XS a = 7)
  · rw [if_pos (q7.mpr z), c_cond]
    have : (decide (r_ct (x_ty XS) 7 a b = 0) || (decide (r_ct (x_ty XS) 7 a b = 1) && decide (x_ty XS a = 7))) = false := by
      rcases z with z | z
      · rw [decide_eq_false (show ¬ r_ct (x_ty XS) 7 a b = 0 by omega), decide_eq_false (show ¬ r_ct (x_ty XS) 7 a b = 1 by omega)]; rfl
      · rw [decide_eq_false (show ¬ r_ct (x_ty XS) 7 a b = 0 by omega), decide_eq_false z.2, Bool.and_false]; rfl
    rw [this]; rfl
  · rw [if_neg (fun q => z (q7.mp q)), c_cond]
    have : (decide (r_ct (x_ty XS) 7 a b = 0) || (decide (r_ct (x_ty XS) 7 a b = 1) && decide (x_ty XS a = 7))) = true := by
      by_cases h0 : r_ct (x_ty XS) 7 a b = 0
      · rw [decide_eq_true h0]; rfl
      · have h1 : r_ct (x_ty XS) 7 a b = 1 := by omega
        have h7 : x_ty XS a = 7 := Classical.byContradiction (fun q => z (Or.inr ⟨h1, q⟩))
        simp [h1, h7]
    rw [this]; rfl
