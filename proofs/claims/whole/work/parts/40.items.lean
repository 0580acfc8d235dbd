/-! ITEMS: what kinds there are -/
def cTxt (c : Nat → Int32) : Nat → Nat → List Int32
  | _, 0 => []
  | x, m + 1 => c x :: cTxt c (x + 1) m
theorem cTxt_congr {c d : Nat → Int32} : ∀ m x, (∀ j, x ≤ j → j < x + m → c j = d j) → cTxt c x m = cTxt d x m := by
  intro m
  induction m with
  | zero => intro x _; rfl
  | succ m ih => intro x h; rw [cTxt, cTxt, h x (by omega) (by omega), ih (x + 1) (fun j h1 h2 => h j (by omega) (by omega))]
theorem cTxt_len (c : Nat → Int32) : ∀ m x, (cTxt c x m).length = m := by
  intro m
  induction m with
  | zero => intro x; rfl
  | succ m ih => intro x; rw [cTxt, List.length_cons, ih]
def bTx : List r_K → List Int32
  | [] => []
  | q :: L => (if q.1 = 1 then [q.2.1] else []) ++ bTx L
def wX : List r_K → Nat
  | [] => 0
  | q :: L => (if q.1 = 9 then 3 else 1) + wX L
theorem wX_app (A B : List r_K) : wX (A ++ B) = wX A + wX B := by
  induction A with
  | nil => simp [wX]
  | cons q A ih => rw [List.cons_append, wX, wX, ih]; omega
theorem bTx_app (A B : List r_K) : bTx (A ++ B) = bTx A ++ bTx B := by
  induction A with
  | nil => rfl
  | cons q A ih => rw [List.cons_append, bTx, bTx, ih, List.append_assoc]
def lF (v : Int32) (m : Nat) : Prop := 1 ≤ m ∧ ((v = 121 ∧ (m = 2 ∨ m = 4)) ∨ ((v = 109 ∨ v = 100) ∧ m ≤ 3) ∨ ((v = 104 ∨ v = 115) ∧ m ≤ 2))
def iK (c : Nat → Int32) (n : Nat) (it : i_It) : Prop :=
  (∃ x y : Nat, x ≤ y ∧ y ≤ n ∧ it.1 = (1, nI x, nI y) ∧ it.2 ≠ [] ∧ (∀ q ∈ it.2, q.1 = 0 ∨ q.1 = 1) ∧ bTx it.2 = cTxt c x (y - x))
  ∨ it = ((1, -1, 0), [(1, 32, 0)])
  ∨ (∃ v, it = ((2, v, 0), [(2, v, 0)]))
  ∨ it = ((3, 0, 0), [(3, 46, 0)])
  ∨ it = ((4, 0, 0), [(4, 44, 0)])
  ∨ it = ((5, 0, 0), [(5, 37, 0)])
  ∨ (∃ v, it = ((6, v, 0), [(6, v, 0)]))
  ∨ (∃ w v, (w = 1 ∨ w = 2 ∨ w = 3 ∨ w = 4 ∨ w = 5 ∨ w = 6) ∧ it = ((7, w, v), [(7, v, c_tst w)]))
  ∨ (∃ v, (v = 104 ∨ v = 109 ∨ v = 115) ∧ it = ((8, v, 0), [(9, v, 0)]))
  ∨ (∃ v m, lF v m ∧ it = ((9, v, nI m), [(8, v, nI m)]))
  ∨ it = ((10, 0, 0), [(10, 65, 0)])
theorem lit_tx (g : Nat → Int32) : ∀ m a, bTx (c_lit g a m) = cTxt g a m := by
  intro m
  induction m with
  | zero => intro a; rfl
  | succ m ih => intro a; rw [c_lit, bTx, ih, cTxt]; rfl
theorem lit_ty (g : Nat → Int32) : ∀ m a, ∀ q ∈ c_lit g a m, q.1 = 1 := by
  intro m
  induction m with
  | zero => intro a q h; exact absurd h (by simp [c_lit])
  | succ m ih =>
    intro a q h
    rw [c_lit, List.mem_cons] at h
    rcases h with h | h
    · rw [h]
    · exact ih _ q h
theorem lit_w {L : List r_K} (h : ∀ q ∈ L, q.1 = 0 ∨ q.1 = 1) : wX L = L.length := by
  induction L with
  | nil => rfl
  | cons q L ih =>
    rw [wX, ih (fun x hx => h x (List.mem_cons_of_mem _ hx)), List.length_cons]
    have := h q (List.mem_cons_self ..)
    rw [if_neg (by rcases this with e | e <;> rw [e] <;> decide)]; omega
theorem at_c {c : Nat → Int32} {n j : Nat} (h : j < n) : r_at c n j = c j := by rw [r_at, if_pos h]
theorem i_brk {c : Nat → Int32} {n p : Nat} (hm : ¬ (r_brk (r_at c n) p).1 = 0) : iK c n (i_of (r_at c n) p (r_brk (r_at c n) p)) ∧ wX (c_blk (r_at c n) p (r_brk (r_at c n) p)) ≤ (r_brk (r_at c n) p).2.2.2 - p := by
  have he := r_brk_end hm
  unfold r_brk at *
  by_cases h1 : (r_at c n (p + 1) = 104 ∨ r_at c n (p + 1) = 109 ∨ r_at c n (p + 1) = 115) ∧ r_at c n (p + 2) = 93
  · rw [if_pos h1] at *
    refine ⟨Or.inr (Or.inr (Or.inr (Or.inr (Or.inr (Or.inr (Or.inr (Or.inr (Or.inl ⟨_, h1.1, ?_⟩)))))))), ?_⟩
    · simp [i_of, c_blk]
    · simp [c_blk, wX]
  · rw [if_neg h1] at *
    by_cases h2 : r_cmp (r_at c n) (p + 1) = 0
    · rw [if_pos h2] at hm; exact absurd rfl hm
    · rw [if_neg h2] at *
      generalize (if r_cmp (r_at c n) (p + 1) = 2 ∨ r_cmp (r_at c n) (p + 1) = 4 ∨ r_cmp (r_at c n) (p + 1) = 6 then p + 3 else p + 2) = q0 at *
      have hw : r_cmp (r_at c n) (p + 1) = 1 ∨ r_cmp (r_at c n) (p + 1) = 2 ∨ r_cmp (r_at c n) (p + 1) = 3 ∨ r_cmp (r_at c n) (p + 1) = 4 ∨ r_cmp (r_at c n) (p + 1) = 5 ∨ r_cmp (r_at c n) (p + 1) = 6 := by
        rcases r_cmp_cases (r_at c n) (p + 1) with z | z
        · exact absurd z h2
        · exact z
      generalize r_cmp (r_at c n) (p + 1) = w at *
      have key : ∀ v e, p < e → iK c n (i_of (r_at c n) p (7, w, v, e)) ∧ wX (c_blk (r_at c n) p (7, w, v, e)) ≤ e - p := by
        intro v e hpe
        refine ⟨Or.inr (Or.inr (Or.inr (Or.inr (Or.inr (Or.inr (Or.inr (Or.inl ⟨w, v, hw, ?_⟩))))))), ?_⟩
        · simp [i_of, c_blk]
        · simp [c_blk, wX]; omega
      unfold r_brk2 at *
      split at hm
      · rename_i h3
        rw [if_pos h3] at *
        split at hm
        · rename_i h4; rw [if_pos h4] at *; exact key _ _ he.1
        · exact absurd rfl hm
      · rename_i h3
        rw [if_neg h3] at *
        split at hm
        · rename_i h4; rw [if_pos h4] at *; exact key _ _ he.1
        · exact absurd rfl hm
theorem i_let {c : Nat → Int32} {n p : Nat} (hp : p < n) (hl : r_at c n p = 121 ∨ r_at c n p = 109 ∨ r_at c n p = 100 ∨ r_at c n p = 104 ∨ r_at c n p = 115) (hm : ¬ (r_let (r_at c n) n p).1 = 0) (hn : n ≤ 40) : iK c n (i_of (r_at c n) p (r_let (r_at c n) n p)) ∧ wX (c_blk (r_at c n) p (r_let (r_at c n) n p)) ≤ (r_let (r_at c n) n p).2.2.2 - p := by
  have hpos := r_same_pos (g := r_at c n) (p := p) (k := n - p) (by omega)
  have hle := r_same_le (r_at c n) (r_at c n p) (n - p) p
  unfold r_let at *
  split at hm
  · rename_i h1
    rw [if_pos h1] at *
    refine ⟨Or.inr (Or.inr (Or.inr (Or.inr (Or.inr (Or.inr (Or.inr (Or.inr (Or.inr (Or.inl ⟨r_at c n p, r_same (r_at c n) (r_at c n p) p (n - p), ⟨hpos, ?_⟩, ?_⟩))))))))), ?_⟩
    · generalize r_same (r_at c n) (r_at c n p) p (n - p) = m at *
      unfold r_fit at h1
      split at h1
      · rename_i h2
        left; refine ⟨h2, ?_⟩
        simp only [Bool.or_eq_true, decide_eq_true_eq] at h1
        rcases h1 with h1 | h1
        · exact Or.inl ((nI_eq (b := 2) (by omega) (by decide)).mp h1)
        · exact Or.inr ((nI_eq (b := 4) (by omega) (by decide)).mp h1)
      · split at h1
        · rename_i h2 h3
          right; left; refine ⟨h3, ?_⟩
          simp only [Bool.not_eq_true', decide_eq_false_iff_not] at h1
          exact Nat.not_lt.mp (fun z => h1 (nI_lt (a := 3) z (by omega)))
        · rename_i h2 h3
          right; right
          refine ⟨?_, ?_⟩
          · rcases hl with z | z | z | z | z
            · exact absurd z h2
            · exact absurd (Or.inl z) h3
            · exact absurd (Or.inr z) h3
            · exact Or.inl z
            · exact Or.inr z
          · simp only [Bool.not_eq_true', decide_eq_false_iff_not] at h1
            exact Nat.not_lt.mp (fun z => h1 (nI_lt (a := 2) z (by omega)))
    · simp [i_of, c_blk]
    · simp [c_blk, wX]; omega
  · exact absurd rfl hm
theorem i_tok {c : Nat → Int32} {n p : Nat} (hp : p < n) (hn : n ≤ 40) (hm : ¬ (r_tok (r_at c n) n p).1 = 0) : iK c n (i_of (r_at c n) p (r_tok (r_at c n) n p)) ∧ wX (c_blk (r_at c n) p (r_tok (r_at c n) n p)) ≤ (r_tok (r_at c n) n p).2.2.2 - p := by
  unfold r_tok at hm ⊢
  split
  · rename_i h1; rw [if_pos h1] at hm
    unfold r_quo at hm ⊢
    have hge := cf_fst_ge (fun j => decide (r_at c n j = 34)) (n - (p + 1)) (p + 1)
    generalize cf_fst (fun j => decide (r_at c n j = 34)) (p + 1) (n - (p + 1)) = q at *
    split at hm
    · rename_i h2
      rw [if_pos h2]
      have eb : c_blk (r_at c n) p (1, nI (p + 1), nI q, q + 1) = (0, 0, 0) :: c_lit (r_at c n) (p + 1) (q - (p + 1)) := by simp [c_blk, h1]
      have hty : ∀ x ∈ (0, 0, 0) :: c_lit (r_at c n) (p + 1) (q - (p + 1)), x.1 = 0 ∨ x.1 = 1 := by
        intro x hx
        rw [List.mem_cons] at hx
        rcases hx with hx | hx
        · rw [hx]; exact Or.inl rfl
        · exact Or.inr (lit_ty _ _ _ x hx)
      refine ⟨Or.inl ⟨p + 1, q, hge, by omega, rfl, ?_, ?_, ?_⟩, ?_⟩
      · rw [i_of]; simp only [eb]; simp
      · rw [i_of]; simp only [eb]; exact hty
      · rw [i_of]; simp only [eb]; rw [bTx, lit_tx]
        exact cTxt_congr _ _ (fun j h3 h4 => at_c (by omega))
      · rw [eb, lit_w hty, List.length_cons, c_lit_len]; show _ ≤ q + 1 - p; omega
    · exact absurd rfl hm
  rename_i h1; rw [if_neg h1] at hm
  split
  · rename_i h2
    have hlt := r_lt0 h2.2
    have eb : c_blk (r_at c n) p (1, nI (p + 1), nI (p + 2), p + 2) = [(1, r_at c n (p + 1), 0)] := by simp [c_blk, h1, h2.1]
    refine ⟨Or.inl ⟨p + 1, p + 2, by omega, by omega, rfl, ?_, ?_, ?_⟩, ?_⟩
    · rw [i_of]; simp only [eb]; simp
    · rw [i_of]; simp only [eb]; intro x hx; rw [List.mem_singleton] at hx; rw [hx]; exact Or.inr rfl
    · rw [i_of]; simp only [eb]; rw [show p + 2 - (p + 1) = 1 by omega, cTxt, cTxt, at_c hlt]; rfl
    · rw [eb]; show 1 ≤ p + 2 - p; omega
  rename_i h2; rw [if_neg h2] at hm
  unfold r_tkB at hm ⊢
  split
  · rename_i h3
    have n92 : ¬ r_at c n p = 92 := fun z => by rw [z] at h3; exact absurd h3.1 (by decide)
    have eb : c_blk (r_at c n) p (1, -1, 0, p + 2) = [(1, 32, 0)] := by simp [c_blk, h3.1]
    refine ⟨Or.inr (Or.inl ?_), ?_⟩
    · rw [i_of]; simp only [eb]
    · rw [eb]; show 1 ≤ p + 2 - p; omega
  rename_i h3; rw [if_neg h3] at hm
  unfold r_tkC at hm ⊢
  split
  · rename_i h4
    have n92 : ¬ r_at c n p = 92 := fun z => by rw [z] at h4; exact absurd h4 (by decide)
    have n95 : ¬ r_at c n p = 95 := fun z => by rw [z] at h4; exact absurd h4 (by decide)
    have eb : c_blk (r_at c n) p (1, nI p, nI (p + 1), p + 1) = [(1, r_at c n p, 0)] := by simp [c_blk, h1, n92, n95]
    refine ⟨Or.inl ⟨p, p + 1, by omega, by omega, rfl, ?_, ?_, ?_⟩, ?_⟩
    · rw [i_of]; simp only [eb]; simp
    · rw [i_of]; simp only [eb]; intro x hx; rw [List.mem_singleton] at hx; rw [hx]; exact Or.inr rfl
    · rw [i_of]; simp only [eb]; rw [show p + 1 - p = 1 by omega, cTxt, cTxt, at_c hp]; rfl
    · rw [eb]; show 1 ≤ p + 1 - p; omega
  rename_i h4; rw [if_neg h4] at hm
  split
  · exact ⟨Or.inr (Or.inr (Or.inl ⟨r_at c n p, by simp [i_of, c_blk]⟩)), by simp [c_blk, wX]⟩
  rename_i h5; rw [if_neg h5] at hm
  split
  · exact ⟨Or.inr (Or.inr (Or.inr (Or.inl (by simp [i_of, c_blk])))), by simp [c_blk, wX]⟩
  rename_i h6; rw [if_neg h6] at hm
  split
  · exact ⟨Or.inr (Or.inr (Or.inr (Or.inr (Or.inl (by simp [i_of, c_blk]))))), by simp [c_blk, wX]⟩
  rename_i h7; rw [if_neg h7] at hm
  split
  · exact ⟨Or.inr (Or.inr (Or.inr (Or.inr (Or.inr (Or.inl (by simp [i_of, c_blk])))))), by simp [c_blk, wX]⟩
  rename_i h8; rw [if_neg h8] at hm
  split
  · exact ⟨Or.inr (Or.inr (Or.inr (Or.inr (Or.inr (Or.inr (Or.inl ⟨r_at c n (p + 1), by simp [i_of, c_blk]⟩)))))), by simp [c_blk, wX]⟩
  rename_i h9; rw [if_neg h9] at hm
  unfold r_tkD at hm ⊢
  split
  · rename_i z; rw [if_pos z] at hm; exact i_brk hm
  rename_i h10; rw [if_neg h10] at hm
  split
  · rename_i z; rw [if_pos z] at hm; exact i_let hp z hm hn
  rename_i h11; rw [if_neg h11] at hm
  split
  · exact ⟨Or.inr (Or.inr (Or.inr (Or.inr (Or.inr (Or.inr (Or.inr (Or.inr (Or.inr (Or.inr (by simp [i_of, c_blk])))))))))), by simp [c_blk, wX]⟩
  rename_i h12; rw [if_neg h12] at hm
  exact absurd rfl hm
def iKs (c : Nat → Int32) (n : Nat) (S : List i_It) : Prop := ∀ it ∈ S, iK c n it
theorem i_X_semi (D : List (List i_It)) (C : List i_It) : i_X (D ++ [C]) [] = i_X D C ++ [(11, 59, 0)] := by simp [i_X]
theorem i_X_tok (D : List (List i_It)) (C : List i_It) (it : i_It) : i_X D (C ++ [it]) = i_X D C ++ it.2 := by simp [i_X]
theorem i_sc_K {c : Nat → Int32} {n : Nat} (hn : n ≤ 40) : ∀ f p D C, n ≤ p + f → p ≤ n → (∀ S ∈ D, iKs c n S) → iKs c n C → wX (i_X D C) ≤ p → (i_sc (r_at c n) n f p D C).1 = none → (∀ S ∈ (i_sc (r_at c n) n f p D C).2.1, iKs c n S) ∧ iKs c n (i_sc (r_at c n) n f p D C).2.2 ∧ wX (i_X (i_sc (r_at c n) n f p D C).2.1 (i_sc (r_at c n) n f p D C).2.2) ≤ n := by
  intro f
  induction f with
  | zero => intro p D C h1 h2 hD hC hw _; exact ⟨hD, hC, by show wX (i_X D C) ≤ n; omega⟩
  | succ f ih =>
    intro p D C h1 h2 hD hC hw hnone
    rw [i_sc] at hnone ⊢
    by_cases c1 : n ≤ p
    · rw [if_pos c1]; exact ⟨hD, hC, by show wX (i_X D C) ≤ n; omega⟩
    · rw [if_neg c1] at hnone ⊢
      by_cases c2 : r_at c n p = 59
      · rw [if_pos c2] at hnone ⊢
        refine ih (p + 1) _ _ (by omega) (by omega) ?_ (fun it h => absurd h (by simp)) ?_ hnone
        · intro S hS
          rw [List.mem_append, List.mem_singleton] at hS
          rcases hS with hS | hS
          · exact hD S hS
          · rw [hS]; exact hC
        · rw [i_X_semi, wX_app]; show _ + 1 ≤ _; omega
      · rw [if_neg c2] at hnone ⊢
        by_cases c3 : (r_tok (r_at c n) n p).1 = 0
        · rw [if_pos c3] at hnone; exact absurd hnone (by simp)
        · rw [if_neg c3] at hnone ⊢
          have he := r_tok_end (by omega) c3
          have hk := i_tok (by omega) hn c3
          refine ih _ _ _ (by omega) he.2 hD ?_ ?_ hnone
          · intro it h
            rw [List.mem_append, List.mem_singleton] at h
            rcases h with h | h
            · exact hC it h
            · rw [h]; exact hk.1
          · rw [i_X_tok, wX_app]
            have : wX (i_of (r_at c n) p (r_tok (r_at c n) n p)).2 ≤ (r_tok (r_at c n) n p).2.2.2 - p := hk.2
            omega
