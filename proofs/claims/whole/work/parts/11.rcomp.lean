/-! reading an updated picture -/
theorem g_I1 {h : cf_H} {o k a b : Nat} {x : Int32} : (cf_pI h o k x).1 a b = if a = o ∧ b = k then x else h.1 a b := by
  by_cases ha : a = o
  · by_cases hb : b = k
    · subst ha; subst hb; rw [if_pos ⟨rfl, rfl⟩]; exact cf_pI_s
    · rw [if_neg (fun z => hb z.2)]; exact cf_pI_k hb
  · rw [if_neg (fun z => ha z.1)]; exact cf_pI_o ha
theorem g_I2 {h : cf_H} {o k : Nat} {x : Int32} : (cf_pI h o k x).2 = h.2 := rfl
theorem g_J1 {h : cf_H} {o k : Nat} {x : Int64} : (cf_pJ h o k x).1 = h.1 := rfl
theorem g_J2 {h : cf_H} {o k a b : Nat} {x : Int64} : (cf_pJ h o k x).2.1 a b = if a = o ∧ b = k then x else h.2.1 a b := by
  by_cases ha : a = o
  · by_cases hb : b = k
    · subst ha; subst hb; rw [if_pos ⟨rfl, rfl⟩]; exact cf_pJ_s
    · rw [if_neg (fun z => hb z.2)]; exact cf_pJ_k hb
  · rw [if_neg (fun z => ha z.1)]; exact cf_pJ_o ha
theorem g_J3 {h : cf_H} {o k : Nat} {x : Int64} : (cf_pJ h o k x).2.2 = h.2.2 := rfl
theorem g_A1 {h : cf_H} {o : Nat} {i x : Int32} : (cf_pA h o i x).1 = h.1 := rfl
theorem g_A2 {h : cf_H} {o : Nat} {i x : Int32} : (cf_pA h o i x).2.1 = h.2.1 := rfl
theorem g_A3 {h : cf_H} {o : Nat} {i x : Int32} : (cf_pA h o i x).2.2.1 = h.2.2.1 := rfl
theorem g_A4 {h : cf_H} {o a : Nat} {i x : Int32} : (cf_pA h o i x).2.2.2 a = if a = o then upd (h.2.2.2 o) i.toNatClampNeg x else h.2.2.2 a := by
  by_cases ha : a = o
  · subst ha; rw [if_pos rfl]; exact cf_pA_s
  · rw [if_neg ha]; exact cf_pA_o ha
/-! THE REFERENCE: where tokens end -/
theorem r_lt {c : Nat → Int32} {n j : Nat} {x : Int32} (h : r_at c n j = x) (hx : ¬ x = 0) : j < n := by
  unfold r_at at h
  by_cases e : j < n
  · exact e
  · rw [if_neg e] at h; exact absurd h.symm hx
theorem r_lt0 {c : Nat → Int32} {n j : Nat} (h : ¬ r_at c n j = 0) : j < n := r_lt rfl h
theorem r_quo_end {c : Nat → Int32} {n p : Nat} (hm : ¬ (r_quo (r_at c n) n p).1 = 0) : p < (r_quo (r_at c n) n p).2.2.2 ∧ (r_quo (r_at c n) n p).2.2.2 ≤ n := by
  have hge := cf_fst_ge (fun j => decide (r_at c n j = 34)) (n - (p + 1)) (p + 1)
  unfold r_quo at hm ⊢
  split at hm
  · rename_i h1
    rw [if_pos h1]
    exact ⟨by show p < _ + 1; omega, by show _ + 1 ≤ n; omega⟩
  · exact absurd rfl hm
theorem r_brk2_end {c : Nat → Int32} {n p q : Nat} {how : Int32} (hq : p < q) (hm : ¬ (r_brk2 (r_at c n) how q).1 = 0) : p < (r_brk2 (r_at c n) how q).2.2.2 ∧ (r_brk2 (r_at c n) how q).2.2.2 ≤ n := by
  unfold r_brk2 at hm ⊢
  split at hm
  · rename_i h1
    rw [if_pos h1]
    split at hm
    · rename_i h2
      rw [if_pos h2]
      have := r_lt h2.2.2 (by decide)
      exact ⟨by show p < _ + 1; omega, by show _ + 1 ≤ n; omega⟩
    · exact absurd rfl hm
  · rename_i h1
    rw [if_neg h1]
    split at hm
    · rename_i h2
      rw [if_pos h2]
      have := r_lt h2.2.2 (by decide)
      exact ⟨by show p < _ + 1; omega, by show _ + 1 ≤ n; omega⟩
    · exact absurd rfl hm
theorem r_brk_end {c : Nat → Int32} {n p : Nat} (hm : ¬ (r_brk (r_at c n) p).1 = 0) : p < (r_brk (r_at c n) p).2.2.2 ∧ (r_brk (r_at c n) p).2.2.2 ≤ n := by
  unfold r_brk at hm ⊢
  split at hm
  · rename_i h1
    rw [if_pos h1]
    have := r_lt h1.2 (by decide)
    exact ⟨by show p < p + 3; omega, by show p + 3 ≤ n; omega⟩
  · rename_i h1
    rw [if_neg h1]
    split at hm
    · exact absurd rfl hm
    · rename_i h2
      rw [if_neg h2]
      exact r_brk2_end (by split <;> omega) hm
theorem r_same_pos {g : Nat → Int32} {p k : Nat} (hk : 0 < k) : 0 < r_same g (g p) p k := by
  obtain ⟨k, rfl⟩ : ∃ j, k = j + 1 := ⟨k - 1, by omega⟩
  rw [r_same, show decide (g p = g p) = true by simp]
  show 0 < 1 + _
  omega
theorem r_let_end {c : Nat → Int32} {n p : Nat} (hp : p < n) (hm : ¬ (r_let (r_at c n) n p).1 = 0) : p < (r_let (r_at c n) n p).2.2.2 ∧ (r_let (r_at c n) n p).2.2.2 ≤ n := by
  have h1 := r_same_le (r_at c n) (r_at c n p) (n - p) p
  have h2 := r_same_pos (g := r_at c n) (p := p) (k := n - p) (by omega)
  unfold r_let at hm ⊢
  split at hm
  · rename_i h3
    rw [if_pos h3]
    exact ⟨by show p < p + _; omega, by show p + _ ≤ n; omega⟩
  · exact absurd rfl hm
theorem r_tok_end {c : Nat → Int32} {n p : Nat} (hp : p < n) (hm : ¬ (r_tok (r_at c n) n p).1 = 0) : p < (r_tok (r_at c n) n p).2.2.2 ∧ (r_tok (r_at c n) n p).2.2.2 ≤ n := by
  unfold r_tok at hm ⊢
  split
  · rename_i h1; rw [if_pos h1] at hm; exact r_quo_end hm
  rename_i h1; rw [if_neg h1] at hm
  split
  · rename_i h2; have := r_lt0 h2.2; exact ⟨by show p < p + 2; omega, by show p + 2 ≤ n; omega⟩
  rename_i h2; rw [if_neg h2] at hm
  unfold r_tkB at hm ⊢
  split
  · rename_i h2; have := r_lt0 h2.2; exact ⟨by show p < p + 2; omega, by show p + 2 ≤ n; omega⟩
  rename_i h3; rw [if_neg h3] at hm
  unfold r_tkC at hm ⊢
  split
  · exact ⟨by show p < p + 1; omega, by show p + 1 ≤ n; omega⟩
  rename_i h4; rw [if_neg h4] at hm
  split
  · exact ⟨by show p < p + 1; omega, by show p + 1 ≤ n; omega⟩
  rename_i h5; rw [if_neg h5] at hm
  split
  · exact ⟨by show p < p + 1; omega, by show p + 1 ≤ n; omega⟩
  rename_i h6; rw [if_neg h6] at hm
  split
  · exact ⟨by show p < p + 1; omega, by show p + 1 ≤ n; omega⟩
  rename_i h7; rw [if_neg h7] at hm
  split
  · exact ⟨by show p < p + 1; omega, by show p + 1 ≤ n; omega⟩
  rename_i h8; rw [if_neg h8] at hm
  split
  · rename_i h9
    have : p + 1 < n := by rcases h9.2 with z | z <;> exact r_lt z (by decide)
    exact ⟨by show p < p + 2; omega, by show p + 2 ≤ n; omega⟩
  rename_i h9; rw [if_neg h9] at hm
  unfold r_tkD at hm ⊢
  split
  · rename_i z; rw [if_pos z] at hm; exact r_brk_end hm
  rename_i h10; rw [if_neg h10] at hm
  split
  · rename_i z; rw [if_pos z] at hm; exact r_let_end hp hm
  rename_i h11; rw [if_neg h11] at hm
  split
  · rename_i z
    have := r_lt z.2.2.2.2 (by decide)
    exact ⟨by show p < p + 5; omega, by show p + 5 ≤ n; omega⟩
  rename_i h12; rw [if_neg h12] at hm
  exact absurd rfl hm
/-! THE REFERENCE: compile's scan. TS the tokens, ST the sections' starts -/
abbrev r_K : Type := Int32 × Int32 × Int32
def r_sc (g : Nat → Int32) (n : Nat) : Nat → Nat → List r_K → List Nat → Option Nat × List r_K × List Nat
  | 0, _, TS, ST => (none, TS, ST)
  | f + 1, p, TS, ST => if n ≤ p then (none, TS, ST) else if g p = 59 then r_sc g n f (p + 1) TS (ST ++ [TS.length]) else if (r_tok g n p).1 = 0 then (some p, TS, ST) else r_sc g n f (r_tok g n p).2.2.2 (TS ++ [((r_tok g n p).1, (r_tok g n p).2.1, (r_tok g n p).2.2.1)]) ST
/-- what compile may change of the reference -/
def r_fr (h0 h : cf_H) : Prop := (∀ o k, ¬ (o = 19 ∧ (k = 4 ∨ k = 10 ∨ k = 11 ∨ k = 12 ∨ k = 13)) → h.1 o k = h0.1 o k) ∧ h.2.1 = h0.2.1 ∧ h.2.2.1 = h0.2.2.1 ∧ (∀ o, ¬ (o = 21 ∨ o = 22 ∨ o = 23 ∨ o = 24 ∨ o = 25) → h.2.2.2 o = h0.2.2.2 o)
def r_hold (a b c : Nat → Int32) (TS : List r_K) : Prop := ∀ j x, TS[j]? = some x → a j = x.1 ∧ b j = x.2.1 ∧ c j = x.2.2
def r_holdS (a : Nat → Int32) (ST : List Nat) : Prop := ∀ j x, ST[j]? = some x → a j = nI x
def r_inv (h0 h : cf_H) (TS : List r_K) (ST : List Nat) : Prop := r_fr h0 h ∧ h.1 19 4 = nI TS.length ∧ r_hold (h.2.2.2 22) (h.2.2.2 23) (h.2.2.2 24) TS ∧ r_holdS (h.2.2.2 25) ST
theorem r_hold_add {a b c : Nat → Int32} {TS : List r_K} (h : r_hold a b c TS) (x : r_K) (hl : TS.length < 2 ^ 31) : r_hold (upd a (nI TS.length).toNatClampNeg x.1) (upd b (nI TS.length).toNatClampNeg x.2.1) (upd c (nI TS.length).toNatClampNeg x.2.2) (TS ++ [x]) := by
  intro j y hj
  rw [nI_clamp hl]
  by_cases e : j = TS.length
  · subst e
    rw [List.getElem?_append_right (Nat.le_refl _)] at hj
    simp at hj
    subst hj
    simp [upd]
  · have hlt : j < TS.length := by
      have := (List.getElem?_eq_some_iff.mp hj).1
      simp at this
      omega
    rw [List.getElem?_append_left hlt] at hj
    have := h j y hj
    simp [upd, e, this]
theorem r_holdS_add {a : Nat → Int32} {ST : List Nat} (h : r_holdS a ST) (x : Nat) (hl : ST.length < 2 ^ 31) : r_holdS (upd a (nI ST.length).toNatClampNeg (nI x)) (ST ++ [x]) := by
  intro j y hj
  rw [nI_clamp hl]
  by_cases e : j = ST.length
  · subst e
    rw [List.getElem?_append_right (Nat.le_refl _)] at hj
    simp at hj
    subst hj
    simp [upd]
  · have hlt : j < ST.length := by
      have := (List.getElem?_eq_some_iff.mp hj).1
      simp at this
      omega
    rw [List.getElem?_append_left hlt] at hj
    have := h j y hj
    simp [upd, e, this]
/-- a token is taken in -/
def f_rt (h : cf_H) : cf_H := cf_pI (cf_pA (cf_pA (cf_pA h 22 (h.1 19 4) (h.1 19 11)) 23 (h.1 19 4) (h.1 19 12)) 24 (h.1 19 4) (h.1 19 13)) 19 4 (h.1 19 4 + 1)

set_option maxHeartbeats 4000000 in
set_option maxRecDepth 100000 in
theorem t_cmp76 {h : cf_H} {P : Option Value → cf_H → Prop} (hR : cf_ok h) {t : Nat} (ht : h.1 19 4 = nI t) (h40 : t < 40) {x1 x2 : Int32} (k : RP k_mod_compile 21 [(0, .ref 19), (1, .int x1), (2, .int (h.1 19 10))] [] (f_rt h) P) : RP k_mod_compile 76 [(0, .ref 19), (1, .int x1), (2, .int x2)] [] h P := by
  refine rp_aload_n (i := 0) d_mod_compile_76 rfl rfl ?_
  refine rp_getR d_mod_compile_77 f_mod_16 rfl (hR _ _ _ rfl) ?_
  refine rp_aload_n (i := 0) d_mod_compile_80 rfl rfl ?_
  refine rp_getI d_mod_compile_81 f_mod_82 rfl ?_
  refine rp_aload_n (i := 0) d_mod_compile_84 rfl rfl ?_
  refine rp_getI d_mod_compile_85 f_mod_39 rfl ?_
  refine rp_iastore d_mod_compile_88 rfl (by show vp_in (h.1 19 4) 40; rw [ht]; exact vp_in_nI (by omega) (by omega)) ?_
  refine rp_aload_n (i := 0) d_mod_compile_89 rfl rfl ?_
  refine rp_getR d_mod_compile_90 f_mod_19 rfl (hR _ _ _ rfl) ?_
  refine rp_aload_n (i := 0) d_mod_compile_93 rfl rfl ?_
  refine rp_getI d_mod_compile_94 f_mod_82 rfl ?_
  refine rp_aload_n (i := 0) d_mod_compile_97 rfl rfl ?_
  refine rp_getI d_mod_compile_98 f_mod_42 rfl ?_
  refine rp_iastore d_mod_compile_101 rfl (by show vp_in (h.1 19 4) 40; rw [ht]; exact vp_in_nI (by omega) (by omega)) ?_
  refine rp_aload_n (i := 0) d_mod_compile_102 rfl rfl ?_
  refine rp_getR d_mod_compile_103 f_mod_22 rfl (hR _ _ _ rfl) ?_
  refine rp_aload_n (i := 0) d_mod_compile_106 rfl rfl ?_
  refine rp_getI d_mod_compile_107 f_mod_82 rfl ?_
  refine rp_aload_n (i := 0) d_mod_compile_110 rfl rfl ?_
  refine rp_getI d_mod_compile_111 f_mod_45 rfl ?_
  refine rp_iastore d_mod_compile_114 rfl (by show vp_in (h.1 19 4) 40; rw [ht]; exact vp_in_nI (by omega) (by omega)) ?_
  refine rp_aload_n (i := 0) d_mod_compile_115 rfl rfl ?_
  refine rp_dup d_mod_compile_116 rfl ?_
  refine rp_getI d_mod_compile_117 f_mod_82 rfl ?_
  refine rp_iconst (v := 1) d_mod_compile_120 (by decide) ?_
  refine rp_iadd d_mod_compile_121 ?_
  refine rp_putI d_mod_compile_122 f_mod_82 rfl rfl rfl ?_
  refine rp_aload_n (i := 0) d_mod_compile_125 rfl rfl ?_
  refine rp_getI d_mod_compile_126 f_mod_48 rfl ?_
  refine rp_istore_n (i := 2) d_mod_compile_129 rfl rfl (Nat.le_of_ble_eq_true rfl) ?_
  refine rp_goto (tgt := 21) d_mod_compile_130 (by decide) ?_
  exact rp_lv _ rfl k
