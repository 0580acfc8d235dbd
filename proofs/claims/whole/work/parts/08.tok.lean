/-! base of the specifications -/
def cf_R0 (o k : Nat) : Option Nat := match o, k with
  | 0, 0 => some 1
  | 0, 2 => some 2
  | 0, 3 => some 6
  | 0, 4 => some 8
  | 0, 7 => some 12
  | 0, 8 => some 13
  | 0, 10 => some 15
  | 0, 11 => some 18
  | 2, 0 => some 3
  | 2, 1 => some 4
  | 2, 2 => some 5
  | 6, 0 => some 2
  | 13, 0 => some 14
  | 15, 0 => some 13
  | 15, 1 => some 16
  | 15, 2 => some 17
  | 18, 0 => some 13
  | 18, 1 => some 12
  | 19, 1 => some 20
  | 19, 3 => some 21
  | 19, 5 => some 22
  | 19, 6 => some 23
  | 19, 7 => some 24
  | 19, 8 => some 25
  | 19, 16 => some 26
  | _, _ => none
/-- the references that never change -/
def cf_ok (h : cf_H) : Prop := ∀ o k q, cf_R0 o k = some q → h.2.2.1 o k = some q
theorem cf_vin {i : Int32} {t N : Nat} (h0 : ¬ i < 0) (h1 : ¬ nI t ≤ i) (ht : t ≤ N) (hN : N < 2 ^ 31) : vp_in i N := by
  obtain ⟨j, hj, rfl, -⟩ := pk_mu h0 h1 (by omega)
  exact vp_in_nI (by omega) hN
def cf_cnt (p : Nat → Bool) : Nat → Nat → Nat
  | _, 0 => 0
  | a, n + 1 => (bif p a then 1 else 0) + cf_cnt p (a + 1) n
/-- the first place from a on, at most n further, where p holds -/
def cf_fst (p : Nat → Bool) : Nat → Nat → Nat
  | a, 0 => a
  | a, n + 1 => bif p a then a else cf_fst p (a + 1) n
/-- the last place below a + n, from a on, where p holds: one more than it; a if there is none -/
def cf_lst (p : Nat → Bool) (a : Nat) : Nat → Nat
  | 0 => a
  | n + 1 => bif p (a + n) then a + n + 1 else cf_lst p a n

set_option maxHeartbeats 4000000 in
set_option maxRecDepth 100000 in
theorem s_tok_clear {h : cf_H} {P : Option Value → cf_H → Prop} (hR : cf_ok h) (k : P none (cf_pI h 2 3 0)) : RP k_tok_clear 0 [(0, .ref 2)] [] h P := by
  refine rp_aload_n (i := 0) d_tok_clear_0 rfl rfl ?_
  refine rp_iconst (v := 0) d_tok_clear_1 (by decide) ?_
  refine rp_putI d_tok_clear_2 f_tok_21 rfl rfl rfl ?_
  refine rp_return d_tok_clear_5 rfl ?_
  exact k
/-- Tokens.add -/
def f_add (h : cf_H) (a b c : Int32) : cf_H := cf_pI (cf_pA (cf_pA (cf_pA h 3 (h.1 2 3) a) 4 (h.1 2 3) b) 5 (h.1 2 3) c) 2 3 (h.1 2 3 + 1)
set_option maxHeartbeats 4000000 in
set_option maxRecDepth 100000 in
theorem s_tok_add {h : cf_H} {P : Option Value → cf_H → Prop} (hR : cf_ok h) {t : Nat} (ht : h.1 2 3 = nI t) (h40 : t < 40) {a b c : Int32} (k : P none (f_add h a b c)) : RP k_tok_add 0 [(0, .ref 2), (1, .int a), (2, .int b), (3, .int c)] [] h P := by
  refine rp_aload_n (i := 0) d_tok_add_0 rfl rfl ?_
  refine rp_getI d_tok_add_1 f_tok_21 rfl ?_
  refine rp_bipush (v := 40) d_tok_add_4 (by decide) ?_
  refine rp_icmp_ge (tgt := 49) d_tok_add_6 (by decide) (fun c6 => ?_) (fun c6 => ?_)
  · exact absurd c6 (by rw [ht]; exact (nI_ge (b := 40) h40 (by decide)))
  · refine rp_aload_n (i := 0) d_tok_add_9 rfl rfl ?_
    refine rp_getR d_tok_add_10 f_tok_9 rfl (hR _ _ _ rfl) ?_
    refine rp_aload_n (i := 0) d_tok_add_13 rfl rfl ?_
    refine rp_getI d_tok_add_14 f_tok_21 rfl ?_
    refine rp_iload_n (i := 1) d_tok_add_17 rfl rfl ?_
    refine rp_iastore d_tok_add_18 rfl (by show vp_in (h.1 2 3) 40; rw [ht]; exact vp_in_nI (by omega) (by omega)) ?_
    refine rp_aload_n (i := 0) d_tok_add_19 rfl rfl ?_
    refine rp_getR d_tok_add_20 f_tok_15 rfl (hR _ _ _ rfl) ?_
    refine rp_aload_n (i := 0) d_tok_add_23 rfl rfl ?_
    refine rp_getI d_tok_add_24 f_tok_21 rfl ?_
    refine rp_iload_n (i := 2) d_tok_add_27 rfl rfl ?_
    refine rp_iastore d_tok_add_28 rfl (by show vp_in (h.1 2 3) 40; rw [ht]; exact vp_in_nI (by omega) (by omega)) ?_
    refine rp_aload_n (i := 0) d_tok_add_29 rfl rfl ?_
    refine rp_getR d_tok_add_30 f_tok_18 rfl (hR _ _ _ rfl) ?_
    refine rp_aload_n (i := 0) d_tok_add_33 rfl rfl ?_
    refine rp_getI d_tok_add_34 f_tok_21 rfl ?_
    refine rp_iload_n (i := 3) d_tok_add_37 rfl rfl ?_
    refine rp_iastore d_tok_add_38 rfl (by show vp_in (h.1 2 3) 40; rw [ht]; exact vp_in_nI (by omega) (by omega)) ?_
    refine rp_aload_n (i := 0) d_tok_add_39 rfl rfl ?_
    refine rp_dup d_tok_add_40 rfl ?_
    refine rp_getI d_tok_add_41 f_tok_21 rfl ?_
    refine rp_iconst (v := 1) d_tok_add_44 (by decide) ?_
    refine rp_iadd d_tok_add_45 ?_
    refine rp_putI d_tok_add_46 f_tok_21 rfl rfl rfl ?_
    refine rp_return d_tok_add_49 rfl ?_
    exact k
/-- Tokens.typeAt, valueAt, detailAt -/
def f_at (h : cf_H) (o : Nat) (d i : Int32) : Int32 := if i < 0 then d else if h.1 2 3 ≤ i then d else h.2.2.2 o i.toNatClampNeg
theorem f_at_n {h : cf_H} {o : Nat} {d : Int32} {t j : Nat} (ht : h.1 2 3 = nI t) (h40 : t ≤ 40) (hj : j < 2 ^ 31) : f_at h o d (nI j) = if j < t then h.2.2.2 o j else d := by
  unfold f_at
  rw [if_neg (nI_pos hj), ht]
  by_cases e : j < t
  · rw [if_neg (nI_ge e (by omega)), if_pos e, nI_clamp hj]
  · rw [if_pos (nI_le (by omega) hj), if_neg e]
set_option maxHeartbeats 4000000 in
set_option maxRecDepth 100000 in
theorem s_tok_typeAt {h : cf_H} {P : Option Value → cf_H → Prop} (hR : cf_ok h) {t : Nat} (ht : h.1 2 3 = nI t) (h40 : t ≤ 40) {i : Int32} (k : P (some (.int (f_at h 3 (-1) i))) h) : RP k_tok_typeAt 0 [(0, .ref 2), (1, .int i)] [] h P := by
  refine rp_iload_n (i := 1) d_tok_typeAt_0 rfl rfl ?_
  refine rp_if_lt (tgt := 21) d_tok_typeAt_1 (by decide) (fun c1 => ?_) (fun c1 => ?_)
  · refine rp_iconst (v := (-1)) d_tok_typeAt_21 (by decide) ?_
    refine rp_ireturn (ty := .int) d_tok_typeAt_22 rfl rfl ?_
    first | (rw [f_at, if_pos c1] at k; exact k) | (rw [f_at, if_neg c1, if_pos c9] at k; exact k) | (rw [f_at, if_neg c1, if_neg c9] at k; exact k)
  · refine rp_iload_n (i := 1) d_tok_typeAt_4 rfl rfl ?_
    refine rp_aload_n (i := 0) d_tok_typeAt_5 rfl rfl ?_
    refine rp_getI d_tok_typeAt_6 f_tok_21 rfl ?_
    refine rp_icmp_ge (tgt := 21) d_tok_typeAt_9 (by decide) (fun c9 => ?_) (fun c9 => ?_)
    · refine rp_iconst (v := (-1)) d_tok_typeAt_21 (by decide) ?_
      refine rp_ireturn (ty := .int) d_tok_typeAt_22 rfl rfl ?_
      first | (rw [f_at, if_pos c1] at k; exact k) | (rw [f_at, if_neg c1, if_pos c9] at k; exact k) | (rw [f_at, if_neg c1, if_neg c9] at k; exact k)
    · refine rp_aload_n (i := 0) d_tok_typeAt_12 rfl rfl ?_
      refine rp_getR d_tok_typeAt_13 f_tok_9 rfl (hR _ _ _ rfl) ?_
      refine rp_iload_n (i := 1) d_tok_typeAt_16 rfl rfl ?_
      refine rp_iaload d_tok_typeAt_17 rfl (cf_vin c1 (by rw [← ht]; exact c9) h40 (by omega)) ?_
      refine rp_goto (tgt := 22) d_tok_typeAt_18 (by decide) ?_
      refine rp_ireturn (ty := .int) d_tok_typeAt_22 rfl rfl ?_
      first | (rw [f_at, if_pos c1] at k; exact k) | (rw [f_at, if_neg c1, if_pos c9] at k; exact k) | (rw [f_at, if_neg c1, if_neg c9] at k; exact k)
set_option maxHeartbeats 4000000 in
set_option maxRecDepth 100000 in
theorem s_tok_valueAt {h : cf_H} {P : Option Value → cf_H → Prop} (hR : cf_ok h) {t : Nat} (ht : h.1 2 3 = nI t) (h40 : t ≤ 40) {i : Int32} (k : P (some (.int (f_at h 4 (0) i))) h) : RP k_tok_valueAt 0 [(0, .ref 2), (1, .int i)] [] h P := by
  refine rp_iload_n (i := 1) d_tok_valueAt_0 rfl rfl ?_
  refine rp_if_lt (tgt := 21) d_tok_valueAt_1 (by decide) (fun c1 => ?_) (fun c1 => ?_)
  · refine rp_iconst (v := 0) d_tok_valueAt_21 (by decide) ?_
    refine rp_ireturn (ty := .int) d_tok_valueAt_22 rfl rfl ?_
    first | (rw [f_at, if_pos c1] at k; exact k) | (rw [f_at, if_neg c1, if_pos c9] at k; exact k) | (rw [f_at, if_neg c1, if_neg c9] at k; exact k)
  · refine rp_iload_n (i := 1) d_tok_valueAt_4 rfl rfl ?_
    refine rp_aload_n (i := 0) d_tok_valueAt_5 rfl rfl ?_
    refine rp_getI d_tok_valueAt_6 f_tok_21 rfl ?_
    refine rp_icmp_ge (tgt := 21) d_tok_valueAt_9 (by decide) (fun c9 => ?_) (fun c9 => ?_)
    · refine rp_iconst (v := 0) d_tok_valueAt_21 (by decide) ?_
      refine rp_ireturn (ty := .int) d_tok_valueAt_22 rfl rfl ?_
      first | (rw [f_at, if_pos c1] at k; exact k) | (rw [f_at, if_neg c1, if_pos c9] at k; exact k) | (rw [f_at, if_neg c1, if_neg c9] at k; exact k)
    · refine rp_aload_n (i := 0) d_tok_valueAt_12 rfl rfl ?_
      refine rp_getR d_tok_valueAt_13 f_tok_15 rfl (hR _ _ _ rfl) ?_
      refine rp_iload_n (i := 1) d_tok_valueAt_16 rfl rfl ?_
      refine rp_iaload d_tok_valueAt_17 rfl (cf_vin c1 (by rw [← ht]; exact c9) h40 (by omega)) ?_
      refine rp_goto (tgt := 22) d_tok_valueAt_18 (by decide) ?_
      refine rp_ireturn (ty := .int) d_tok_valueAt_22 rfl rfl ?_
      first | (rw [f_at, if_pos c1] at k; exact k) | (rw [f_at, if_neg c1, if_pos c9] at k; exact k) | (rw [f_at, if_neg c1, if_neg c9] at k; exact k)
set_option maxHeartbeats 4000000 in
set_option maxRecDepth 100000 in
theorem s_tok_detailAt {h : cf_H} {P : Option Value → cf_H → Prop} (hR : cf_ok h) {t : Nat} (ht : h.1 2 3 = nI t) (h40 : t ≤ 40) {i : Int32} (k : P (some (.int (f_at h 5 (0) i))) h) : RP k_tok_detailAt 0 [(0, .ref 2), (1, .int i)] [] h P := by
  refine rp_iload_n (i := 1) d_tok_detailAt_0 rfl rfl ?_
  refine rp_if_lt (tgt := 21) d_tok_detailAt_1 (by decide) (fun c1 => ?_) (fun c1 => ?_)
  · refine rp_iconst (v := 0) d_tok_detailAt_21 (by decide) ?_
    refine rp_ireturn (ty := .int) d_tok_detailAt_22 rfl rfl ?_
    first | (rw [f_at, if_pos c1] at k; exact k) | (rw [f_at, if_neg c1, if_pos c9] at k; exact k) | (rw [f_at, if_neg c1, if_neg c9] at k; exact k)
  · refine rp_iload_n (i := 1) d_tok_detailAt_4 rfl rfl ?_
    refine rp_aload_n (i := 0) d_tok_detailAt_5 rfl rfl ?_
    refine rp_getI d_tok_detailAt_6 f_tok_21 rfl ?_
    refine rp_icmp_ge (tgt := 21) d_tok_detailAt_9 (by decide) (fun c9 => ?_) (fun c9 => ?_)
    · refine rp_iconst (v := 0) d_tok_detailAt_21 (by decide) ?_
      refine rp_ireturn (ty := .int) d_tok_detailAt_22 rfl rfl ?_
      first | (rw [f_at, if_pos c1] at k; exact k) | (rw [f_at, if_neg c1, if_pos c9] at k; exact k) | (rw [f_at, if_neg c1, if_neg c9] at k; exact k)
    · refine rp_aload_n (i := 0) d_tok_detailAt_12 rfl rfl ?_
      refine rp_getR d_tok_detailAt_13 f_tok_18 rfl (hR _ _ _ rfl) ?_
      refine rp_iload_n (i := 1) d_tok_detailAt_16 rfl rfl ?_
      refine rp_iaload d_tok_detailAt_17 rfl (cf_vin c1 (by rw [← ht]; exact c9) h40 (by omega)) ?_
      refine rp_goto (tgt := 22) d_tok_detailAt_18 (by decide) ?_
      refine rp_ireturn (ty := .int) d_tok_detailAt_22 rfl rfl ?_
      first | (rw [f_at, if_pos c1] at k; exact k) | (rw [f_at, if_neg c1, if_pos c9] at k; exact k) | (rw [f_at, if_neg c1, if_neg c9] at k; exact k)
set_option maxHeartbeats 4000000 in
set_option maxRecDepth 100000 in
theorem l_tok_count {h : cf_H} {P : Option Value → cf_H → Prop} (hR : cf_ok h) {t : Nat} (ht : h.1 2 3 = nI t) (h40 : t ≤ 40) {ty : Int32} {b : Nat} (hb : b < 2 ^ 30) : ∀ (n a q : Nat), a + n = b → (k : P (some (.int (nI (q + cf_cnt (fun j => decide (f_at h 3 (-1) (nI j) = ty)) a n)))) h) → RP k_tok_count 6 [(0, .ref 2), (1, .int ty), (3, .int (nI b)), (4, .int (nI q)), (5, .int (nI a))] [] h P := by
  intro n
  induction n with
  | zero =>
    intro a q e k
    have e : a = b := e
    subst e
    refine rp_iload (i := 5) d_tok_count_6 rfl ?_
    refine rp_iload_n (i := 3) d_tok_count_8 rfl rfl ?_
    refine rp_icmp_ge (tgt := 31) d_tok_count_9 (by decide) (fun c9 => ?_) (fun c9 => ?_)
    · refine rp_iload (i := 4) d_tok_count_31 rfl ?_
      refine rp_ireturn (ty := .int) d_tok_count_33 rfl rfl ?_
      exact k
    · exact absurd (nI_le (Nat.le_refl _) (by omega)) c9
  | succ n ih =>
    intro a q e k
    have hlt : a < b := by omega
    refine rp_iload (i := 5) d_tok_count_6 rfl ?_
    refine rp_iload_n (i := 3) d_tok_count_8 rfl rfl ?_
    refine rp_icmp_ge (tgt := 31) d_tok_count_9 (by decide) (fun c9 => ?_) (fun c9 => ?_)
    · exact absurd c9 (nI_ge hlt (by omega))
    · refine rp_aload_n (i := 0) d_tok_count_12 rfl rfl ?_
      refine rp_iload (i := 5) d_tok_count_13 rfl ?_
      refine rp_callV1 d_tok_count_15 q_tok_count_25 (Or.inl ⟨_, _, _, rfl, rfl⟩) (Nat.le_of_ble_eq_true rfl) (Nat.le_of_ble_eq_true rfl) ?_
      refine s_tok_typeAt hR ht h40 ?_
      refine rp_iload_n (i := 1) d_tok_count_18 rfl rfl ?_
      refine rp_icmp_ne (tgt := 25) d_tok_count_19 (by decide) (fun c19 => ?_) (fun c19 => ?_)
      · refine rp_iinc (i := 5) (y := 1) d_tok_count_25 rfl (by decide) rfl (Nat.le_of_ble_eq_true rfl) ?_
        refine rp_goto (tgt := 6) d_tok_count_28 (by decide) ?_
        first | (refine rp_lv [(0, .ref 2), (1, .int ty), (3, .int (nI b)), (4, .int (nI q)), (5, .int (nI (a + 1)))] (by simp only [nI_succ]; rfl) ?_; refine ih (a + 1) q (by omega) ?_; simpa [cf_cnt, c19] using k) | (refine rp_lv [(0, .ref 2), (1, .int ty), (3, .int (nI b)), (4, .int (nI (q + 1))), (5, .int (nI (a + 1)))] (by simp only [nI_succ]; rfl) ?_; refine ih (a + 1) (q + 1) (by omega) ?_; simpa [cf_cnt, c19, Nat.add_assoc] using k)
      · refine rp_iinc (i := 4) (y := 1) d_tok_count_22 rfl (by decide) rfl (Nat.le_of_ble_eq_true rfl) ?_
        refine rp_iinc (i := 5) (y := 1) d_tok_count_25 rfl (by decide) rfl (Nat.le_of_ble_eq_true rfl) ?_
        refine rp_goto (tgt := 6) d_tok_count_28 (by decide) ?_
        first | (refine rp_lv [(0, .ref 2), (1, .int ty), (3, .int (nI b)), (4, .int (nI q)), (5, .int (nI (a + 1)))] (by simp only [nI_succ]; rfl) ?_; refine ih (a + 1) q (by omega) ?_; simpa [cf_cnt, c19] using k) | (refine rp_lv [(0, .ref 2), (1, .int ty), (3, .int (nI b)), (4, .int (nI (q + 1))), (5, .int (nI (a + 1)))] (by simp only [nI_succ]; rfl) ?_; refine ih (a + 1) (q + 1) (by omega) ?_; simpa [cf_cnt, c19, Nat.add_assoc] using k)
set_option maxHeartbeats 4000000 in
set_option maxRecDepth 100000 in
theorem s_tok_count {h : cf_H} {P : Option Value → cf_H → Prop} (hR : cf_ok h) {t : Nat} (ht : h.1 2 3 = nI t) (h40 : t ≤ 40) {ty : Int32} {a b : Nat} (hab : a ≤ b) (hb : b < 2 ^ 30) (k : P (some (.int (nI (cf_cnt (fun j => decide (f_at h 3 (-1) (nI j) = ty)) a (b - a))))) h) : RP k_tok_count 0 [(0, .ref 2), (1, .int ty), (2, .int (nI a)), (3, .int (nI b))] [] h P := by
  refine rp_iconst (v := 0) d_tok_count_0 (by decide) ?_
  refine rp_istore (i := 4) d_tok_count_1 rfl (Nat.le_of_ble_eq_true rfl) ?_
  refine rp_iload_n (i := 2) d_tok_count_3 rfl rfl ?_
  refine rp_istore (i := 5) d_tok_count_4 rfl (Nat.le_of_ble_eq_true rfl) ?_
  refine rp_lv [(0, .ref 2), (1, .int ty), (3, .int (nI b)), (4, .int (nI 0)), (5, .int (nI a))] rfl ?_
  exact l_tok_count hR ht h40 hb (b - a) a 0 (by omega) (by rw [Nat.zero_add]; exact k)
