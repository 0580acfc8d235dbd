/-! THE CLASS: Scanner.scanToken -/
def c_lit (g : Nat → Int32) : Nat → Nat → List r_K
  | _, 0 => []
  | a, m + 1 => (1, g a, 0) :: c_lit g (a + 1) m
abbrev c_R : Type := Option (List r_K × Nat)
def c_o1 (t : Option r_K) (w : Nat) : c_R := t.map (fun y => ([y], w))
def c_on (t : Option (r_K × Nat)) : c_R := t.map (fun y => ([y.1], y.2))
def c_st (h : cf_H) (r : c_R) : cf_H := match r with
  | some y => c_adds h y.1
  | none => h
def c_w (r : c_R) : Int32 := match r with
  | some y => nI y.2
  | none => 0
def c_qt (g : Nat → Int32) (n p : Nat) : c_R := if cf_fst (fun j => decide (g j = 34)) (p + 1) (n - (p + 1)) < n then some ((0, 0, 0) :: c_lit g (p + 1) (cf_fst (fun j => decide (g j = 34)) (p + 1) (n - (p + 1)) - (p + 1)), cf_fst (fun j => decide (g j = 34)) (p + 1) (n - (p + 1)) + 1 - p) else none
def c_br (g : Nat → Int32) (p : Nat) : c_R := if (g (p + 1) = 104 ∨ g (p + 1) = 109 ∨ g (p + 1) = 115) ∧ g (p + 2) = 93 then some ([(9, g (p + 1), 0)], 3) else c_on (c_cnd g p)
def c_tk (g : Nat → Int32) (n p : Nat) : c_R :=
  if g p = 34 then c_qt g n p
  else if g p = 92 ∨ g p = 95 then (if p + 1 < n then some ([(1, (if g p = 95 then 32 else g (p + 1)), 0)], 2) else none)
  else if g p = 91 then c_br g p
  else if g p = 69 then (if g (p + 1) = 43 ∨ g (p + 1) = 45 then some ([(6, g (p + 1), 0)], 2) else none)
  else if g p = 65 then (bif c_mer g p 0 5 then some ([(10, 65, 0)], 5) else none)
  else if g p = 121 ∨ g p = 109 ∨ g p = 100 ∨ g p = 104 ∨ g p = 115 then (bif r_fit (g p) (nI (r_same g (g p) p (n - p))) then some ([(8, g p, nI (r_same g (g p) p (n - p)))], r_same g (g p) p (n - p)) else none)
  else c_o1 (c_sgl (g p)) 1

set_option maxHeartbeats 4000000 in
set_option maxRecDepth 100000 in
theorem s_scn_scanBracket {h : cf_H} {P : Option Value → cf_H → Prop} {n : Nat} (hS : c_S h n) {t : Nat} (ht : h.1 2 3 = nI t) (ht40 : t < 40) {x : Int32} {p : Nat} (hx : x = nI p) (hp : p < 2 ^ 26) (k : P (some (.int (c_w (c_br (c_g h n) p)))) (c_st h (c_br (c_g h n) p))) : RP k_scn_scanBracket 0 [(0, .ref 6), (1, .int x)] [] h P := by
  subst hx
  obtain ⟨hR, hc, hn, h40, hv⟩ := id hS
  obtain ⟨q, hq, eq⟩ := c_g127 hS (p + 1)
  refine rp_aload_n (i := 0) d_scn_scanBracket_0 rfl rfl ?_
  refine rp_iload_n (i := 1) d_scn_scanBracket_1 rfl rfl ?_
  refine rp_iconst (v := 1) d_scn_scanBracket_2 (by decide) ?_
  refine rp_iadd d_scn_scanBracket_3 ?_
  refine rp_callV1 d_scn_scanBracket_4 q_scn_scanBracket_38 (Or.inl ⟨_, _, _, rfl, rfl⟩) (Nat.le_of_ble_eq_true rfl) (Nat.le_of_ble_eq_true rfl) ?_
  refine s_scn_at hS (j := p + 1) (nI_add p 1) (by omega) ?_
  refine rp_istore_n (i := 2) d_scn_scanBracket_7 rfl rfl (Nat.le_of_ble_eq_true rfl) ?_
  refine rp_ldcS (i := 0) d_scn_scanBracket_8 rfl ?_
  refine rp_iload_n (i := 2) d_scn_scanBracket_10 rfl rfl ?_
  refine rp_callV1 d_scn_scanBracket_11 q_scn_scanBracket_59 (Or.inr ⟨0, _, rfl, rfl, rfl⟩) (Nat.le_of_ble_eq_true rfl) (Nat.le_of_ble_eq_true rfl) ?_
  refine s_str_indexOf_I (L := 3) rfl rfl (by decide) (by decide) ?_
  have hel := j_el q hq
  rw [← eq] at hel
  refine rp_if_lt (tgt := 42) d_scn_scanBracket_14 (by decide) (fun c14 => ?_) (fun c14 => ?_)
  · refine rp_aload_n (i := 0) d_scn_scanBracket_42 rfl rfl ?_
    refine rp_iload_n (i := 1) d_scn_scanBracket_43 rfl rfl ?_
    refine rp_callV1 d_scn_scanBracket_44 q_scn_scanBracket_77 (Or.inl ⟨_, _, _, rfl, rfl⟩) (Nat.le_of_ble_eq_true rfl) (Nat.le_of_ble_eq_true rfl) ?_
    rw [show c_br (c_g h n) p = c_on (c_cnd (c_g h n) p) by rw [c_br, if_neg (fun z => hel.mp c14 z.1)]] at k
    refine s_scn_scanCondition hS ht ht40 rfl hp ?_
    revert k
    cases c_cnd (c_g h n) p
    · intro k
      refine rp_ireturn (ty := .int) d_scn_scanBracket_47 rfl rfl ?_
      exact k
    · intro k
      refine rp_ireturn (ty := .int) d_scn_scanBracket_47 rfl rfl ?_
      exact k
  · refine rp_aload_n (i := 0) d_scn_scanBracket_17 rfl rfl ?_
    refine rp_iload_n (i := 1) d_scn_scanBracket_18 rfl rfl ?_
    refine rp_iconst (v := 2) d_scn_scanBracket_19 (by decide) ?_
    refine rp_iadd d_scn_scanBracket_20 ?_
    refine rp_callV1 d_scn_scanBracket_21 q_scn_scanBracket_38 (Or.inl ⟨_, _, _, rfl, rfl⟩) (Nat.le_of_ble_eq_true rfl) (Nat.le_of_ble_eq_true rfl) ?_
    refine s_scn_at hS (j := p + 2) (nI_add p 2) (by omega) ?_
    refine rp_bipush (v := 93) d_scn_scanBracket_24 (by decide) ?_
    refine rp_icmp_ne (tgt := 42) d_scn_scanBracket_26 (by decide) (fun c26 => ?_) (fun c26 => ?_)
    · refine rp_aload_n (i := 0) d_scn_scanBracket_42 rfl rfl ?_
      refine rp_iload_n (i := 1) d_scn_scanBracket_43 rfl rfl ?_
      refine rp_callV1 d_scn_scanBracket_44 q_scn_scanBracket_77 (Or.inl ⟨_, _, _, rfl, rfl⟩) (Nat.le_of_ble_eq_true rfl) (Nat.le_of_ble_eq_true rfl) ?_
      rw [show c_br (c_g h n) p = c_on (c_cnd (c_g h n) p) by rw [c_br, if_neg (fun z => c26 z.2)]] at k
      refine s_scn_scanCondition hS ht ht40 rfl hp ?_
      revert k
      cases c_cnd (c_g h n) p
      · intro k
        refine rp_ireturn (ty := .int) d_scn_scanBracket_47 rfl rfl ?_
        exact k
      · intro k
        refine rp_ireturn (ty := .int) d_scn_scanBracket_47 rfl rfl ?_
        exact k
    · refine rp_aload_n (i := 0) d_scn_scanBracket_29 rfl rfl ?_
      refine rp_getR d_scn_scanBracket_30 f_scn_9 rfl (hR _ _ _ rfl) ?_
      refine rp_bipush (v := 9) d_scn_scanBracket_33 (by decide) ?_
      refine rp_iload_n (i := 2) d_scn_scanBracket_35 rfl rfl ?_
      refine rp_iconst (v := 0) d_scn_scanBracket_36 (by decide) ?_
      refine rp_callV3 d_scn_scanBracket_37 q_scn_scanBracket_71 (Or.inl ⟨_, _, _, rfl, rfl⟩) (Nat.le_of_ble_eq_true rfl) (Nat.le_of_ble_eq_true rfl) ?_
      rw [show c_br (c_g h n) p = some ([(9, c_g h n (p + 1), 0)], 3) by rw [c_br, if_pos ⟨Decidable.not_not.mp (fun z => c14 (hel.mpr z)), c26⟩]] at k
      refine s_tok_add hR ht ht40 ?_
      refine rp_iconst (v := 3) d_scn_scanBracket_40 (by decide) ?_
      refine rp_ireturn (ty := .int) d_scn_scanBracket_41 rfl rfl ?_
      exact k
set_option maxHeartbeats 4000000 in
set_option maxRecDepth 100000 in
theorem l_scn_q1 {h : cf_H} {P : Option Value → cf_H → Prop} {n : Nat} (hS : c_S h n) {p : Nat} : ∀ (r q : Nat), r = n - q → q < 2 ^ 28 → (k : RP k_scn_scanQuoted 28 [(0, .ref 6), (1, .int (nI p)), (2, .int (nI (cf_fst (fun j => decide (c_g h n j = 34)) q r)))] [] h P) → RP k_scn_scanQuoted 4 [(0, .ref 6), (1, .int (nI p)), (2, .int (nI q))] [] h P := by
  obtain ⟨hR, hc, hn, h40, hv⟩ := id hS
  intro r
  induction r with
  | zero =>
    intro q e hq k
    refine rp_iload_n (i := 2) d_scn_scanQuoted_4 rfl rfl ?_
    refine rp_aload_n (i := 0) d_scn_scanQuoted_5 rfl rfl ?_
    refine rp_getI d_scn_scanQuoted_6 f_scn_19 rfl ?_
    refine rp_icmp_ge (tgt := 28) d_scn_scanQuoted_9 (by decide) (fun c9 => ?_) (fun c9 => ?_)
    · exact rp_lv _ rfl k
    · exact absurd (by rw [hn]; exact nI_le (by omega) (by omega)) c9
  | succ r ih =>
    intro q e hq k
    have hlt : q < n := by omega
    refine rp_iload_n (i := 2) d_scn_scanQuoted_4 rfl rfl ?_
    refine rp_aload_n (i := 0) d_scn_scanQuoted_5 rfl rfl ?_
    refine rp_getI d_scn_scanQuoted_6 f_scn_19 rfl ?_
    refine rp_icmp_ge (tgt := 28) d_scn_scanQuoted_9 (by decide) (fun c9 => ?_) (fun c9 => ?_)
    · exact absurd c9 (by rw [hn]; exact nI_ge hlt (by omega))
    · refine rp_aload_n (i := 0) d_scn_scanQuoted_12 rfl rfl ?_
      refine rp_iload_n (i := 2) d_scn_scanQuoted_13 rfl rfl ?_
      refine rp_callV1 d_scn_scanQuoted_14 q_scn_scanQuoted_38 (Or.inl ⟨_, _, _, rfl, rfl⟩) (Nat.le_of_ble_eq_true rfl) (Nat.le_of_ble_eq_true rfl) ?_
      refine s_scn_at hS (j := q) (rfl) (by omega) ?_
      refine rp_bipush (v := 34) d_scn_scanQuoted_17 (by decide) ?_
      refine rp_icmp_eq (tgt := 28) d_scn_scanQuoted_19 (by decide) (fun c19 => ?_) (fun c19 => ?_)
      · rw [cf_fst, show decide (c_g h n q = 34) = true by simp [c19]] at k
        exact rp_lv _ rfl k
      · refine rp_iinc (i := 2) (y := 1) d_scn_scanQuoted_22 rfl (by decide) rfl (Nat.le_of_ble_eq_true rfl) ?_
        refine rp_goto (tgt := 4) d_scn_scanQuoted_25 (by decide) ?_
        rw [cf_fst, show decide (c_g h n q = 34) = false by simp [c19]] at k
        refine rp_lv [(0, .ref 6), (1, .int (nI p)), (2, .int (nI (q + 1)))] (by simp only [nI_succ]; rfl) ?_
        exact ih (q + 1) (by omega) (by omega) k
set_option maxHeartbeats 4000000 in
set_option maxRecDepth 100000 in
theorem l_scn_q2 {P : Option Value → cf_H → Prop} {n p q : Nat} {g : Nat → Int32} (hp : p < q) (hq : q < 40) : ∀ (m i : Nat) (h : cf_H) (t : Nat), c_S h n → c_g h n = g → h.1 2 3 = nI t → i + m = q → t ≤ i → (k : P (some (.int (nI (q + 1 - p)))) (c_adds h (c_lit g i m))) → RP k_scn_scanQuoted 52 [(0, .ref 6), (1, .int (nI p)), (2, .int (nI q)), (3, .int (nI i))] [] h P := by
  intro m
  induction m with
  | zero =>
    intro i h t hS hg ht e hti k
    have e : i = q := e
    subst e
    refine rp_iload_n (i := 3) d_scn_scanQuoted_52 rfl rfl ?_
    refine rp_iload_n (i := 2) d_scn_scanQuoted_53 rfl rfl ?_
    refine rp_icmp_ge (tgt := 77) d_scn_scanQuoted_54 (by decide) (fun c54 => ?_) (fun c54 => ?_)
    · refine rp_iload_n (i := 2) d_scn_scanQuoted_77 rfl rfl ?_
      refine rp_iconst (v := 1) d_scn_scanQuoted_78 (by decide) ?_
      refine rp_iadd d_scn_scanQuoted_79 ?_
      refine rp_iload_n (i := 1) d_scn_scanQuoted_80 rfl rfl ?_
      refine rp_isub d_scn_scanQuoted_81 ?_
      refine rp_ireturn (ty := .int) d_scn_scanQuoted_82 rfl rfl ?_
      rw [nI_1, pk_sub (by omega)]
      exact k
    · exact absurd (nI_le (Nat.le_refl _) (by omega)) c54
  | succ m ih =>
    intro i h t hS hg ht e hti k
    obtain ⟨hR, hc, hn, h40, hv⟩ := id hS
    refine rp_iload_n (i := 3) d_scn_scanQuoted_52 rfl rfl ?_
    refine rp_iload_n (i := 2) d_scn_scanQuoted_53 rfl rfl ?_
    refine rp_icmp_ge (tgt := 77) d_scn_scanQuoted_54 (by decide) (fun c54 => ?_) (fun c54 => ?_)
    · exact absurd c54 (nI_ge (by omega) (by omega))
    · refine rp_aload_n (i := 0) d_scn_scanQuoted_57 rfl rfl ?_
      refine rp_getR d_scn_scanQuoted_58 f_scn_9 rfl (hR _ _ _ rfl) ?_
      refine rp_iconst (v := 1) d_scn_scanQuoted_61 (by decide) ?_
      refine rp_aload_n (i := 0) d_scn_scanQuoted_62 rfl rfl ?_
      refine rp_iload_n (i := 3) d_scn_scanQuoted_63 rfl rfl ?_
      refine rp_callV1 d_scn_scanQuoted_64 q_scn_scanQuoted_38 (Or.inl ⟨_, _, _, rfl, rfl⟩) (Nat.le_of_ble_eq_true rfl) (Nat.le_of_ble_eq_true rfl) ?_
      refine s_scn_at hS (j := i) (rfl) (by omega) ?_
      refine rp_iconst (v := 0) d_scn_scanQuoted_67 (by decide) ?_
      refine rp_callV3 d_scn_scanQuoted_68 q_scn_scanQuoted_71 (Or.inl ⟨_, _, _, rfl, rfl⟩) (Nat.le_of_ble_eq_true rfl) (Nat.le_of_ble_eq_true rfl) ?_
      refine s_tok_add hR ht (by omega) ?_
      refine rp_iinc (i := 3) (y := 1) d_scn_scanQuoted_71 rfl (by decide) rfl (Nat.le_of_ble_eq_true rfl) ?_
      refine rp_goto (tgt := 52) d_scn_scanQuoted_74 (by decide) ?_
      refine rp_lv [(0, .ref 6), (1, .int (nI p)), (2, .int (nI q)), (3, .int (nI (i + 1)))] (by simp only [nI_succ]; rfl) ?_
      rw [hg]
      exact ih (i + 1) _ (t + 1) (c_S_add hS _ _ _) (c_g_add.trans hg) (f_add_t ht) (by omega) (by omega) k
set_option maxHeartbeats 4000000 in
set_option maxRecDepth 100000 in
theorem s_scn_scanQuoted {h : cf_H} {P : Option Value → cf_H → Prop} {n : Nat} (hS : c_S h n) {t : Nat} (ht : h.1 2 3 = nI t) (ht40 : t < 40) {x : Int32} {p : Nat} (hx : x = nI p) (hp : p < n) (htp : t ≤ p) (k : P (some (.int (c_w (c_qt (c_g h n) n p)))) (c_st h (c_qt (c_g h n) n p))) : RP k_scn_scanQuoted 0 [(0, .ref 6), (1, .int x)] [] h P := by
  subst hx
  obtain ⟨hR, hc, hn, h40, hv⟩ := id hS
  refine rp_iload_n (i := 1) d_scn_scanQuoted_0 rfl rfl ?_
  refine rp_iconst (v := 1) d_scn_scanQuoted_1 (by decide) ?_
  refine rp_iadd d_scn_scanQuoted_2 ?_
  refine rp_istore_n (i := 2) d_scn_scanQuoted_3 rfl rfl (Nat.le_of_ble_eq_true rfl) ?_
  refine rp_lv [(0, .ref 6), (1, .int (nI p)), (2, .int (nI (p + 1)))] (by simp only [nI_succ]; rfl) ?_
  refine l_scn_q1 hS (n - (p + 1)) (p + 1) rfl (by omega) ?_
  have hle := cf_fst_le (fun j => decide (c_g h n j = 34)) (n - (p + 1)) (p + 1)
  have hge := cf_fst_ge (fun j => decide (c_g h n j = 34)) (n - (p + 1)) (p + 1)
  unfold c_qt at k
  generalize cf_fst (fun j => decide (c_g h n j = 34)) (p + 1) (n - (p + 1)) = q at k hle hge ⊢
  refine rp_iload_n (i := 2) d_scn_scanQuoted_28 rfl rfl ?_
  refine rp_aload_n (i := 0) d_scn_scanQuoted_29 rfl rfl ?_
  refine rp_getI d_scn_scanQuoted_30 f_scn_19 rfl ?_
  refine rp_icmp_lt (tgt := 38) d_scn_scanQuoted_33 (by decide) (fun c33 => ?_) (fun c33 => ?_)
  · refine rp_aload_n (i := 0) d_scn_scanQuoted_38 rfl rfl ?_
    refine rp_getR d_scn_scanQuoted_39 f_scn_9 rfl (hR _ _ _ rfl) ?_
    refine rp_iconst (v := 0) d_scn_scanQuoted_42 (by decide) ?_
    refine rp_iconst (v := 0) d_scn_scanQuoted_43 (by decide) ?_
    refine rp_iconst (v := 0) d_scn_scanQuoted_44 (by decide) ?_
    refine rp_callV3 d_scn_scanQuoted_45 q_scn_scanQuoted_71 (Or.inl ⟨_, _, _, rfl, rfl⟩) (Nat.le_of_ble_eq_true rfl) (Nat.le_of_ble_eq_true rfl) ?_
    replace c33 : q < n := by rw [hn, nI_ltI (by omega) (by omega)] at c33; exact c33
    rw [if_pos c33] at k
    refine s_tok_add hR ht ht40 ?_
    refine rp_iload_n (i := 1) d_scn_scanQuoted_48 rfl rfl ?_
    refine rp_iconst (v := 1) d_scn_scanQuoted_49 (by decide) ?_
    refine rp_iadd d_scn_scanQuoted_50 ?_
    refine rp_istore_n (i := 3) d_scn_scanQuoted_51 rfl rfl (Nat.le_of_ble_eq_true rfl) ?_
    refine rp_lv [(0, .ref 6), (1, .int (nI p)), (2, .int (nI q)), (3, .int (nI (p + 1)))] (by simp only [nI_succ]; rfl) ?_
    exact l_scn_q2 (by omega) (by omega) (q - (p + 1)) (p + 1) _ (t + 1) (c_S_add hS _ _ _) c_g_add (f_add_t ht) (by omega) (by omega) k
  · refine rp_iconst (v := 0) d_scn_scanQuoted_36 (by decide) ?_
    refine rp_ireturn (ty := .int) d_scn_scanQuoted_37 rfl rfl ?_
    rw [hn, nI_ltI (by omega) (by omega)] at c33
    rw [if_neg c33] at k
    exact k
set_option maxHeartbeats 4000000 in
set_option maxRecDepth 100000 in
theorem s_scn_scanToken {h : cf_H} {P : Option Value → cf_H → Prop} {n : Nat} (hS : c_S h n) {t : Nat} (ht : h.1 2 3 = nI t) (ht40 : t < 40) {x : Int32} {p : Nat} (hx : x = nI p) (hp : p < n) (htp : t ≤ p) (k : P (some (.int (c_w (c_tk (c_g h n) n p)))) (c_st h (c_tk (c_g h n) n p))) : RP k_scn_scanToken 0 [(0, .ref 6), (1, .int x)] [] h P := by
  subst hx
  obtain ⟨hR, hc, hn, h40, hv⟩ := id hS
  obtain ⟨q, hq, eq⟩ := c_g127 hS p
  have hfl := j_fl q hq
  rw [← eq] at hfl
  refine rp_aload_n (i := 0) d_scn_scanToken_0 rfl rfl ?_
  refine rp_iload_n (i := 1) d_scn_scanToken_1 rfl rfl ?_
  refine rp_callV1 d_scn_scanToken_2 q_scn_scanToken_38 (Or.inl ⟨_, _, _, rfl, rfl⟩) (Nat.le_of_ble_eq_true rfl) (Nat.le_of_ble_eq_true rfl) ?_
  refine s_scn_at hS (j := p) (rfl) (by omega) ?_
  refine rp_istore_n (i := 2) d_scn_scanToken_5 rfl rfl (Nat.le_of_ble_eq_true rfl) ?_
  refine rp_iload_n (i := 2) d_scn_scanToken_6 rfl rfl ?_
  refine rp_bipush (v := 34) d_scn_scanToken_7 (by decide) ?_
  refine rp_icmp_ne (tgt := 18) d_scn_scanToken_9 (by decide) (fun c9 => ?_) (fun c9 => ?_)
  · refine rp_iload_n (i := 2) d_scn_scanToken_18 rfl rfl ?_
    refine rp_bipush (v := 92) d_scn_scanToken_19 (by decide) ?_
    refine rp_icmp_eq (tgt := 30) d_scn_scanToken_21 (by decide) (fun c21 => ?_) (fun c21 => ?_)
    · refine rp_aload_n (i := 0) d_scn_scanToken_30 rfl rfl ?_
      refine rp_iload_n (i := 1) d_scn_scanToken_31 rfl rfl ?_
      refine rp_callV1 d_scn_scanToken_32 q_scn_scanToken_45 (Or.inl ⟨_, _, _, rfl, rfl⟩) (Nat.le_of_ble_eq_true rfl) (Nat.le_of_ble_eq_true rfl) ?_
      rw [show c_tk (c_g h n) n p = (if p + 1 < n then some ([(1, (if c_g h n p = 95 then 32 else c_g h n (p + 1)), 0)], 2) else none) by rw [c_tk, if_neg c9, if_pos (by simp [c9, c21])]] at k
      refine s_scn_scanEscaped hS ht ht40 rfl (by omega) ?_
      by_cases e1 : p + 1 < n
      · rw [if_pos e1] at k ⊢
        rw [if_pos e1]
        refine rp_ireturn (ty := .int) d_scn_scanToken_35 rfl rfl ?_
        exact k
      · rw [if_neg e1] at k ⊢
        rw [if_neg e1]
        refine rp_ireturn (ty := .int) d_scn_scanToken_35 rfl rfl ?_
        exact k
    · refine rp_iload_n (i := 2) d_scn_scanToken_24 rfl rfl ?_
      refine rp_bipush (v := 95) d_scn_scanToken_25 (by decide) ?_
      refine rp_icmp_ne (tgt := 36) d_scn_scanToken_27 (by decide) (fun c27 => ?_) (fun c27 => ?_)
      · refine rp_iload_n (i := 2) d_scn_scanToken_36 rfl rfl ?_
        refine rp_bipush (v := 91) d_scn_scanToken_37 (by decide) ?_
        refine rp_icmp_ne (tgt := 48) d_scn_scanToken_39 (by decide) (fun c39 => ?_) (fun c39 => ?_)
        · refine rp_iload_n (i := 2) d_scn_scanToken_48 rfl rfl ?_
          refine rp_bipush (v := 69) d_scn_scanToken_49 (by decide) ?_
          refine rp_icmp_ne (tgt := 60) d_scn_scanToken_51 (by decide) (fun c51 => ?_) (fun c51 => ?_)
          · refine rp_iload_n (i := 2) d_scn_scanToken_60 rfl rfl ?_
            refine rp_bipush (v := 65) d_scn_scanToken_61 (by decide) ?_
            refine rp_icmp_ne (tgt := 72) d_scn_scanToken_63 (by decide) (fun c63 => ?_) (fun c63 => ?_)
            · refine rp_ldcS (i := 2) d_scn_scanToken_72 rfl ?_
              refine rp_iload_n (i := 2) d_scn_scanToken_74 rfl rfl ?_
              refine rp_callV1 d_scn_scanToken_75 q_scn_scanToken_59 (Or.inr ⟨2, _, rfl, rfl, rfl⟩) (Nat.le_of_ble_eq_true rfl) (Nat.le_of_ble_eq_true rfl) ?_
              refine s_str_indexOf_I (L := 5) rfl rfl (by decide) (by decide) ?_
              refine rp_if_lt (tgt := 87) d_scn_scanToken_78 (by decide) (fun c78 => ?_) (fun c78 => ?_)
              · refine rp_aload_n (i := 0) d_scn_scanToken_87 rfl rfl ?_
                refine rp_iload_n (i := 2) d_scn_scanToken_88 rfl rfl ?_
                refine rp_callV1 d_scn_scanToken_89 q_scn_scanToken_67 (Or.inl ⟨_, _, _, rfl, rfl⟩) (Nat.le_of_ble_eq_true rfl) (Nat.le_of_ble_eq_true rfl) ?_
                rw [c_tk, if_neg c9, if_neg (by simp [c9, c21, c27, c39, c51, c63, c78]), if_neg c39, if_neg c51, if_neg c63, if_neg (hfl.mp c78)] at k
                refine s_scn_scanSingle hS ht ht40 ⟨q, hq, eq⟩ ?_
                revert k
                cases c_sgl (c_g h n p)
                · intro k
                  refine rp_ireturn (ty := .int) d_scn_scanToken_92 rfl rfl ?_
                  exact k
                · intro k
                  refine rp_ireturn (ty := .int) d_scn_scanToken_92 rfl rfl ?_
                  exact k
              · refine rp_aload_n (i := 0) d_scn_scanToken_81 rfl rfl ?_
                refine rp_iload_n (i := 1) d_scn_scanToken_82 rfl rfl ?_
                refine rp_callV1 d_scn_scanToken_83 q_scn_scanToken_64 (Or.inl ⟨_, _, _, rfl, rfl⟩) (Nat.le_of_ble_eq_true rfl) (Nat.le_of_ble_eq_true rfl) ?_
                rw [c_tk, if_neg c9, if_neg (by simp [c9, c21, c27, c39, c51, c63, c78]), if_neg c39, if_neg c51, if_neg c63, if_pos (Decidable.not_not.mp (fun z => c78 (hfl.mpr z)))] at k
                refine s_scn_scanField hS ht ht40 rfl hp ?_
                revert k
                cases r_fit (c_g h n p) (nI (r_same (c_g h n) (c_g h n p) p (n - p)))
                · intro k
                  refine rp_ireturn (ty := .int) d_scn_scanToken_86 rfl rfl ?_
                  exact k
                · intro k
                  refine rp_ireturn (ty := .int) d_scn_scanToken_86 rfl rfl ?_
                  exact k
            · refine rp_aload_n (i := 0) d_scn_scanToken_66 rfl rfl ?_
              refine rp_iload_n (i := 1) d_scn_scanToken_67 rfl rfl ?_
              refine rp_callV1 d_scn_scanToken_68 q_scn_scanToken_54 (Or.inl ⟨_, _, _, rfl, rfl⟩) (Nat.le_of_ble_eq_true rfl) (Nat.le_of_ble_eq_true rfl) ?_
              rw [show c_tk (c_g h n) n p = (bif c_mer (c_g h n) p 0 5 then some ([(10, 65, 0)], 5) else none) by rw [c_tk, if_neg c9, if_neg (by simp [c9, c21, c27, c39, c51, c63]), if_neg c39, if_neg c51, if_pos c63]] at k
              refine s_scn_scanMeridiem hS ht ht40 rfl (by omega) ?_
              revert k
              cases c_mer (c_g h n) p 0 5
              · intro k
                refine rp_ireturn (ty := .int) d_scn_scanToken_71 rfl rfl ?_
                exact k
              · intro k
                refine rp_ireturn (ty := .int) d_scn_scanToken_71 rfl rfl ?_
                exact k
          · refine rp_aload_n (i := 0) d_scn_scanToken_54 rfl rfl ?_
            refine rp_iload_n (i := 1) d_scn_scanToken_55 rfl rfl ?_
            refine rp_callV1 d_scn_scanToken_56 q_scn_scanToken_51 (Or.inl ⟨_, _, _, rfl, rfl⟩) (Nat.le_of_ble_eq_true rfl) (Nat.le_of_ble_eq_true rfl) ?_
            rw [show c_tk (c_g h n) n p = (if c_g h n (p + 1) = 43 ∨ c_g h n (p + 1) = 45 then some ([(6, c_g h n (p + 1), 0)], 2) else none) by rw [c_tk, if_neg c9, if_neg (by simp [c9, c21, c27, c39, c51]), if_neg c39, if_pos c51]] at k
            refine s_scn_scanExponent hS ht ht40 rfl (by omega) ?_
            by_cases e1 : c_g h n (p + 1) = 43 ∨ c_g h n (p + 1) = 45
            · rw [if_pos e1] at k ⊢
              rw [if_pos e1]
              refine rp_ireturn (ty := .int) d_scn_scanToken_59 rfl rfl ?_
              exact k
            · rw [if_neg e1] at k ⊢
              rw [if_neg e1]
              refine rp_ireturn (ty := .int) d_scn_scanToken_59 rfl rfl ?_
              exact k
        · refine rp_aload_n (i := 0) d_scn_scanToken_42 rfl rfl ?_
          refine rp_iload_n (i := 1) d_scn_scanToken_43 rfl rfl ?_
          refine rp_callV1 d_scn_scanToken_44 q_scn_scanToken_48 (Or.inl ⟨_, _, _, rfl, rfl⟩) (Nat.le_of_ble_eq_true rfl) (Nat.le_of_ble_eq_true rfl) ?_
          rw [show c_tk (c_g h n) n p = c_br (c_g h n) p by rw [c_tk, if_neg c9, if_neg (by simp [c9, c21, c27, c39]), if_pos c39]] at k
          refine s_scn_scanBracket hS ht ht40 rfl (by omega) ?_
          refine rp_ireturn (ty := .int) d_scn_scanToken_47 rfl rfl ?_
          exact k
      · refine rp_aload_n (i := 0) d_scn_scanToken_30 rfl rfl ?_
        refine rp_iload_n (i := 1) d_scn_scanToken_31 rfl rfl ?_
        refine rp_callV1 d_scn_scanToken_32 q_scn_scanToken_45 (Or.inl ⟨_, _, _, rfl, rfl⟩) (Nat.le_of_ble_eq_true rfl) (Nat.le_of_ble_eq_true rfl) ?_
        rw [show c_tk (c_g h n) n p = (if p + 1 < n then some ([(1, (if c_g h n p = 95 then 32 else c_g h n (p + 1)), 0)], 2) else none) by rw [c_tk, if_neg c9, if_pos (by simp [c9, c21, c27])]] at k
        refine s_scn_scanEscaped hS ht ht40 rfl (by omega) ?_
        by_cases e1 : p + 1 < n
        · rw [if_pos e1] at k ⊢
          rw [if_pos e1]
          refine rp_ireturn (ty := .int) d_scn_scanToken_35 rfl rfl ?_
          exact k
        · rw [if_neg e1] at k ⊢
          rw [if_neg e1]
          refine rp_ireturn (ty := .int) d_scn_scanToken_35 rfl rfl ?_
          exact k
  · refine rp_aload_n (i := 0) d_scn_scanToken_12 rfl rfl ?_
    refine rp_iload_n (i := 1) d_scn_scanToken_13 rfl rfl ?_
    refine rp_callV1 d_scn_scanToken_14 q_scn_scanToken_42 (Or.inl ⟨_, _, _, rfl, rfl⟩) (Nat.le_of_ble_eq_true rfl) (Nat.le_of_ble_eq_true rfl) ?_
    rw [show c_tk (c_g h n) n p = c_qt (c_g h n) n p by rw [c_tk, if_pos c9]] at k
    refine s_scn_scanQuoted hS ht ht40 rfl hp htp ?_
    refine rp_ireturn (ty := .int) d_scn_scanToken_17 rfl rfl ?_
    exact k
