/-! THE REFERENCE: scanning -/
def cf_b (b : Bool) : Int32 := bif b then 1 else 0
def r_at (c : Nat → Int32) (n j : Nat) : Int32 := if j < n then c j else 0
abbrev r_g (h : cf_H) (n : Nat) : Nat → Int32 := r_at (h.2.2.2 20) n
def r_cmp (g : Nat → Int32) (j : Nat) : Int32 := if g j = 60 then (if g (j + 1) = 61 then 2 else if g (j + 1) = 62 then 6 else 1) else if g j = 62 then (if g (j + 1) = 61 then 4 else 3) else if g j = 61 then 5 else 0
def r_dg (x : Int32) : Bool := !decide (x < 48) && !decide (57 < x)
def r_run (g : Nat → Int32) : Nat → Nat → Nat
  | _, 0 => 0
  | q, k + 1 => bif r_dg (g q) then 1 + r_run g (q + 1) k else 0
def r_val (g : Nat → Int32) : Nat → Nat → Int32 → Int32
  | _, 0, a => a
  | q, m + 1, a => r_val g (q + 1) m (10 * a + g q - 48)
theorem r_run_le (g : Nat → Int32) : ∀ k q, r_run g q k ≤ k := by
  intro k
  induction k with
  | zero => intro q; exact Nat.le_refl _
  | succ k ih =>
    intro q
    unfold r_run
    cases r_dg (g q) with
    | false => exact Nat.zero_le _
    | true => have := ih (q + 1); show 1 + _ ≤ _; omega
abbrev r_T : Type := Int32 × Int32 × Int32 × Nat
def r_meet (h : cf_H) (a b c d : Int32) : cf_H := cf_pI (cf_pI (cf_pI (cf_pI h 19 11 a) 19 12 b) 19 13 c) 19 10 d
def r_put (h : cf_H) (t : r_T) : cf_H := if t.1 = 0 then h else r_meet h t.1 t.2.1 t.2.2.1 (nI t.2.2.2)
def r_brk2 (g : Nat → Int32) (how : Int32) (q0 : Nat) : r_T :=
  if g q0 = 45 then (if 1 ≤ r_run g (q0 + 1) 7 ∧ r_run g (q0 + 1) 7 ≤ 6 ∧ g (q0 + 1 + r_run g (q0 + 1) 7) = 93 then (7, how, - r_val g (q0 + 1) (r_run g (q0 + 1) 7) 0, q0 + 1 + r_run g (q0 + 1) 7 + 1) else (0, 0, 0, 0))
  else (if 1 ≤ r_run g q0 7 ∧ r_run g q0 7 ≤ 6 ∧ g (q0 + r_run g q0 7) = 93 then (7, how, r_val g q0 (r_run g q0 7) 0, q0 + r_run g q0 7 + 1) else (0, 0, 0, 0))
def r_brk (g : Nat → Int32) (p : Nat) : r_T :=
  if (g (p + 1) = 104 ∨ g (p + 1) = 109 ∨ g (p + 1) = 115) ∧ g (p + 2) = 93 then (8, g (p + 1), 0, p + 3)
  else if r_cmp g (p + 1) = 0 then (0, 0, 0, 0)
  else r_brk2 g (r_cmp g (p + 1)) (if r_cmp g (p + 1) = 2 ∨ r_cmp g (p + 1) = 4 ∨ r_cmp g (p + 1) = 6 then p + 3 else p + 2)

set_option maxHeartbeats 4000000 in
set_option maxRecDepth 100000 in
theorem s_mod_at {h : cf_H} {P : Option Value → cf_H → Prop} (hR : cf_ok h) {n : Nat} (hn : h.1 19 0 = nI n) (h40 : n ≤ 40) {x : Int32} {j : Nat} (hx : x = nI j) (hj : j < 2 ^ 30) (k : P (some (.int (r_g h n j))) h) : RP k_mod_at 0 [(0, .ref 19), (1, .int x)] [] h P := by
  subst hx
  rcases Nat.lt_or_ge j n with hlt | hge
  · rw [r_g, r_at, if_pos hlt] at k
    refine rp_iload_n (i := 1) d_mod_at_0 rfl rfl ?_
    refine rp_aload_n (i := 0) d_mod_at_1 rfl rfl ?_
    refine rp_getI d_mod_at_2 f_mod_36 rfl ?_
    refine rp_icmp_ge (tgt := 17) d_mod_at_5 (by decide) (fun c5 => ?_) (fun c5 => ?_)
    · exact absurd c5 (by rw [hn]; exact nI_ge hlt (by omega))
    · refine rp_aload_n (i := 0) d_mod_at_8 rfl rfl ?_
      refine rp_getR d_mod_at_9 f_mod_7 rfl (hR _ _ _ rfl) ?_
      refine rp_iload_n (i := 1) d_mod_at_12 rfl rfl ?_
      refine rp_iaload d_mod_at_13 rfl (vp_in_nI (by omega) (by omega)) ?_
      refine rp_goto (tgt := 18) d_mod_at_14 (by decide) ?_
      refine rp_ireturn (ty := .int) d_mod_at_18 rfl rfl ?_
      rw [nI_clamp (by omega)]; exact k
  · rw [r_g, r_at, if_neg (by omega)] at k
    refine rp_iload_n (i := 1) d_mod_at_0 rfl rfl ?_
    refine rp_aload_n (i := 0) d_mod_at_1 rfl rfl ?_
    refine rp_getI d_mod_at_2 f_mod_36 rfl ?_
    refine rp_icmp_ge (tgt := 17) d_mod_at_5 (by decide) (fun c5 => ?_) (fun c5 => ?_)
    · refine rp_iconst (v := 0) d_mod_at_17 (by decide) ?_
      refine rp_ireturn (ty := .int) d_mod_at_18 rfl rfl ?_
      exact k
    · exact absurd (by rw [hn]; exact nI_le hge (by omega)) c5
set_option maxHeartbeats 4000000 in
set_option maxRecDepth 100000 in
theorem s_mod_meet {h : cf_H} {P : Option Value → cf_H → Prop} {a b c d : Int32} (k : P none (r_meet h a b c d)) : RP k_mod_meet 0 [(0, .ref 19), (1, .int a), (2, .int b), (3, .int c), (4, .int d)] [] h P := by
  refine rp_aload_n (i := 0) d_mod_meet_0 rfl rfl ?_
  refine rp_iload_n (i := 1) d_mod_meet_1 rfl rfl ?_
  refine rp_putI d_mod_meet_2 f_mod_39 rfl rfl rfl ?_
  refine rp_aload_n (i := 0) d_mod_meet_5 rfl rfl ?_
  refine rp_iload_n (i := 2) d_mod_meet_6 rfl rfl ?_
  refine rp_putI d_mod_meet_7 f_mod_42 rfl rfl rfl ?_
  refine rp_aload_n (i := 0) d_mod_meet_10 rfl rfl ?_
  refine rp_iload_n (i := 3) d_mod_meet_11 rfl rfl ?_
  refine rp_putI d_mod_meet_12 f_mod_45 rfl rfl rfl ?_
  refine rp_aload_n (i := 0) d_mod_meet_15 rfl rfl ?_
  refine rp_iload (i := 4) d_mod_meet_16 rfl ?_
  refine rp_putI d_mod_meet_18 f_mod_48 rfl rfl rfl ?_
  refine rp_return d_mod_meet_21 rfl ?_
  exact k
set_option maxHeartbeats 4000000 in
set_option maxRecDepth 100000 in
theorem s_mod_digit {h : cf_H} {P : Option Value → cf_H → Prop} {x : Int32} (k : P (some (.int (cf_b (r_dg x)))) h) : RP k_mod_digit 0 [(0, .int x)] [] h P := by
  refine rp_iload_n (i := 0) d_mod_digit_0 rfl rfl ?_
  refine rp_bipush (v := 48) d_mod_digit_1 (by decide) ?_
  refine rp_icmp_lt (tgt := 16) d_mod_digit_3 (by decide) (fun c3 => ?_) (fun c3 => ?_)
  · refine rp_iconst (v := 0) d_mod_digit_16 (by decide) ?_
    refine rp_ireturn (ty := .boolean) d_mod_digit_17 rfl (by first | rfl | decide | assumption) ?_
    first | (simpa [cf_b, r_dg, c3, c9] using k) | (simpa [cf_b, r_dg, c3] using k)
  · refine rp_iload_n (i := 0) d_mod_digit_6 rfl rfl ?_
    refine rp_bipush (v := 57) d_mod_digit_7 (by decide) ?_
    refine rp_icmp_gt (tgt := 16) d_mod_digit_9 (by decide) (fun c9 => ?_) (fun c9 => ?_)
    · refine rp_iconst (v := 0) d_mod_digit_16 (by decide) ?_
      refine rp_ireturn (ty := .boolean) d_mod_digit_17 rfl (by first | rfl | decide | assumption) ?_
      first | (simpa [cf_b, r_dg, c3, c9] using k) | (simpa [cf_b, r_dg, c3] using k)
    · refine rp_iconst (v := 1) d_mod_digit_12 (by decide) ?_
      refine rp_goto (tgt := 17) d_mod_digit_13 (by decide) ?_
      refine rp_ireturn (ty := .boolean) d_mod_digit_17 rfl (by first | rfl | decide | assumption) ?_
      first | (simpa [cf_b, r_dg, c3, c9] using k) | (simpa [cf_b, r_dg, c3] using k)
set_option maxHeartbeats 4000000 in
set_option maxRecDepth 100000 in
theorem s_mod_comparison {h : cf_H} {P : Option Value → cf_H → Prop} (hR : cf_ok h) {n : Nat} (hn : h.1 19 0 = nI n) (h40 : n ≤ 40) {x : Int32} {j : Nat} (hx : x = nI j) (hj : j < 2 ^ 29) (k : P (some (.int (r_cmp (r_g h n) j))) h) : RP k_mod_comparison 0 [(0, .ref 19), (1, .int x)] [] h P := by
  subst hx
  refine rp_aload_n (i := 0) d_mod_comparison_0 rfl rfl ?_
  refine rp_iload_n (i := 1) d_mod_comparison_1 rfl rfl ?_
  refine rp_callV1 d_mod_comparison_2 q_mod_comparison_51 (Or.inl ⟨_, _, _, rfl, rfl⟩) (Nat.le_of_ble_eq_true rfl) (Nat.le_of_ble_eq_true rfl) ?_
  refine s_mod_at (j := j) hR hn h40 (rfl) (by omega) ?_
  refine rp_istore_n (i := 2) d_mod_comparison_5 rfl rfl (Nat.le_of_ble_eq_true rfl) ?_
  refine rp_aload_n (i := 0) d_mod_comparison_6 rfl rfl ?_
  refine rp_iload_n (i := 1) d_mod_comparison_7 rfl rfl ?_
  refine rp_iconst (v := 1) d_mod_comparison_8 (by decide) ?_
  refine rp_iadd d_mod_comparison_9 ?_
  refine rp_callV1 d_mod_comparison_10 q_mod_comparison_51 (Or.inl ⟨_, _, _, rfl, rfl⟩) (Nat.le_of_ble_eq_true rfl) (Nat.le_of_ble_eq_true rfl) ?_
  refine s_mod_at (j := j + 1) hR hn h40 (nI_add j 1) (by omega) ?_
  refine rp_istore_n (i := 3) d_mod_comparison_13 rfl rfl (Nat.le_of_ble_eq_true rfl) ?_
  refine rp_iload_n (i := 2) d_mod_comparison_14 rfl rfl ?_
  refine rp_bipush (v := 60) d_mod_comparison_15 (by decide) ?_
  refine rp_icmp_ne (tgt := 43) d_mod_comparison_17 (by decide) (fun c17 => ?_) (fun c17 => ?_)
  · refine rp_iload_n (i := 2) d_mod_comparison_43 rfl rfl ?_
    refine rp_bipush (v := 62) d_mod_comparison_44 (by decide) ?_
    refine rp_icmp_ne (tgt := 61) d_mod_comparison_46 (by decide) (fun c46 => ?_) (fun c46 => ?_)
    · refine rp_iload_n (i := 2) d_mod_comparison_61 rfl rfl ?_
      refine rp_bipush (v := 61) d_mod_comparison_62 (by decide) ?_
      refine rp_icmp_ne (tgt := 71) d_mod_comparison_64 (by decide) (fun c64 => ?_) (fun c64 => ?_)
      · refine rp_iconst (v := 0) d_mod_comparison_71 (by decide) ?_
        refine rp_ireturn (ty := .int) d_mod_comparison_72 rfl rfl ?_
        simpa [r_cmp, c17, c46, c64] using k
      · refine rp_iconst (v := 5) d_mod_comparison_67 (by decide) ?_
        refine rp_goto (tgt := 72) d_mod_comparison_68 (by decide) ?_
        refine rp_ireturn (ty := .int) d_mod_comparison_72 rfl rfl ?_
        simpa [r_cmp, c17, c46, c64] using k
    · refine rp_iload_n (i := 3) d_mod_comparison_49 rfl rfl ?_
      refine rp_bipush (v := 61) d_mod_comparison_50 (by decide) ?_
      refine rp_icmp_ne (tgt := 59) d_mod_comparison_52 (by decide) (fun c52 => ?_) (fun c52 => ?_)
      · refine rp_iconst (v := 3) d_mod_comparison_59 (by decide) ?_
        refine rp_ireturn (ty := .int) d_mod_comparison_60 rfl rfl ?_
        simpa [r_cmp, c17, c46, c52] using k
      · refine rp_iconst (v := 4) d_mod_comparison_55 (by decide) ?_
        refine rp_goto (tgt := 60) d_mod_comparison_56 (by decide) ?_
        refine rp_ireturn (ty := .int) d_mod_comparison_60 rfl rfl ?_
        simpa [r_cmp, c17, c46, c52] using k
  · refine rp_iload_n (i := 3) d_mod_comparison_20 rfl rfl ?_
    refine rp_bipush (v := 61) d_mod_comparison_21 (by decide) ?_
    refine rp_icmp_ne (tgt := 30) d_mod_comparison_23 (by decide) (fun c23 => ?_) (fun c23 => ?_)
    · refine rp_iload_n (i := 3) d_mod_comparison_30 rfl rfl ?_
      refine rp_bipush (v := 62) d_mod_comparison_31 (by decide) ?_
      refine rp_icmp_ne (tgt := 41) d_mod_comparison_33 (by decide) (fun c33 => ?_) (fun c33 => ?_)
      · refine rp_iconst (v := 1) d_mod_comparison_41 (by decide) ?_
        refine rp_ireturn (ty := .int) d_mod_comparison_42 rfl rfl ?_
        simpa [r_cmp, c17, c23, c33] using k
      · refine rp_bipush (v := 6) d_mod_comparison_36 (by decide) ?_
        refine rp_goto (tgt := 42) d_mod_comparison_38 (by decide) ?_
        refine rp_ireturn (ty := .int) d_mod_comparison_42 rfl rfl ?_
        simpa [r_cmp, c17, c23, c33] using k
    · refine rp_iconst (v := 2) d_mod_comparison_26 (by decide) ?_
      refine rp_goto (tgt := 42) d_mod_comparison_27 (by decide) ?_
      refine rp_ireturn (ty := .int) d_mod_comparison_42 rfl rfl ?_
      simpa [r_cmp, c17, c23] using k
set_option maxHeartbeats 4000000 in
set_option maxRecDepth 100000 in
theorem l_mod_bracket {h : cf_H} {P : Option Value → cf_H → Prop} (hR : cf_ok h) {n : Nat} (hn : h.1 19 0 = nI n) (h40 : n ≤ 40) {p : Nat} {how mi : Int32} : ∀ (r q d : Nat) (v : Int32), d + r = 7 → q + r < 2 ^ 28 → (k : RP k_mod_bracket 175 [(0, .ref 19), (1, .int (nI p)), (3, .int how), (4, .int (nI (q + r_run (r_g h n) q r))), (5, .int mi), (6, .int (r_val (r_g h n) q (r_run (r_g h n) q r) v)), (7, .int (nI (d + r_run (r_g h n) q r)))] [] h P) → RP k_mod_bracket 130 [(0, .ref 19), (1, .int (nI p)), (3, .int how), (4, .int (nI q)), (5, .int mi), (6, .int v), (7, .int (nI d))] [] h P := by
  intro r
  induction r with
  | zero =>
    intro q d v e hq k
    have e : d = 7 := e
    subst e
    refine rp_aload_n (i := 0) d_mod_bracket_130 rfl rfl ?_
    refine rp_iload (i := 4) d_mod_bracket_131 rfl ?_
    refine rp_callV1 d_mod_bracket_133 q_mod_bracket_51 (Or.inl ⟨_, _, _, rfl, rfl⟩) (Nat.le_of_ble_eq_true rfl) (Nat.le_of_ble_eq_true rfl) ?_
    refine s_mod_at (j := q) hR hn h40 (rfl) (by omega) ?_
    refine rp_callS1 d_mod_bracket_136 q_mod_bracket_62 (Nat.le_of_ble_eq_true rfl) (Nat.le_of_ble_eq_true rfl) ?_
    refine s_mod_digit ?_
    refine rp_if_eq (tgt := 175) d_mod_bracket_139 (by decide) (fun c139 => ?_) (fun c139 => ?_)
    · exact rp_lv _ rfl k
    · refine rp_iload (i := 7) d_mod_bracket_142 rfl ?_
      refine rp_bipush (v := 7) d_mod_bracket_144 (by decide) ?_
      refine rp_icmp_ge (tgt := 175) d_mod_bracket_146 (by decide) (fun c146 => ?_) (fun c146 => ?_)
      · exact rp_lv _ rfl k
      · exact absurd (by decide) c146
  | succ r ih =>
    intro q d v e hq k
    refine rp_aload_n (i := 0) d_mod_bracket_130 rfl rfl ?_
    refine rp_iload (i := 4) d_mod_bracket_131 rfl ?_
    refine rp_callV1 d_mod_bracket_133 q_mod_bracket_51 (Or.inl ⟨_, _, _, rfl, rfl⟩) (Nat.le_of_ble_eq_true rfl) (Nat.le_of_ble_eq_true rfl) ?_
    refine s_mod_at (j := q) hR hn h40 (rfl) (by omega) ?_
    refine rp_callS1 d_mod_bracket_136 q_mod_bracket_62 (Nat.le_of_ble_eq_true rfl) (Nat.le_of_ble_eq_true rfl) ?_
    refine s_mod_digit ?_
    refine rp_if_eq (tgt := 175) d_mod_bracket_139 (by decide) (fun c139 => ?_) (fun c139 => ?_)
    · have hd : r_dg (r_g h n q) = false := by cases e2 : r_dg (r_g h n q) with | false => rfl | true => rw [e2] at c139; exact absurd c139 (by decide)
      rw [show r_run (r_g h n) q (r + 1) = 0 by rw [r_run, hd]; rfl] at k
      exact rp_lv _ rfl k
    · refine rp_iload (i := 7) d_mod_bracket_142 rfl ?_
      refine rp_bipush (v := 7) d_mod_bracket_144 (by decide) ?_
      refine rp_icmp_ge (tgt := 175) d_mod_bracket_146 (by decide) (fun c146 => ?_) (fun c146 => ?_)
      · exact absurd c146 (nI_ge (b := 7) (a := d) (by omega) (by decide))
      · refine rp_bipush (v := 10) d_mod_bracket_149 (by decide) ?_
        refine rp_iload (i := 6) d_mod_bracket_151 rfl ?_
        refine rp_imul d_mod_bracket_153 ?_
        refine rp_aload_n (i := 0) d_mod_bracket_154 rfl rfl ?_
        refine rp_iload (i := 4) d_mod_bracket_155 rfl ?_
        refine rp_callV1 d_mod_bracket_157 q_mod_bracket_51 (Or.inl ⟨_, _, _, rfl, rfl⟩) (Nat.le_of_ble_eq_true rfl) (Nat.le_of_ble_eq_true rfl) ?_
        refine s_mod_at (j := q) hR hn h40 (rfl) (by omega) ?_
        refine rp_iadd d_mod_bracket_160 ?_
        refine rp_bipush (v := 48) d_mod_bracket_161 (by decide) ?_
        refine rp_isub d_mod_bracket_163 ?_
        refine rp_istore (i := 6) d_mod_bracket_164 rfl (Nat.le_of_ble_eq_true rfl) ?_
        refine rp_iinc (i := 4) (y := 1) d_mod_bracket_166 rfl (by decide) rfl (Nat.le_of_ble_eq_true rfl) ?_
        refine rp_iinc (i := 7) (y := 1) d_mod_bracket_169 rfl (by decide) rfl (Nat.le_of_ble_eq_true rfl) ?_
        refine rp_goto (tgt := 130) d_mod_bracket_172 (by decide) ?_
        have hd : r_dg (r_g h n q) = true := by cases e2 : r_dg (r_g h n q) with | true => rfl | false => rw [e2] at c139; exact absurd rfl c139
        rw [show r_run (r_g h n) q (r + 1) = 1 + r_run (r_g h n) (q + 1) r by rw [r_run, hd]; rfl, Nat.add_comm 1, r_val] at k
        refine rp_lv [(0, .ref 19), (1, .int (nI p)), (3, .int how), (4, .int (nI (q + 1))), (5, .int mi), (6, .int (10 * v + r_g h n q - 48)), (7, .int (nI (d + 1)))] (by simp only [nI_succ]; rfl) ?_
        refine ih (q + 1) (d + 1) _ (by omega) (by omega) ?_
        rw [show q + 1 + r_run (r_g h n) (q + 1) r = q + (r_run (r_g h n) (q + 1) r + 1) by omega, show d + 1 + r_run (r_g h n) (q + 1) r = d + (r_run (r_g h n) (q + 1) r + 1) by omega]
        exact k
theorem r_put_0 (h : cf_H) (a b : Int32) (c : Nat) : r_put h (0, a, b, c) = h := by simp [r_put]
theorem r_put_1 (h : cf_H) {w a b : Int32} {c : Nat} (hw : ¬ w = 0) : r_put h (w, a, b, c) = r_meet h w a b (nI c) := by simp [r_put, hw]
set_option maxHeartbeats 4000000 in
set_option maxRecDepth 100000 in
theorem t_mod_bracket1 {h : cf_H} {P : Option Value → cf_H → Prop} (hR : cf_ok h) {n : Nat} (hn : h.1 19 0 = nI n) (h40 : n ≤ 40) {p q m : Nat} {how v : Int32} (hq : q < 2 ^ 28) (hm : m ≤ 7) (k : P none (r_put h (if 1 ≤ m ∧ m ≤ 6 ∧ r_g h n (q + m) = 93 then (7, how, -v, q + m + 1) else (0, 0, 0, 0)))) : RP k_mod_bracket 175 [(0, .ref 19), (1, .int (nI p)), (3, .int how), (4, .int (nI (q + m))), (5, .int 1), (6, .int v), (7, .int (nI m))] [] h P := by
  refine rp_iload (i := 7) d_mod_bracket_175 rfl ?_
  refine rp_iconst (v := 1) d_mod_bracket_177 (by decide) ?_
  refine rp_icmp_lt (tgt := 223) d_mod_bracket_178 (by decide) (fun c178 => ?_) (fun c178 => ?_)
  · refine rp_return d_mod_bracket_223 rfl ?_
    first
      | (rw [if_neg (fun z => absurd c178 (nI_nlt (a := m) (b := 1) z.1 (by omega))), r_put_0] at k; exact k)
      | (rw [if_neg (fun z => absurd c185 (nI_nlt (a := 6) (b := m) z.2.1 (by omega))), r_put_0] at k; exact k)
      | (rw [if_neg (fun z => c196 z.2.2), r_put_0] at k; exact k)
      | (rw [if_pos ⟨Nat.not_lt.mp (fun z => c178 (nI_lt (a := m) (b := 1) z (by omega))), Nat.not_lt.mp (fun z => c185 (nI_lt (a := 6) (b := m) z (by omega))), c196⟩, r_put_1 _ (by decide), nI_succ] at k; exact k)
  · refine rp_iload (i := 7) d_mod_bracket_181 rfl ?_
    refine rp_bipush (v := 6) d_mod_bracket_183 (by decide) ?_
    refine rp_icmp_gt (tgt := 223) d_mod_bracket_185 (by decide) (fun c185 => ?_) (fun c185 => ?_)
    · refine rp_return d_mod_bracket_223 rfl ?_
      first
        | (rw [if_neg (fun z => absurd c178 (nI_nlt (a := m) (b := 1) z.1 (by omega))), r_put_0] at k; exact k)
        | (rw [if_neg (fun z => absurd c185 (nI_nlt (a := 6) (b := m) z.2.1 (by omega))), r_put_0] at k; exact k)
        | (rw [if_neg (fun z => c196 z.2.2), r_put_0] at k; exact k)
        | (rw [if_pos ⟨Nat.not_lt.mp (fun z => c178 (nI_lt (a := m) (b := 1) z (by omega))), Nat.not_lt.mp (fun z => c185 (nI_lt (a := 6) (b := m) z (by omega))), c196⟩, r_put_1 _ (by decide), nI_succ] at k; exact k)
    · refine rp_aload_n (i := 0) d_mod_bracket_188 rfl rfl ?_
      refine rp_iload (i := 4) d_mod_bracket_189 rfl ?_
      refine rp_callV1 d_mod_bracket_191 q_mod_bracket_51 (Or.inl ⟨_, _, _, rfl, rfl⟩) (Nat.le_of_ble_eq_true rfl) (Nat.le_of_ble_eq_true rfl) ?_
      refine s_mod_at (j := q + m) hR hn h40 (rfl) (by omega) ?_
      refine rp_bipush (v := 93) d_mod_bracket_194 (by decide) ?_
      refine rp_icmp_ne (tgt := 223) d_mod_bracket_196 (by decide) (fun c196 => ?_) (fun c196 => ?_)
      · refine rp_return d_mod_bracket_223 rfl ?_
        first
          | (rw [if_neg (fun z => absurd c178 (nI_nlt (a := m) (b := 1) z.1 (by omega))), r_put_0] at k; exact k)
          | (rw [if_neg (fun z => absurd c185 (nI_nlt (a := 6) (b := m) z.2.1 (by omega))), r_put_0] at k; exact k)
          | (rw [if_neg (fun z => c196 z.2.2), r_put_0] at k; exact k)
          | (rw [if_pos ⟨Nat.not_lt.mp (fun z => c178 (nI_lt (a := m) (b := 1) z (by omega))), Nat.not_lt.mp (fun z => c185 (nI_lt (a := 6) (b := m) z (by omega))), c196⟩, r_put_1 _ (by decide), nI_succ] at k; exact k)
      · refine rp_aload_n (i := 0) d_mod_bracket_199 rfl rfl ?_
        refine rp_bipush (v := 7) d_mod_bracket_200 (by decide) ?_
        refine rp_iload_n (i := 3) d_mod_bracket_202 rfl rfl ?_
        refine rp_iload (i := 5) d_mod_bracket_203 rfl ?_
        refine rp_if_eq (tgt := 214) d_mod_bracket_205 (by decide) (fun c205 => ?_) (fun c205 => ?_)
        · exact absurd c205 (by decide)
        · refine rp_iload (i := 6) d_mod_bracket_208 rfl ?_
          refine rp_ineg d_mod_bracket_210 ?_
          refine rp_goto (tgt := 216) d_mod_bracket_211 (by decide) ?_
          refine rp_iload (i := 4) d_mod_bracket_216 rfl ?_
          refine rp_iconst (v := 1) d_mod_bracket_218 (by decide) ?_
          refine rp_iadd d_mod_bracket_219 ?_
          refine rp_callV4 d_mod_bracket_220 q_mod_bracket_55 (Or.inl ⟨_, _, _, rfl, rfl⟩) (Nat.le_of_ble_eq_true rfl) (Nat.le_of_ble_eq_true rfl) ?_
          refine s_mod_meet ?_
          refine rp_return d_mod_bracket_223 rfl ?_
          first
            | (rw [if_neg (fun z => absurd c178 (nI_nlt (a := m) (b := 1) z.1 (by omega))), r_put_0] at k; exact k)
            | (rw [if_neg (fun z => absurd c185 (nI_nlt (a := 6) (b := m) z.2.1 (by omega))), r_put_0] at k; exact k)
            | (rw [if_neg (fun z => c196 z.2.2), r_put_0] at k; exact k)
            | (rw [if_pos ⟨Nat.not_lt.mp (fun z => c178 (nI_lt (a := m) (b := 1) z (by omega))), Nat.not_lt.mp (fun z => c185 (nI_lt (a := 6) (b := m) z (by omega))), c196⟩, r_put_1 _ (by decide), nI_succ] at k; exact k)
set_option maxHeartbeats 4000000 in
set_option maxRecDepth 100000 in
theorem t_mod_bracket0 {h : cf_H} {P : Option Value → cf_H → Prop} (hR : cf_ok h) {n : Nat} (hn : h.1 19 0 = nI n) (h40 : n ≤ 40) {p q m : Nat} {how v : Int32} (hq : q < 2 ^ 28) (hm : m ≤ 7) (k : P none (r_put h (if 1 ≤ m ∧ m ≤ 6 ∧ r_g h n (q + m) = 93 then (7, how, v, q + m + 1) else (0, 0, 0, 0)))) : RP k_mod_bracket 175 [(0, .ref 19), (1, .int (nI p)), (3, .int how), (4, .int (nI (q + m))), (5, .int 0), (6, .int v), (7, .int (nI m))] [] h P := by
  refine rp_iload (i := 7) d_mod_bracket_175 rfl ?_
  refine rp_iconst (v := 1) d_mod_bracket_177 (by decide) ?_
  refine rp_icmp_lt (tgt := 223) d_mod_bracket_178 (by decide) (fun c178 => ?_) (fun c178 => ?_)
  · refine rp_return d_mod_bracket_223 rfl ?_
    first
      | (rw [if_neg (fun z => absurd c178 (nI_nlt (a := m) (b := 1) z.1 (by omega))), r_put_0] at k; exact k)
      | (rw [if_neg (fun z => absurd c185 (nI_nlt (a := 6) (b := m) z.2.1 (by omega))), r_put_0] at k; exact k)
      | (rw [if_neg (fun z => c196 z.2.2), r_put_0] at k; exact k)
      | (rw [if_pos ⟨Nat.not_lt.mp (fun z => c178 (nI_lt (a := m) (b := 1) z (by omega))), Nat.not_lt.mp (fun z => c185 (nI_lt (a := 6) (b := m) z (by omega))), c196⟩, r_put_1 _ (by decide), nI_succ] at k; exact k)
  · refine rp_iload (i := 7) d_mod_bracket_181 rfl ?_
    refine rp_bipush (v := 6) d_mod_bracket_183 (by decide) ?_
    refine rp_icmp_gt (tgt := 223) d_mod_bracket_185 (by decide) (fun c185 => ?_) (fun c185 => ?_)
    · refine rp_return d_mod_bracket_223 rfl ?_
      first
        | (rw [if_neg (fun z => absurd c178 (nI_nlt (a := m) (b := 1) z.1 (by omega))), r_put_0] at k; exact k)
        | (rw [if_neg (fun z => absurd c185 (nI_nlt (a := 6) (b := m) z.2.1 (by omega))), r_put_0] at k; exact k)
        | (rw [if_neg (fun z => c196 z.2.2), r_put_0] at k; exact k)
        | (rw [if_pos ⟨Nat.not_lt.mp (fun z => c178 (nI_lt (a := m) (b := 1) z (by omega))), Nat.not_lt.mp (fun z => c185 (nI_lt (a := 6) (b := m) z (by omega))), c196⟩, r_put_1 _ (by decide), nI_succ] at k; exact k)
    · refine rp_aload_n (i := 0) d_mod_bracket_188 rfl rfl ?_
      refine rp_iload (i := 4) d_mod_bracket_189 rfl ?_
      refine rp_callV1 d_mod_bracket_191 q_mod_bracket_51 (Or.inl ⟨_, _, _, rfl, rfl⟩) (Nat.le_of_ble_eq_true rfl) (Nat.le_of_ble_eq_true rfl) ?_
      refine s_mod_at (j := q + m) hR hn h40 (rfl) (by omega) ?_
      refine rp_bipush (v := 93) d_mod_bracket_194 (by decide) ?_
      refine rp_icmp_ne (tgt := 223) d_mod_bracket_196 (by decide) (fun c196 => ?_) (fun c196 => ?_)
      · refine rp_return d_mod_bracket_223 rfl ?_
        first
          | (rw [if_neg (fun z => absurd c178 (nI_nlt (a := m) (b := 1) z.1 (by omega))), r_put_0] at k; exact k)
          | (rw [if_neg (fun z => absurd c185 (nI_nlt (a := 6) (b := m) z.2.1 (by omega))), r_put_0] at k; exact k)
          | (rw [if_neg (fun z => c196 z.2.2), r_put_0] at k; exact k)
          | (rw [if_pos ⟨Nat.not_lt.mp (fun z => c178 (nI_lt (a := m) (b := 1) z (by omega))), Nat.not_lt.mp (fun z => c185 (nI_lt (a := 6) (b := m) z (by omega))), c196⟩, r_put_1 _ (by decide), nI_succ] at k; exact k)
      · refine rp_aload_n (i := 0) d_mod_bracket_199 rfl rfl ?_
        refine rp_bipush (v := 7) d_mod_bracket_200 (by decide) ?_
        refine rp_iload_n (i := 3) d_mod_bracket_202 rfl rfl ?_
        refine rp_iload (i := 5) d_mod_bracket_203 rfl ?_
        refine rp_if_eq (tgt := 214) d_mod_bracket_205 (by decide) (fun c205 => ?_) (fun c205 => ?_)
        · refine rp_iload (i := 6) d_mod_bracket_214 rfl ?_
          refine rp_iload (i := 4) d_mod_bracket_216 rfl ?_
          refine rp_iconst (v := 1) d_mod_bracket_218 (by decide) ?_
          refine rp_iadd d_mod_bracket_219 ?_
          refine rp_callV4 d_mod_bracket_220 q_mod_bracket_55 (Or.inl ⟨_, _, _, rfl, rfl⟩) (Nat.le_of_ble_eq_true rfl) (Nat.le_of_ble_eq_true rfl) ?_
          refine s_mod_meet ?_
          refine rp_return d_mod_bracket_223 rfl ?_
          first
            | (rw [if_neg (fun z => absurd c178 (nI_nlt (a := m) (b := 1) z.1 (by omega))), r_put_0] at k; exact k)
            | (rw [if_neg (fun z => absurd c185 (nI_nlt (a := 6) (b := m) z.2.1 (by omega))), r_put_0] at k; exact k)
            | (rw [if_neg (fun z => c196 z.2.2), r_put_0] at k; exact k)
            | (rw [if_pos ⟨Nat.not_lt.mp (fun z => c178 (nI_lt (a := m) (b := 1) z (by omega))), Nat.not_lt.mp (fun z => c185 (nI_lt (a := 6) (b := m) z (by omega))), c196⟩, r_put_1 _ (by decide), nI_succ] at k; exact k)
        · exact absurd rfl c205
set_option maxHeartbeats 4000000 in
set_option maxRecDepth 100000 in
theorem l_mod_bracket88 {h : cf_H} {P : Option Value → cf_H → Prop} (hR : cf_ok h) {n : Nat} (hn : h.1 19 0 = nI n) (h40 : n ≤ 40) {p q0 : Nat} {how : Int32} (hq : q0 < 2 ^ 27) (k : P none (r_put h (r_brk2 (r_g h n) how q0))) : RP k_mod_bracket 88 [(0, .ref 19), (1, .int (nI p)), (3, .int how)] [.int (nI q0)] h P := by
  refine rp_istore (i := 4) d_mod_bracket_88 rfl (Nat.le_of_ble_eq_true rfl) ?_
  refine rp_aload_n (i := 0) d_mod_bracket_90 rfl rfl ?_
  refine rp_iload (i := 4) d_mod_bracket_91 rfl ?_
  refine rp_callV1 d_mod_bracket_93 q_mod_bracket_51 (Or.inl ⟨_, _, _, rfl, rfl⟩) (Nat.le_of_ble_eq_true rfl) (Nat.le_of_ble_eq_true rfl) ?_
  refine s_mod_at (j := q0) hR hn h40 (rfl) (by omega) ?_
  refine rp_bipush (v := 45) d_mod_bracket_96 (by decide) ?_
  refine rp_icmp_ne (tgt := 105) d_mod_bracket_98 (by decide) (fun c98 => ?_) (fun c98 => ?_)
  · refine rp_iconst (v := 0) d_mod_bracket_105 (by decide) ?_
    refine rp_istore (i := 5) d_mod_bracket_106 rfl (Nat.le_of_ble_eq_true rfl) ?_
    refine rp_iload (i := 5) d_mod_bracket_108 rfl ?_
    refine rp_if_eq (tgt := 120) d_mod_bracket_110 (by decide) (fun c110 => ?_) (fun c110 => ?_)
    · refine rp_iload (i := 4) d_mod_bracket_120 rfl ?_
      refine rp_istore (i := 4) d_mod_bracket_122 rfl (Nat.le_of_ble_eq_true rfl) ?_
      refine rp_iconst (v := 0) d_mod_bracket_124 (by decide) ?_
      refine rp_istore (i := 6) d_mod_bracket_125 rfl (Nat.le_of_ble_eq_true rfl) ?_
      refine rp_iconst (v := 0) d_mod_bracket_127 (by decide) ?_
      refine rp_istore (i := 7) d_mod_bracket_128 rfl (Nat.le_of_ble_eq_true rfl) ?_
      first
      | (refine rp_lv [(0, .ref 19), (1, .int (nI p)), (3, .int how), (4, .int (nI (q0))), (5, .int 0), (6, .int 0), (7, .int (nI 0))] (by first | rfl | (simp only [nI_succ]; rfl)) ?_; refine l_mod_bracket hR hn h40 7 (q0) 0 0 rfl (by omega) ?_; rw [Nat.zero_add]; refine t_mod_bracket0 hR hn h40 (by omega) (r_run_le _ _ _) ?_; rw [r_brk2, if_neg c98] at k; exact k)
      | (refine rp_lv [(0, .ref 19), (1, .int (nI p)), (3, .int how), (4, .int (nI (q0 + 1))), (5, .int 1), (6, .int 0), (7, .int (nI 0))] (by first | rfl | (simp only [nI_succ]; rfl)) ?_; refine l_mod_bracket hR hn h40 7 (q0 + 1) 0 0 rfl (by omega) ?_; rw [Nat.zero_add]; refine t_mod_bracket1 hR hn h40 (by omega) (r_run_le _ _ _) ?_; rw [r_brk2, if_pos c98] at k; exact k)
    · exact absurd (by decide) c110
  · refine rp_iconst (v := 1) d_mod_bracket_101 (by decide) ?_
    refine rp_goto (tgt := 106) d_mod_bracket_102 (by decide) ?_
    refine rp_istore (i := 5) d_mod_bracket_106 rfl (Nat.le_of_ble_eq_true rfl) ?_
    refine rp_iload (i := 5) d_mod_bracket_108 rfl ?_
    refine rp_if_eq (tgt := 120) d_mod_bracket_110 (by decide) (fun c110 => ?_) (fun c110 => ?_)
    · exact absurd c110 (by decide)
    · refine rp_iload (i := 4) d_mod_bracket_113 rfl ?_
      refine rp_iconst (v := 1) d_mod_bracket_115 (by decide) ?_
      refine rp_iadd d_mod_bracket_116 ?_
      refine rp_goto (tgt := 122) d_mod_bracket_117 (by decide) ?_
      refine rp_istore (i := 4) d_mod_bracket_122 rfl (Nat.le_of_ble_eq_true rfl) ?_
      refine rp_iconst (v := 0) d_mod_bracket_124 (by decide) ?_
      refine rp_istore (i := 6) d_mod_bracket_125 rfl (Nat.le_of_ble_eq_true rfl) ?_
      refine rp_iconst (v := 0) d_mod_bracket_127 (by decide) ?_
      refine rp_istore (i := 7) d_mod_bracket_128 rfl (Nat.le_of_ble_eq_true rfl) ?_
      first
      | (refine rp_lv [(0, .ref 19), (1, .int (nI p)), (3, .int how), (4, .int (nI (q0))), (5, .int 0), (6, .int 0), (7, .int (nI 0))] (by first | rfl | (simp only [nI_succ]; rfl)) ?_; refine l_mod_bracket hR hn h40 7 (q0) 0 0 rfl (by omega) ?_; rw [Nat.zero_add]; refine t_mod_bracket0 hR hn h40 (by omega) (r_run_le _ _ _) ?_; rw [r_brk2, if_neg c98] at k; exact k)
      | (refine rp_lv [(0, .ref 19), (1, .int (nI p)), (3, .int how), (4, .int (nI (q0 + 1))), (5, .int 1), (6, .int 0), (7, .int (nI 0))] (by first | rfl | (simp only [nI_succ]; rfl)) ?_; refine l_mod_bracket hR hn h40 7 (q0 + 1) 0 0 rfl (by omega) ?_; rw [Nat.zero_add]; refine t_mod_bracket1 hR hn h40 (by omega) (r_run_le _ _ _) ?_; rw [r_brk2, if_pos c98] at k; exact k)
set_option maxHeartbeats 4000000 in
set_option maxRecDepth 100000 in
theorem s_mod_bracket {h : cf_H} {P : Option Value → cf_H → Prop} (hR : cf_ok h) {n : Nat} (hn : h.1 19 0 = nI n) (h40 : n ≤ 40) {x : Int32} {p : Nat} (hx : x = nI p) (hp : p < 2 ^ 26) (k : P none (r_put h (r_brk (r_g h n) p))) : RP k_mod_bracket 0 [(0, .ref 19), (1, .int x)] [] h P := by
  subst hx
  refine rp_aload_n (i := 0) d_mod_bracket_0 rfl rfl ?_
  refine rp_iload_n (i := 1) d_mod_bracket_1 rfl rfl ?_
  refine rp_iconst (v := 1) d_mod_bracket_2 (by decide) ?_
  refine rp_iadd d_mod_bracket_3 ?_
  refine rp_callV1 d_mod_bracket_4 q_mod_bracket_51 (Or.inl ⟨_, _, _, rfl, rfl⟩) (Nat.le_of_ble_eq_true rfl) (Nat.le_of_ble_eq_true rfl) ?_
  refine s_mod_at (j := p + 1) hR hn h40 (nI_add p 1) (by omega) ?_
  refine rp_istore_n (i := 2) d_mod_bracket_7 rfl rfl (Nat.le_of_ble_eq_true rfl) ?_
  refine rp_iload_n (i := 2) d_mod_bracket_8 rfl rfl ?_
  refine rp_bipush (v := 104) d_mod_bracket_9 (by decide) ?_
  refine rp_icmp_eq (tgt := 26) d_mod_bracket_11 (by decide) (fun c11 => ?_) (fun c11 => ?_)
  · refine rp_aload_n (i := 0) d_mod_bracket_26 rfl rfl ?_
    refine rp_iload_n (i := 1) d_mod_bracket_27 rfl rfl ?_
    refine rp_iconst (v := 2) d_mod_bracket_28 (by decide) ?_
    refine rp_iadd d_mod_bracket_29 ?_
    refine rp_callV1 d_mod_bracket_30 q_mod_bracket_51 (Or.inl ⟨_, _, _, rfl, rfl⟩) (Nat.le_of_ble_eq_true rfl) (Nat.le_of_ble_eq_true rfl) ?_
    refine s_mod_at (j := p + 2) hR hn h40 (nI_add p 2) (by omega) ?_
    refine rp_bipush (v := 93) d_mod_bracket_33 (by decide) ?_
    refine rp_icmp_ne (tgt := 50) d_mod_bracket_35 (by decide) (fun c35 => ?_) (fun c35 => ?_)
    · refine rp_aload_n (i := 0) d_mod_bracket_50 rfl rfl ?_
      refine rp_iload_n (i := 1) d_mod_bracket_51 rfl rfl ?_
      refine rp_iconst (v := 1) d_mod_bracket_52 (by decide) ?_
      refine rp_iadd d_mod_bracket_53 ?_
      refine rp_callV1 d_mod_bracket_54 q_mod_bracket_59 (Or.inl ⟨_, _, _, rfl, rfl⟩) (Nat.le_of_ble_eq_true rfl) (Nat.le_of_ble_eq_true rfl) ?_
      refine s_mod_comparison (j := p + 1) hR hn h40 (nI_add p 1) (by omega) ?_
      refine rp_istore_n (i := 3) d_mod_bracket_57 rfl rfl (Nat.le_of_ble_eq_true rfl) ?_
      refine rp_iload_n (i := 3) d_mod_bracket_58 rfl rfl ?_
      refine rp_if_ne (tgt := 63) d_mod_bracket_59 (by decide) (fun c59 => ?_) (fun c59 => ?_)
      · refine rp_iload_n (i := 3) d_mod_bracket_63 rfl rfl ?_
        refine rp_iconst (v := 2) d_mod_bracket_64 (by decide) ?_
        refine rp_icmp_eq (tgt := 79) d_mod_bracket_65 (by decide) (fun c65 => ?_) (fun c65 => ?_)
        · refine rp_iload_n (i := 1) d_mod_bracket_79 rfl rfl ?_
          refine rp_iconst (v := 3) d_mod_bracket_80 (by decide) ?_
          refine rp_iadd d_mod_bracket_81 ?_
          refine rp_goto (tgt := 88) d_mod_bracket_82 (by decide) ?_
          rw [r_brk, if_neg (by simp [c11, c35, c59, c65]), if_neg (by simp [c11, c35, c59, c65])] at k
          first
          | (rw [if_pos (by simp [c11, c35, c59, c65])] at k; refine rp_lv [(0, .ref 19), (1, .int (nI p)), (3, .int (r_cmp (r_g h n) (p + 1)))] rfl ?_; exact (nI_add p 3) ▸ l_mod_bracket88 hR hn h40 (by omega) k)
          | (rw [if_neg (by simp [c11, c35, c59, c65])] at k; refine rp_lv [(0, .ref 19), (1, .int (nI p)), (3, .int (r_cmp (r_g h n) (p + 1)))] rfl ?_; exact (nI_add p 2) ▸ l_mod_bracket88 hR hn h40 (by omega) k)
        · refine rp_iload_n (i := 3) d_mod_bracket_68 rfl rfl ?_
          refine rp_iconst (v := 4) d_mod_bracket_69 (by decide) ?_
          refine rp_icmp_eq (tgt := 79) d_mod_bracket_70 (by decide) (fun c70 => ?_) (fun c70 => ?_)
          · refine rp_iload_n (i := 1) d_mod_bracket_79 rfl rfl ?_
            refine rp_iconst (v := 3) d_mod_bracket_80 (by decide) ?_
            refine rp_iadd d_mod_bracket_81 ?_
            refine rp_goto (tgt := 88) d_mod_bracket_82 (by decide) ?_
            rw [r_brk, if_neg (by simp [c11, c35, c59, c65, c70]), if_neg (by simp [c11, c35, c59, c65, c70])] at k
            first
            | (rw [if_pos (by simp [c11, c35, c59, c65, c70])] at k; refine rp_lv [(0, .ref 19), (1, .int (nI p)), (3, .int (r_cmp (r_g h n) (p + 1)))] rfl ?_; exact (nI_add p 3) ▸ l_mod_bracket88 hR hn h40 (by omega) k)
            | (rw [if_neg (by simp [c11, c35, c59, c65, c70])] at k; refine rp_lv [(0, .ref 19), (1, .int (nI p)), (3, .int (r_cmp (r_g h n) (p + 1)))] rfl ?_; exact (nI_add p 2) ▸ l_mod_bracket88 hR hn h40 (by omega) k)
          · refine rp_iload_n (i := 3) d_mod_bracket_73 rfl rfl ?_
            refine rp_bipush (v := 6) d_mod_bracket_74 (by decide) ?_
            refine rp_icmp_ne (tgt := 85) d_mod_bracket_76 (by decide) (fun c76 => ?_) (fun c76 => ?_)
            · refine rp_iload_n (i := 1) d_mod_bracket_85 rfl rfl ?_
              refine rp_iconst (v := 2) d_mod_bracket_86 (by decide) ?_
              refine rp_iadd d_mod_bracket_87 ?_
              rw [r_brk, if_neg (by simp [c11, c35, c59, c65, c70, c76]), if_neg (by simp [c11, c35, c59, c65, c70, c76])] at k
              first
              | (rw [if_pos (by simp [c11, c35, c59, c65, c70, c76])] at k; refine rp_lv [(0, .ref 19), (1, .int (nI p)), (3, .int (r_cmp (r_g h n) (p + 1)))] rfl ?_; exact (nI_add p 3) ▸ l_mod_bracket88 hR hn h40 (by omega) k)
              | (rw [if_neg (by simp [c11, c35, c59, c65, c70, c76])] at k; refine rp_lv [(0, .ref 19), (1, .int (nI p)), (3, .int (r_cmp (r_g h n) (p + 1)))] rfl ?_; exact (nI_add p 2) ▸ l_mod_bracket88 hR hn h40 (by omega) k)
            · refine rp_iload_n (i := 1) d_mod_bracket_79 rfl rfl ?_
              refine rp_iconst (v := 3) d_mod_bracket_80 (by decide) ?_
              refine rp_iadd d_mod_bracket_81 ?_
              refine rp_goto (tgt := 88) d_mod_bracket_82 (by decide) ?_
              rw [r_brk, if_neg (by simp [c11, c35, c59, c65, c70, c76]), if_neg (by simp [c11, c35, c59, c65, c70, c76])] at k
              first
              | (rw [if_pos (by simp [c11, c35, c59, c65, c70, c76])] at k; refine rp_lv [(0, .ref 19), (1, .int (nI p)), (3, .int (r_cmp (r_g h n) (p + 1)))] rfl ?_; exact (nI_add p 3) ▸ l_mod_bracket88 hR hn h40 (by omega) k)
              | (rw [if_neg (by simp [c11, c35, c59, c65, c70, c76])] at k; refine rp_lv [(0, .ref 19), (1, .int (nI p)), (3, .int (r_cmp (r_g h n) (p + 1)))] rfl ?_; exact (nI_add p 2) ▸ l_mod_bracket88 hR hn h40 (by omega) k)
      · refine rp_return d_mod_bracket_62 rfl ?_
        first
        | (rw [r_brk, if_pos (by simp [c11, c35, c59]), r_put_1 _ (by decide), ← nI_add] at k; exact k)
        | (rw [r_brk, if_neg (by simp [c11, c35, c59]), if_pos (by simp [c11, c35, c59]), r_put_0] at k; exact k)
    · refine rp_aload_n (i := 0) d_mod_bracket_38 rfl rfl ?_
      refine rp_bipush (v := 8) d_mod_bracket_39 (by decide) ?_
      refine rp_iload_n (i := 2) d_mod_bracket_41 rfl rfl ?_
      refine rp_iconst (v := 0) d_mod_bracket_42 (by decide) ?_
      refine rp_iload_n (i := 1) d_mod_bracket_43 rfl rfl ?_
      refine rp_iconst (v := 3) d_mod_bracket_44 (by decide) ?_
      refine rp_iadd d_mod_bracket_45 ?_
      refine rp_callV4 d_mod_bracket_46 q_mod_bracket_55 (Or.inl ⟨_, _, _, rfl, rfl⟩) (Nat.le_of_ble_eq_true rfl) (Nat.le_of_ble_eq_true rfl) ?_
      refine s_mod_meet ?_
      refine rp_return d_mod_bracket_49 rfl ?_
      first
      | (rw [r_brk, if_pos (by simp [c11, c35]), r_put_1 _ (by decide), ← nI_add] at k; exact k)
      | (rw [r_brk, if_neg (by simp [c11, c35]), if_pos (by simp [c11, c35]), r_put_0] at k; exact k)
  · refine rp_iload_n (i := 2) d_mod_bracket_14 rfl rfl ?_
    refine rp_bipush (v := 109) d_mod_bracket_15 (by decide) ?_
    refine rp_icmp_eq (tgt := 26) d_mod_bracket_17 (by decide) (fun c17 => ?_) (fun c17 => ?_)
    · refine rp_aload_n (i := 0) d_mod_bracket_26 rfl rfl ?_
      refine rp_iload_n (i := 1) d_mod_bracket_27 rfl rfl ?_
      refine rp_iconst (v := 2) d_mod_bracket_28 (by decide) ?_
      refine rp_iadd d_mod_bracket_29 ?_
      refine rp_callV1 d_mod_bracket_30 q_mod_bracket_51 (Or.inl ⟨_, _, _, rfl, rfl⟩) (Nat.le_of_ble_eq_true rfl) (Nat.le_of_ble_eq_true rfl) ?_
      refine s_mod_at (j := p + 2) hR hn h40 (nI_add p 2) (by omega) ?_
      refine rp_bipush (v := 93) d_mod_bracket_33 (by decide) ?_
      refine rp_icmp_ne (tgt := 50) d_mod_bracket_35 (by decide) (fun c35 => ?_) (fun c35 => ?_)
      · refine rp_aload_n (i := 0) d_mod_bracket_50 rfl rfl ?_
        refine rp_iload_n (i := 1) d_mod_bracket_51 rfl rfl ?_
        refine rp_iconst (v := 1) d_mod_bracket_52 (by decide) ?_
        refine rp_iadd d_mod_bracket_53 ?_
        refine rp_callV1 d_mod_bracket_54 q_mod_bracket_59 (Or.inl ⟨_, _, _, rfl, rfl⟩) (Nat.le_of_ble_eq_true rfl) (Nat.le_of_ble_eq_true rfl) ?_
        refine s_mod_comparison (j := p + 1) hR hn h40 (nI_add p 1) (by omega) ?_
        refine rp_istore_n (i := 3) d_mod_bracket_57 rfl rfl (Nat.le_of_ble_eq_true rfl) ?_
        refine rp_iload_n (i := 3) d_mod_bracket_58 rfl rfl ?_
        refine rp_if_ne (tgt := 63) d_mod_bracket_59 (by decide) (fun c59 => ?_) (fun c59 => ?_)
        · refine rp_iload_n (i := 3) d_mod_bracket_63 rfl rfl ?_
          refine rp_iconst (v := 2) d_mod_bracket_64 (by decide) ?_
          refine rp_icmp_eq (tgt := 79) d_mod_bracket_65 (by decide) (fun c65 => ?_) (fun c65 => ?_)
          · refine rp_iload_n (i := 1) d_mod_bracket_79 rfl rfl ?_
            refine rp_iconst (v := 3) d_mod_bracket_80 (by decide) ?_
            refine rp_iadd d_mod_bracket_81 ?_
            refine rp_goto (tgt := 88) d_mod_bracket_82 (by decide) ?_
            rw [r_brk, if_neg (by simp [c11, c17, c35, c59, c65]), if_neg (by simp [c11, c17, c35, c59, c65])] at k
            first
            | (rw [if_pos (by simp [c11, c17, c35, c59, c65])] at k; refine rp_lv [(0, .ref 19), (1, .int (nI p)), (3, .int (r_cmp (r_g h n) (p + 1)))] rfl ?_; exact (nI_add p 3) ▸ l_mod_bracket88 hR hn h40 (by omega) k)
            | (rw [if_neg (by simp [c11, c17, c35, c59, c65])] at k; refine rp_lv [(0, .ref 19), (1, .int (nI p)), (3, .int (r_cmp (r_g h n) (p + 1)))] rfl ?_; exact (nI_add p 2) ▸ l_mod_bracket88 hR hn h40 (by omega) k)
          · refine rp_iload_n (i := 3) d_mod_bracket_68 rfl rfl ?_
            refine rp_iconst (v := 4) d_mod_bracket_69 (by decide) ?_
            refine rp_icmp_eq (tgt := 79) d_mod_bracket_70 (by decide) (fun c70 => ?_) (fun c70 => ?_)
            · refine rp_iload_n (i := 1) d_mod_bracket_79 rfl rfl ?_
              refine rp_iconst (v := 3) d_mod_bracket_80 (by decide) ?_
              refine rp_iadd d_mod_bracket_81 ?_
              refine rp_goto (tgt := 88) d_mod_bracket_82 (by decide) ?_
              rw [r_brk, if_neg (by simp [c11, c17, c35, c59, c65, c70]), if_neg (by simp [c11, c17, c35, c59, c65, c70])] at k
              first
              | (rw [if_pos (by simp [c11, c17, c35, c59, c65, c70])] at k; refine rp_lv [(0, .ref 19), (1, .int (nI p)), (3, .int (r_cmp (r_g h n) (p + 1)))] rfl ?_; exact (nI_add p 3) ▸ l_mod_bracket88 hR hn h40 (by omega) k)
              | (rw [if_neg (by simp [c11, c17, c35, c59, c65, c70])] at k; refine rp_lv [(0, .ref 19), (1, .int (nI p)), (3, .int (r_cmp (r_g h n) (p + 1)))] rfl ?_; exact (nI_add p 2) ▸ l_mod_bracket88 hR hn h40 (by omega) k)
            · refine rp_iload_n (i := 3) d_mod_bracket_73 rfl rfl ?_
              refine rp_bipush (v := 6) d_mod_bracket_74 (by decide) ?_
              refine rp_icmp_ne (tgt := 85) d_mod_bracket_76 (by decide) (fun c76 => ?_) (fun c76 => ?_)
              · refine rp_iload_n (i := 1) d_mod_bracket_85 rfl rfl ?_
                refine rp_iconst (v := 2) d_mod_bracket_86 (by decide) ?_
                refine rp_iadd d_mod_bracket_87 ?_
                rw [r_brk, if_neg (by simp [c11, c17, c35, c59, c65, c70, c76]), if_neg (by simp [c11, c17, c35, c59, c65, c70, c76])] at k
                first
                | (rw [if_pos (by simp [c11, c17, c35, c59, c65, c70, c76])] at k; refine rp_lv [(0, .ref 19), (1, .int (nI p)), (3, .int (r_cmp (r_g h n) (p + 1)))] rfl ?_; exact (nI_add p 3) ▸ l_mod_bracket88 hR hn h40 (by omega) k)
                | (rw [if_neg (by simp [c11, c17, c35, c59, c65, c70, c76])] at k; refine rp_lv [(0, .ref 19), (1, .int (nI p)), (3, .int (r_cmp (r_g h n) (p + 1)))] rfl ?_; exact (nI_add p 2) ▸ l_mod_bracket88 hR hn h40 (by omega) k)
              · refine rp_iload_n (i := 1) d_mod_bracket_79 rfl rfl ?_
                refine rp_iconst (v := 3) d_mod_bracket_80 (by decide) ?_
                refine rp_iadd d_mod_bracket_81 ?_
                refine rp_goto (tgt := 88) d_mod_bracket_82 (by decide) ?_
                rw [r_brk, if_neg (by simp [c11, c17, c35, c59, c65, c70, c76]), if_neg (by simp [c11, c17, c35, c59, c65, c70, c76])] at k
                first
                | (rw [if_pos (by simp [c11, c17, c35, c59, c65, c70, c76])] at k; refine rp_lv [(0, .ref 19), (1, .int (nI p)), (3, .int (r_cmp (r_g h n) (p + 1)))] rfl ?_; exact (nI_add p 3) ▸ l_mod_bracket88 hR hn h40 (by omega) k)
                | (rw [if_neg (by simp [c11, c17, c35, c59, c65, c70, c76])] at k; refine rp_lv [(0, .ref 19), (1, .int (nI p)), (3, .int (r_cmp (r_g h n) (p + 1)))] rfl ?_; exact (nI_add p 2) ▸ l_mod_bracket88 hR hn h40 (by omega) k)
        · refine rp_return d_mod_bracket_62 rfl ?_
          first
          | (rw [r_brk, if_pos (by simp [c11, c17, c35, c59]), r_put_1 _ (by decide), ← nI_add] at k; exact k)
          | (rw [r_brk, if_neg (by simp [c11, c17, c35, c59]), if_pos (by simp [c11, c17, c35, c59]), r_put_0] at k; exact k)
      · refine rp_aload_n (i := 0) d_mod_bracket_38 rfl rfl ?_
        refine rp_bipush (v := 8) d_mod_bracket_39 (by decide) ?_
        refine rp_iload_n (i := 2) d_mod_bracket_41 rfl rfl ?_
        refine rp_iconst (v := 0) d_mod_bracket_42 (by decide) ?_
        refine rp_iload_n (i := 1) d_mod_bracket_43 rfl rfl ?_
        refine rp_iconst (v := 3) d_mod_bracket_44 (by decide) ?_
        refine rp_iadd d_mod_bracket_45 ?_
        refine rp_callV4 d_mod_bracket_46 q_mod_bracket_55 (Or.inl ⟨_, _, _, rfl, rfl⟩) (Nat.le_of_ble_eq_true rfl) (Nat.le_of_ble_eq_true rfl) ?_
        refine s_mod_meet ?_
        refine rp_return d_mod_bracket_49 rfl ?_
        first
        | (rw [r_brk, if_pos (by simp [c11, c17, c35]), r_put_1 _ (by decide), ← nI_add] at k; exact k)
        | (rw [r_brk, if_neg (by simp [c11, c17, c35]), if_pos (by simp [c11, c17, c35]), r_put_0] at k; exact k)
    · refine rp_iload_n (i := 2) d_mod_bracket_20 rfl rfl ?_
      refine rp_bipush (v := 115) d_mod_bracket_21 (by decide) ?_
      refine rp_icmp_ne (tgt := 50) d_mod_bracket_23 (by decide) (fun c23 => ?_) (fun c23 => ?_)
      · refine rp_aload_n (i := 0) d_mod_bracket_50 rfl rfl ?_
        refine rp_iload_n (i := 1) d_mod_bracket_51 rfl rfl ?_
        refine rp_iconst (v := 1) d_mod_bracket_52 (by decide) ?_
        refine rp_iadd d_mod_bracket_53 ?_
        refine rp_callV1 d_mod_bracket_54 q_mod_bracket_59 (Or.inl ⟨_, _, _, rfl, rfl⟩) (Nat.le_of_ble_eq_true rfl) (Nat.le_of_ble_eq_true rfl) ?_
        refine s_mod_comparison (j := p + 1) hR hn h40 (nI_add p 1) (by omega) ?_
        refine rp_istore_n (i := 3) d_mod_bracket_57 rfl rfl (Nat.le_of_ble_eq_true rfl) ?_
        refine rp_iload_n (i := 3) d_mod_bracket_58 rfl rfl ?_
        refine rp_if_ne (tgt := 63) d_mod_bracket_59 (by decide) (fun c59 => ?_) (fun c59 => ?_)
        · refine rp_iload_n (i := 3) d_mod_bracket_63 rfl rfl ?_
          refine rp_iconst (v := 2) d_mod_bracket_64 (by decide) ?_
          refine rp_icmp_eq (tgt := 79) d_mod_bracket_65 (by decide) (fun c65 => ?_) (fun c65 => ?_)
          · refine rp_iload_n (i := 1) d_mod_bracket_79 rfl rfl ?_
            refine rp_iconst (v := 3) d_mod_bracket_80 (by decide) ?_
            refine rp_iadd d_mod_bracket_81 ?_
            refine rp_goto (tgt := 88) d_mod_bracket_82 (by decide) ?_
            rw [r_brk, if_neg (by simp [c11, c17, c23, c59, c65]), if_neg (by simp [c11, c17, c23, c59, c65])] at k
            first
            | (rw [if_pos (by simp [c11, c17, c23, c59, c65])] at k; refine rp_lv [(0, .ref 19), (1, .int (nI p)), (3, .int (r_cmp (r_g h n) (p + 1)))] rfl ?_; exact (nI_add p 3) ▸ l_mod_bracket88 hR hn h40 (by omega) k)
            | (rw [if_neg (by simp [c11, c17, c23, c59, c65])] at k; refine rp_lv [(0, .ref 19), (1, .int (nI p)), (3, .int (r_cmp (r_g h n) (p + 1)))] rfl ?_; exact (nI_add p 2) ▸ l_mod_bracket88 hR hn h40 (by omega) k)
          · refine rp_iload_n (i := 3) d_mod_bracket_68 rfl rfl ?_
            refine rp_iconst (v := 4) d_mod_bracket_69 (by decide) ?_
            refine rp_icmp_eq (tgt := 79) d_mod_bracket_70 (by decide) (fun c70 => ?_) (fun c70 => ?_)
            · refine rp_iload_n (i := 1) d_mod_bracket_79 rfl rfl ?_
              refine rp_iconst (v := 3) d_mod_bracket_80 (by decide) ?_
              refine rp_iadd d_mod_bracket_81 ?_
              refine rp_goto (tgt := 88) d_mod_bracket_82 (by decide) ?_
              rw [r_brk, if_neg (by simp [c11, c17, c23, c59, c65, c70]), if_neg (by simp [c11, c17, c23, c59, c65, c70])] at k
              first
              | (rw [if_pos (by simp [c11, c17, c23, c59, c65, c70])] at k; refine rp_lv [(0, .ref 19), (1, .int (nI p)), (3, .int (r_cmp (r_g h n) (p + 1)))] rfl ?_; exact (nI_add p 3) ▸ l_mod_bracket88 hR hn h40 (by omega) k)
              | (rw [if_neg (by simp [c11, c17, c23, c59, c65, c70])] at k; refine rp_lv [(0, .ref 19), (1, .int (nI p)), (3, .int (r_cmp (r_g h n) (p + 1)))] rfl ?_; exact (nI_add p 2) ▸ l_mod_bracket88 hR hn h40 (by omega) k)
            · refine rp_iload_n (i := 3) d_mod_bracket_73 rfl rfl ?_
              refine rp_bipush (v := 6) d_mod_bracket_74 (by decide) ?_
              refine rp_icmp_ne (tgt := 85) d_mod_bracket_76 (by decide) (fun c76 => ?_) (fun c76 => ?_)
              · refine rp_iload_n (i := 1) d_mod_bracket_85 rfl rfl ?_
                refine rp_iconst (v := 2) d_mod_bracket_86 (by decide) ?_
                refine rp_iadd d_mod_bracket_87 ?_
                rw [r_brk, if_neg (by simp [c11, c17, c23, c59, c65, c70, c76]), if_neg (by simp [c11, c17, c23, c59, c65, c70, c76])] at k
                first
                | (rw [if_pos (by simp [c11, c17, c23, c59, c65, c70, c76])] at k; refine rp_lv [(0, .ref 19), (1, .int (nI p)), (3, .int (r_cmp (r_g h n) (p + 1)))] rfl ?_; exact (nI_add p 3) ▸ l_mod_bracket88 hR hn h40 (by omega) k)
                | (rw [if_neg (by simp [c11, c17, c23, c59, c65, c70, c76])] at k; refine rp_lv [(0, .ref 19), (1, .int (nI p)), (3, .int (r_cmp (r_g h n) (p + 1)))] rfl ?_; exact (nI_add p 2) ▸ l_mod_bracket88 hR hn h40 (by omega) k)
              · refine rp_iload_n (i := 1) d_mod_bracket_79 rfl rfl ?_
                refine rp_iconst (v := 3) d_mod_bracket_80 (by decide) ?_
                refine rp_iadd d_mod_bracket_81 ?_
                refine rp_goto (tgt := 88) d_mod_bracket_82 (by decide) ?_
                rw [r_brk, if_neg (by simp [c11, c17, c23, c59, c65, c70, c76]), if_neg (by simp [c11, c17, c23, c59, c65, c70, c76])] at k
                first
                | (rw [if_pos (by simp [c11, c17, c23, c59, c65, c70, c76])] at k; refine rp_lv [(0, .ref 19), (1, .int (nI p)), (3, .int (r_cmp (r_g h n) (p + 1)))] rfl ?_; exact (nI_add p 3) ▸ l_mod_bracket88 hR hn h40 (by omega) k)
                | (rw [if_neg (by simp [c11, c17, c23, c59, c65, c70, c76])] at k; refine rp_lv [(0, .ref 19), (1, .int (nI p)), (3, .int (r_cmp (r_g h n) (p + 1)))] rfl ?_; exact (nI_add p 2) ▸ l_mod_bracket88 hR hn h40 (by omega) k)
        · refine rp_return d_mod_bracket_62 rfl ?_
          first
          | (rw [r_brk, if_pos (by simp [c11, c17, c23, c59]), r_put_1 _ (by decide), ← nI_add] at k; exact k)
          | (rw [r_brk, if_neg (by simp [c11, c17, c23, c59]), if_pos (by simp [c11, c17, c23, c59]), r_put_0] at k; exact k)
      · refine rp_aload_n (i := 0) d_mod_bracket_26 rfl rfl ?_
        refine rp_iload_n (i := 1) d_mod_bracket_27 rfl rfl ?_
        refine rp_iconst (v := 2) d_mod_bracket_28 (by decide) ?_
        refine rp_iadd d_mod_bracket_29 ?_
        refine rp_callV1 d_mod_bracket_30 q_mod_bracket_51 (Or.inl ⟨_, _, _, rfl, rfl⟩) (Nat.le_of_ble_eq_true rfl) (Nat.le_of_ble_eq_true rfl) ?_
        refine s_mod_at (j := p + 2) hR hn h40 (nI_add p 2) (by omega) ?_
        refine rp_bipush (v := 93) d_mod_bracket_33 (by decide) ?_
        refine rp_icmp_ne (tgt := 50) d_mod_bracket_35 (by decide) (fun c35 => ?_) (fun c35 => ?_)
        · refine rp_aload_n (i := 0) d_mod_bracket_50 rfl rfl ?_
          refine rp_iload_n (i := 1) d_mod_bracket_51 rfl rfl ?_
          refine rp_iconst (v := 1) d_mod_bracket_52 (by decide) ?_
          refine rp_iadd d_mod_bracket_53 ?_
          refine rp_callV1 d_mod_bracket_54 q_mod_bracket_59 (Or.inl ⟨_, _, _, rfl, rfl⟩) (Nat.le_of_ble_eq_true rfl) (Nat.le_of_ble_eq_true rfl) ?_
          refine s_mod_comparison (j := p + 1) hR hn h40 (nI_add p 1) (by omega) ?_
          refine rp_istore_n (i := 3) d_mod_bracket_57 rfl rfl (Nat.le_of_ble_eq_true rfl) ?_
          refine rp_iload_n (i := 3) d_mod_bracket_58 rfl rfl ?_
          refine rp_if_ne (tgt := 63) d_mod_bracket_59 (by decide) (fun c59 => ?_) (fun c59 => ?_)
          · refine rp_iload_n (i := 3) d_mod_bracket_63 rfl rfl ?_
            refine rp_iconst (v := 2) d_mod_bracket_64 (by decide) ?_
            refine rp_icmp_eq (tgt := 79) d_mod_bracket_65 (by decide) (fun c65 => ?_) (fun c65 => ?_)
            · refine rp_iload_n (i := 1) d_mod_bracket_79 rfl rfl ?_
              refine rp_iconst (v := 3) d_mod_bracket_80 (by decide) ?_
              refine rp_iadd d_mod_bracket_81 ?_
              refine rp_goto (tgt := 88) d_mod_bracket_82 (by decide) ?_
              rw [r_brk, if_neg (by simp [c11, c17, c23, c35, c59, c65]), if_neg (by simp [c11, c17, c23, c35, c59, c65])] at k
              first
              | (rw [if_pos (by simp [c11, c17, c23, c35, c59, c65])] at k; refine rp_lv [(0, .ref 19), (1, .int (nI p)), (3, .int (r_cmp (r_g h n) (p + 1)))] rfl ?_; exact (nI_add p 3) ▸ l_mod_bracket88 hR hn h40 (by omega) k)
              | (rw [if_neg (by simp [c11, c17, c23, c35, c59, c65])] at k; refine rp_lv [(0, .ref 19), (1, .int (nI p)), (3, .int (r_cmp (r_g h n) (p + 1)))] rfl ?_; exact (nI_add p 2) ▸ l_mod_bracket88 hR hn h40 (by omega) k)
            · refine rp_iload_n (i := 3) d_mod_bracket_68 rfl rfl ?_
              refine rp_iconst (v := 4) d_mod_bracket_69 (by decide) ?_
              refine rp_icmp_eq (tgt := 79) d_mod_bracket_70 (by decide) (fun c70 => ?_) (fun c70 => ?_)
              · refine rp_iload_n (i := 1) d_mod_bracket_79 rfl rfl ?_
                refine rp_iconst (v := 3) d_mod_bracket_80 (by decide) ?_
                refine rp_iadd d_mod_bracket_81 ?_
                refine rp_goto (tgt := 88) d_mod_bracket_82 (by decide) ?_
                rw [r_brk, if_neg (by simp [c11, c17, c23, c35, c59, c65, c70]), if_neg (by simp [c11, c17, c23, c35, c59, c65, c70])] at k
                first
                | (rw [if_pos (by simp [c11, c17, c23, c35, c59, c65, c70])] at k; refine rp_lv [(0, .ref 19), (1, .int (nI p)), (3, .int (r_cmp (r_g h n) (p + 1)))] rfl ?_; exact (nI_add p 3) ▸ l_mod_bracket88 hR hn h40 (by omega) k)
                | (rw [if_neg (by simp [c11, c17, c23, c35, c59, c65, c70])] at k; refine rp_lv [(0, .ref 19), (1, .int (nI p)), (3, .int (r_cmp (r_g h n) (p + 1)))] rfl ?_; exact (nI_add p 2) ▸ l_mod_bracket88 hR hn h40 (by omega) k)
              · refine rp_iload_n (i := 3) d_mod_bracket_73 rfl rfl ?_
                refine rp_bipush (v := 6) d_mod_bracket_74 (by decide) ?_
                refine rp_icmp_ne (tgt := 85) d_mod_bracket_76 (by decide) (fun c76 => ?_) (fun c76 => ?_)
                · refine rp_iload_n (i := 1) d_mod_bracket_85 rfl rfl ?_
                  refine rp_iconst (v := 2) d_mod_bracket_86 (by decide) ?_
                  refine rp_iadd d_mod_bracket_87 ?_
                  rw [r_brk, if_neg (by simp [c11, c17, c23, c35, c59, c65, c70, c76]), if_neg (by simp [c11, c17, c23, c35, c59, c65, c70, c76])] at k
                  first
                  | (rw [if_pos (by simp [c11, c17, c23, c35, c59, c65, c70, c76])] at k; refine rp_lv [(0, .ref 19), (1, .int (nI p)), (3, .int (r_cmp (r_g h n) (p + 1)))] rfl ?_; exact (nI_add p 3) ▸ l_mod_bracket88 hR hn h40 (by omega) k)
                  | (rw [if_neg (by simp [c11, c17, c23, c35, c59, c65, c70, c76])] at k; refine rp_lv [(0, .ref 19), (1, .int (nI p)), (3, .int (r_cmp (r_g h n) (p + 1)))] rfl ?_; exact (nI_add p 2) ▸ l_mod_bracket88 hR hn h40 (by omega) k)
                · refine rp_iload_n (i := 1) d_mod_bracket_79 rfl rfl ?_
                  refine rp_iconst (v := 3) d_mod_bracket_80 (by decide) ?_
                  refine rp_iadd d_mod_bracket_81 ?_
                  refine rp_goto (tgt := 88) d_mod_bracket_82 (by decide) ?_
                  rw [r_brk, if_neg (by simp [c11, c17, c23, c35, c59, c65, c70, c76]), if_neg (by simp [c11, c17, c23, c35, c59, c65, c70, c76])] at k
                  first
                  | (rw [if_pos (by simp [c11, c17, c23, c35, c59, c65, c70, c76])] at k; refine rp_lv [(0, .ref 19), (1, .int (nI p)), (3, .int (r_cmp (r_g h n) (p + 1)))] rfl ?_; exact (nI_add p 3) ▸ l_mod_bracket88 hR hn h40 (by omega) k)
                  | (rw [if_neg (by simp [c11, c17, c23, c35, c59, c65, c70, c76])] at k; refine rp_lv [(0, .ref 19), (1, .int (nI p)), (3, .int (r_cmp (r_g h n) (p + 1)))] rfl ?_; exact (nI_add p 2) ▸ l_mod_bracket88 hR hn h40 (by omega) k)
          · refine rp_return d_mod_bracket_62 rfl ?_
            first
            | (rw [r_brk, if_pos (by simp [c11, c17, c23, c35, c59]), r_put_1 _ (by decide), ← nI_add] at k; exact k)
            | (rw [r_brk, if_neg (by simp [c11, c17, c23, c35, c59]), if_pos (by simp [c11, c17, c23, c35, c59]), r_put_0] at k; exact k)
        · refine rp_aload_n (i := 0) d_mod_bracket_38 rfl rfl ?_
          refine rp_bipush (v := 8) d_mod_bracket_39 (by decide) ?_
          refine rp_iload_n (i := 2) d_mod_bracket_41 rfl rfl ?_
          refine rp_iconst (v := 0) d_mod_bracket_42 (by decide) ?_
          refine rp_iload_n (i := 1) d_mod_bracket_43 rfl rfl ?_
          refine rp_iconst (v := 3) d_mod_bracket_44 (by decide) ?_
          refine rp_iadd d_mod_bracket_45 ?_
          refine rp_callV4 d_mod_bracket_46 q_mod_bracket_55 (Or.inl ⟨_, _, _, rfl, rfl⟩) (Nat.le_of_ble_eq_true rfl) (Nat.le_of_ble_eq_true rfl) ?_
          refine s_mod_meet ?_
          refine rp_return d_mod_bracket_49 rfl ?_
          first
          | (rw [r_brk, if_pos (by simp [c11, c17, c23, c35]), r_put_1 _ (by decide), ← nI_add] at k; exact k)
          | (rw [r_brk, if_neg (by simp [c11, c17, c23, c35]), if_pos (by simp [c11, c17, c23, c35]), r_put_0] at k; exact k)

theorem cf_fst_ge (p : Nat → Bool) : ∀ n a, a ≤ cf_fst p a n := by
  intro n
  induction n with
  | zero => intro a; exact Nat.le_refl _
  | succ n ih =>
    intro a
    unfold cf_fst
    cases p a with
    | true => exact Nat.le_refl _
    | false => have := ih (a + 1); show a ≤ cf_fst p (a + 1) n; omega
theorem cf_fst_le (p : Nat → Bool) : ∀ n a, cf_fst p a n ≤ a + n := by
  intro n
  induction n with
  | zero => intro a; exact Nat.le_refl _
  | succ n ih =>
    intro a
    unfold cf_fst
    cases p a with
    | true => show a ≤ _; omega
    | false => have := ih (a + 1); show cf_fst p (a + 1) n ≤ _; omega
def r_quo (g : Nat → Int32) (n p : Nat) : r_T := if cf_fst (fun j => decide (g j = 34)) (p + 1) (n - (p + 1)) < n then (1, nI (p + 1), nI (cf_fst (fun j => decide (g j = 34)) (p + 1) (n - (p + 1))), cf_fst (fun j => decide (g j = 34)) (p + 1) (n - (p + 1)) + 1) else (0, 0, 0, 0)

set_option maxHeartbeats 4000000 in
set_option maxRecDepth 100000 in
theorem l_mod_quoted {h : cf_H} {P : Option Value → cf_H → Prop} (hR : cf_ok h) {n : Nat} (hn : h.1 19 0 = nI n) (h40 : n ≤ 40) {p : Nat} : ∀ (r q : Nat), r = n - q → q < 2 ^ 28 → (k : RP k_mod_quoted 29 [(0, .ref 19), (1, .int (nI p)), (2, .int (nI (cf_fst (fun j => decide (r_g h n j = 34)) q r)))] [] h P) → RP k_mod_quoted 4 [(0, .ref 19), (1, .int (nI p)), (2, .int (nI q))] [] h P := by
  intro r
  induction r with
  | zero =>
    intro q e hq k
    refine rp_iload_n (i := 2) d_mod_quoted_4 rfl rfl ?_
    refine rp_aload_n (i := 0) d_mod_quoted_5 rfl rfl ?_
    refine rp_getI d_mod_quoted_6 f_mod_36 rfl ?_
    refine rp_icmp_ge (tgt := 29) d_mod_quoted_9 (by decide) (fun c9 => ?_) (fun c9 => ?_)
    · exact rp_lv _ rfl k
    · exact absurd (by rw [hn]; exact nI_le (by omega) (by omega)) c9
  | succ r ih =>
    intro q e hq k
    have hlt : q < n := by omega
    have hg : h.2.2.2 20 (nI q).toNatClampNeg = r_g h n q := by rw [nI_clamp (by omega), r_g, r_at, if_pos hlt]
    refine rp_iload_n (i := 2) d_mod_quoted_4 rfl rfl ?_
    refine rp_aload_n (i := 0) d_mod_quoted_5 rfl rfl ?_
    refine rp_getI d_mod_quoted_6 f_mod_36 rfl ?_
    refine rp_icmp_ge (tgt := 29) d_mod_quoted_9 (by decide) (fun c9 => ?_) (fun c9 => ?_)
    · exact absurd c9 (by rw [hn]; exact nI_ge hlt (by omega))
    · refine rp_aload_n (i := 0) d_mod_quoted_12 rfl rfl ?_
      refine rp_getR d_mod_quoted_13 f_mod_7 rfl (hR _ _ _ rfl) ?_
      refine rp_iload_n (i := 2) d_mod_quoted_16 rfl rfl ?_
      refine rp_iaload d_mod_quoted_17 rfl (vp_in_nI (by omega) (by omega)) ?_
      refine rp_bipush (v := 34) d_mod_quoted_18 (by decide) ?_
      refine rp_icmp_eq (tgt := 29) d_mod_quoted_20 (by decide) (fun c20 => ?_) (fun c20 => ?_)
      · rw [hg] at c20
        rw [cf_fst, show decide (r_g h n q = 34) = true by simp [c20]] at k
        exact rp_lv _ rfl k
      · refine rp_iinc (i := 2) (y := 1) d_mod_quoted_23 rfl (by decide) rfl (Nat.le_of_ble_eq_true rfl) ?_
        refine rp_goto (tgt := 4) d_mod_quoted_26 (by decide) ?_
        rw [hg] at c20
        rw [cf_fst, show decide (r_g h n q = 34) = false by simp [c20]] at k
        refine rp_lv [(0, .ref 19), (1, .int (nI p)), (2, .int (nI (q + 1)))] (by simp only [nI_succ]; rfl) ?_
        exact ih (q + 1) (by omega) (by omega) k
set_option maxHeartbeats 4000000 in
set_option maxRecDepth 100000 in
theorem s_mod_quoted {h : cf_H} {P : Option Value → cf_H → Prop} (hR : cf_ok h) {n : Nat} (hn : h.1 19 0 = nI n) (h40 : n ≤ 40) {x : Int32} {p : Nat} (hx : x = nI p) (hp : p < 2 ^ 26) (k : P none (r_put h (r_quo (r_g h n) n p))) : RP k_mod_quoted 0 [(0, .ref 19), (1, .int x)] [] h P := by
  subst hx
  refine rp_iload_n (i := 1) d_mod_quoted_0 rfl rfl ?_
  refine rp_iconst (v := 1) d_mod_quoted_1 (by decide) ?_
  refine rp_iadd d_mod_quoted_2 ?_
  refine rp_istore_n (i := 2) d_mod_quoted_3 rfl rfl (Nat.le_of_ble_eq_true rfl) ?_
  refine rp_lv [(0, .ref 19), (1, .int (nI p)), (2, .int (nI (p + 1)))] (by simp only [nI_succ]; rfl) ?_
  refine l_mod_quoted hR hn h40 (n - (p + 1)) (p + 1) rfl (by omega) ?_
  have hle := cf_fst_le (fun j => decide (r_g h n j = 34)) (n - (p + 1)) (p + 1)
  rw [r_quo] at k
  generalize cf_fst (fun j => decide (r_g h n j = 34)) (p + 1) (n - (p + 1)) = q at k hle ⊢
  refine rp_iload_n (i := 2) d_mod_quoted_29 rfl rfl ?_
  refine rp_aload_n (i := 0) d_mod_quoted_30 rfl rfl ?_
  refine rp_getI d_mod_quoted_31 f_mod_36 rfl ?_
  refine rp_icmp_ge (tgt := 49) d_mod_quoted_34 (by decide) (fun c34 => ?_) (fun c34 => ?_)
  · refine rp_return d_mod_quoted_49 rfl ?_
    first
    | (rw [if_neg (fun z => absurd c34 (by rw [hn]; exact nI_ge z (by omega))), r_put_0] at k; exact k)
    | (rw [if_pos (Nat.not_le.mp (fun z => c34 (by rw [hn]; exact nI_le z (by omega)))), r_put_1 _ (by decide), nI_succ, nI_succ] at k; exact k)
  · refine rp_aload_n (i := 0) d_mod_quoted_37 rfl rfl ?_
    refine rp_iconst (v := 1) d_mod_quoted_38 (by decide) ?_
    refine rp_iload_n (i := 1) d_mod_quoted_39 rfl rfl ?_
    refine rp_iconst (v := 1) d_mod_quoted_40 (by decide) ?_
    refine rp_iadd d_mod_quoted_41 ?_
    refine rp_iload_n (i := 2) d_mod_quoted_42 rfl rfl ?_
    refine rp_iload_n (i := 2) d_mod_quoted_43 rfl rfl ?_
    refine rp_iconst (v := 1) d_mod_quoted_44 (by decide) ?_
    refine rp_iadd d_mod_quoted_45 ?_
    refine rp_callV4 d_mod_quoted_46 q_mod_quoted_55 (Or.inl ⟨_, _, _, rfl, rfl⟩) (Nat.le_of_ble_eq_true rfl) (Nat.le_of_ble_eq_true rfl) ?_
    refine s_mod_meet ?_
    refine rp_return d_mod_quoted_49 rfl ?_
    first
    | (rw [if_neg (fun z => absurd c34 (by rw [hn]; exact nI_ge z (by omega))), r_put_0] at k; exact k)
    | (rw [if_pos (Nat.not_le.mp (fun z => c34 (by rw [hn]; exact nI_le z (by omega)))), r_put_1 _ (by decide), nI_succ, nI_succ] at k; exact k)
