/-! THE CLASS: Scanner -/
abbrev c_g (h : cf_H) (n : Nat) : Nat → Int32 := r_at (h.2.2.2 1) n
/-- what the scanner stands on: its code, its length, characters 32 .. 126 -/
def c_S (h : cf_H) (n : Nat) : Prop := cf_ok h ∧ h.2.2.1 6 1 = some 1 ∧ h.1 6 2 = nI n ∧ n ≤ 40 ∧ ∀ j, j < n → 32 ≤ h.2.2.2 1 j ∧ h.2.2.2 1 j ≤ 126
theorem c_chr {x : Int32} (h : 32 ≤ x ∧ x ≤ 126) : ∃ q : Nat, 32 ≤ q ∧ q ≤ 126 ∧ x = nI q := by
  have h0 : ¬ x < 0 := by
    intro z
    have h1 := Int32.le_iff_toInt_le.mp h.1
    have h2 := Int32.lt_iff_toInt_lt.mp z
    have e1 : (32 : Int32).toInt = 32 := by decide
    have e2 : (0 : Int32).toInt = 0 := by decide
    omega
  obtain ⟨q, hq, rfl⟩ := nI_of2 (M := 126) (n := 126) (by decide) h0 h.2
  exact ⟨q, (nI_leI (a := 32) (by decide) (by omega)).mp h.1, hq, rfl⟩
theorem c_nar {x : Int32} (h : 32 ≤ x ∧ x ≤ 126) : narrow .char (.int x) = .int x := by
  obtain ⟨q, h1, h2, rfl⟩ := c_chr h
  exact (pk_charN (by omega)).1
def c_tst (x : Int32) : Int32 := if x = 1 then 1 else if x = 2 then 3 else if x = 3 then 4 else if x = 4 then 6 else if x = 5 then 2 else if x = 6 then 5 else 0
def c_val (g : Nat → Int32) : Nat → Nat → Int32 → Int32
  | _, 0, a => a
  | q, m + 1, a => c_val g (q + 1) m (a * 10 + (g q - 48))
theorem c_val_eq (g : Nat → Int32) : ∀ m q a, c_val g q m a = r_val g q m a := by
  intro m
  induction m with
  | zero => intro q a; rfl
  | succ m ih =>
    intro q a
    rw [c_val, r_val, ih]
    congr 1
    rw [Int32.mul_comm, Int32.sub_eq_add_neg, Int32.sub_eq_add_neg, Int32.add_assoc]
def c_adds (h : cf_H) (L : List r_K) : cf_H := L.foldl (fun h x => f_add h x.1 x.2.1 x.2.2) h

set_option maxHeartbeats 4000000 in
set_option maxRecDepth 100000 in
theorem s_scn_at {h : cf_H} {P : Option Value → cf_H → Prop} {n : Nat} (hS : c_S h n) {x : Int32} {j : Nat} (hx : x = nI j) (hj : j < 2 ^ 30) (k : P (some (.int (c_g h n j))) h) : RP k_scn_at 0 [(0, .ref 6), (1, .int x)] [] h P := by
  subst hx
  obtain ⟨hR, hc, hn, h40, hv⟩ := id hS
  rcases Nat.lt_or_ge j n with hlt | hge
  · rw [c_g, r_at, if_pos hlt] at k
    have hz := hv j hlt
    refine rp_iload_n (i := 1) d_scn_at_0 rfl rfl ?_
    refine rp_if_lt (tgt := 21) d_scn_at_1 (by decide) (fun c1 => ?_) (fun c1 => ?_)
    · exact absurd c1 (nI_pos (by omega))
    · refine rp_iload_n (i := 1) d_scn_at_4 rfl rfl ?_
      refine rp_aload_n (i := 0) d_scn_at_5 rfl rfl ?_
      refine rp_getI d_scn_at_6 f_scn_19 rfl ?_
      refine rp_icmp_ge (tgt := 21) d_scn_at_9 (by decide) (fun c9 => ?_) (fun c9 => ?_)
      · exact absurd c9 (by rw [hn]; exact nI_ge hlt (by omega))
      · refine rp_aload_n (i := 0) d_scn_at_12 rfl rfl ?_
        refine rp_getR d_scn_at_13 f_scn_15 rfl hc ?_
        refine rp_iload_n (i := 1) d_scn_at_16 rfl rfl ?_
        refine rp_caload d_scn_at_17 rfl (vp_in_nI (by omega) (by omega)) ?_
        refine rp_goto (tgt := 22) d_scn_at_18 (by decide) ?_
        refine rp_ireturn (ty := .char) d_scn_at_22 rfl (by rw [nI_clamp (by omega)]; exact c_nar hz) ?_
        rw [nI_clamp (by omega)]; exact k
  · rw [c_g, r_at, if_neg (by omega)] at k
    refine rp_iload_n (i := 1) d_scn_at_0 rfl rfl ?_
    refine rp_if_lt (tgt := 21) d_scn_at_1 (by decide) (fun c1 => ?_) (fun c1 => ?_)
    · exact absurd c1 (nI_pos (by omega))
    · refine rp_iload_n (i := 1) d_scn_at_4 rfl rfl ?_
      refine rp_aload_n (i := 0) d_scn_at_5 rfl rfl ?_
      refine rp_getI d_scn_at_6 f_scn_19 rfl ?_
      refine rp_icmp_ge (tgt := 21) d_scn_at_9 (by decide) (fun c9 => ?_) (fun c9 => ?_)
      · refine rp_iconst (v := 0) d_scn_at_21 (by decide) ?_
        refine rp_ireturn (ty := .char) d_scn_at_22 rfl (by first | rfl | decide | assumption) ?_
        exact k
      · exact absurd (by rw [hn]; exact nI_le hge (by omega)) c9
set_option maxHeartbeats 4000000 in
set_option maxRecDepth 100000 in
theorem s_scn_isDigit {h : cf_H} {P : Option Value → cf_H → Prop} {x : Int32} (k : P (some (.int (cf_b (r_dg x)))) h) : RP k_scn_isDigit 0 [(0, .ref 6), (1, .int x)] [] h P := by
  refine rp_iload_n (i := 1) d_scn_isDigit_0 rfl rfl ?_
  refine rp_bipush (v := 48) d_scn_isDigit_1 (by decide) ?_
  refine rp_icmp_lt (tgt := 16) d_scn_isDigit_3 (by decide) (fun c3 => ?_) (fun c3 => ?_)
  · refine rp_iconst (v := 0) d_scn_isDigit_16 (by decide) ?_
    refine rp_ireturn (ty := .boolean) d_scn_isDigit_17 rfl (by first | rfl | decide | assumption) ?_
    simpa [cf_b, r_dg, c3] using k
  · refine rp_iload_n (i := 1) d_scn_isDigit_6 rfl rfl ?_
    refine rp_bipush (v := 57) d_scn_isDigit_7 (by decide) ?_
    refine rp_icmp_gt (tgt := 16) d_scn_isDigit_9 (by decide) (fun c9 => ?_) (fun c9 => ?_)
    · refine rp_iconst (v := 0) d_scn_isDigit_16 (by decide) ?_
      refine rp_ireturn (ty := .boolean) d_scn_isDigit_17 rfl (by first | rfl | decide | assumption) ?_
      simpa [cf_b, r_dg, c3, c9] using k
    · refine rp_iconst (v := 1) d_scn_isDigit_12 (by decide) ?_
      refine rp_goto (tgt := 17) d_scn_isDigit_13 (by decide) ?_
      refine rp_ireturn (ty := .boolean) d_scn_isDigit_17 rfl (by first | rfl | decide | assumption) ?_
      simpa [cf_b, r_dg, c3, c9] using k
set_option maxHeartbeats 4000000 in
set_option maxRecDepth 100000 in
theorem s_scn_isFieldLength {h : cf_H} {P : Option Value → cf_H → Prop} {x y : Int32} (k : P (some (.int (cf_b (r_fit x y)))) h) : RP k_scn_isFieldLength 0 [(0, .ref 6), (1, .int x), (2, .int y)] [] h P := by
  refine rp_iload_n (i := 1) d_scn_isFieldLength_0 rfl rfl ?_
  refine rp_bipush (v := 121) d_scn_isFieldLength_1 (by decide) ?_
  refine rp_icmp_ne (tgt := 22) d_scn_isFieldLength_3 (by decide) (fun c3 => ?_) (fun c3 => ?_)
  · refine rp_iload_n (i := 1) d_scn_isFieldLength_22 rfl rfl ?_
    refine rp_bipush (v := 109) d_scn_isFieldLength_23 (by decide) ?_
    refine rp_icmp_eq (tgt := 34) d_scn_isFieldLength_25 (by decide) (fun c25 => ?_) (fun c25 => ?_)
    · refine rp_iload_n (i := 2) d_scn_isFieldLength_34 rfl rfl ?_
      refine rp_iconst (v := 3) d_scn_isFieldLength_35 (by decide) ?_
      refine rp_icmp_gt (tgt := 43) d_scn_isFieldLength_36 (by decide) (fun c36 => ?_) (fun c36 => ?_)
      · refine rp_iconst (v := 0) d_scn_isFieldLength_43 (by decide) ?_
        refine rp_goto (tgt := 57) d_scn_isFieldLength_44 (by decide) ?_
        refine rp_ireturn (ty := .boolean) d_scn_isFieldLength_57 rfl (by first | rfl | decide | assumption) ?_
        simpa [cf_b, r_fit, c3, c25, c36] using k
      · refine rp_iconst (v := 1) d_scn_isFieldLength_39 (by decide) ?_
        refine rp_goto (tgt := 57) d_scn_isFieldLength_40 (by decide) ?_
        refine rp_ireturn (ty := .boolean) d_scn_isFieldLength_57 rfl (by first | rfl | decide | assumption) ?_
        simpa [cf_b, r_fit, c3, c25, c36] using k
    · refine rp_iload_n (i := 1) d_scn_isFieldLength_28 rfl rfl ?_
      refine rp_bipush (v := 100) d_scn_isFieldLength_29 (by decide) ?_
      refine rp_icmp_ne (tgt := 47) d_scn_isFieldLength_31 (by decide) (fun c31 => ?_) (fun c31 => ?_)
      · refine rp_iload_n (i := 2) d_scn_isFieldLength_47 rfl rfl ?_
        refine rp_iconst (v := 2) d_scn_isFieldLength_48 (by decide) ?_
        refine rp_icmp_gt (tgt := 56) d_scn_isFieldLength_49 (by decide) (fun c49 => ?_) (fun c49 => ?_)
        · refine rp_iconst (v := 0) d_scn_isFieldLength_56 (by decide) ?_
          refine rp_ireturn (ty := .boolean) d_scn_isFieldLength_57 rfl (by first | rfl | decide | assumption) ?_
          simpa [cf_b, r_fit, c3, c25, c31, c49] using k
        · refine rp_iconst (v := 1) d_scn_isFieldLength_52 (by decide) ?_
          refine rp_goto (tgt := 57) d_scn_isFieldLength_53 (by decide) ?_
          refine rp_ireturn (ty := .boolean) d_scn_isFieldLength_57 rfl (by first | rfl | decide | assumption) ?_
          simpa [cf_b, r_fit, c3, c25, c31, c49] using k
      · refine rp_iload_n (i := 2) d_scn_isFieldLength_34 rfl rfl ?_
        refine rp_iconst (v := 3) d_scn_isFieldLength_35 (by decide) ?_
        refine rp_icmp_gt (tgt := 43) d_scn_isFieldLength_36 (by decide) (fun c36 => ?_) (fun c36 => ?_)
        · refine rp_iconst (v := 0) d_scn_isFieldLength_43 (by decide) ?_
          refine rp_goto (tgt := 57) d_scn_isFieldLength_44 (by decide) ?_
          refine rp_ireturn (ty := .boolean) d_scn_isFieldLength_57 rfl (by first | rfl | decide | assumption) ?_
          simpa [cf_b, r_fit, c3, c25, c31, c36] using k
        · refine rp_iconst (v := 1) d_scn_isFieldLength_39 (by decide) ?_
          refine rp_goto (tgt := 57) d_scn_isFieldLength_40 (by decide) ?_
          refine rp_ireturn (ty := .boolean) d_scn_isFieldLength_57 rfl (by first | rfl | decide | assumption) ?_
          simpa [cf_b, r_fit, c3, c25, c31, c36] using k
  · refine rp_iload_n (i := 2) d_scn_isFieldLength_6 rfl rfl ?_
    refine rp_iconst (v := 2) d_scn_isFieldLength_7 (by decide) ?_
    refine rp_icmp_eq (tgt := 16) d_scn_isFieldLength_8 (by decide) (fun c8 => ?_) (fun c8 => ?_)
    · refine rp_iconst (v := 1) d_scn_isFieldLength_16 (by decide) ?_
      refine rp_goto (tgt := 21) d_scn_isFieldLength_17 (by decide) ?_
      refine rp_ireturn (ty := .boolean) d_scn_isFieldLength_21 rfl (by first | rfl | decide | assumption) ?_
      simpa [cf_b, r_fit, c3, c8] using k
    · refine rp_iload_n (i := 2) d_scn_isFieldLength_11 rfl rfl ?_
      refine rp_iconst (v := 4) d_scn_isFieldLength_12 (by decide) ?_
      refine rp_icmp_ne (tgt := 20) d_scn_isFieldLength_13 (by decide) (fun c13 => ?_) (fun c13 => ?_)
      · refine rp_iconst (v := 0) d_scn_isFieldLength_20 (by decide) ?_
        refine rp_ireturn (ty := .boolean) d_scn_isFieldLength_21 rfl (by first | rfl | decide | assumption) ?_
        simpa [cf_b, r_fit, c3, c8, c13] using k
      · refine rp_iconst (v := 1) d_scn_isFieldLength_16 (by decide) ?_
        refine rp_goto (tgt := 21) d_scn_isFieldLength_17 (by decide) ?_
        refine rp_ireturn (ty := .boolean) d_scn_isFieldLength_21 rfl (by first | rfl | decide | assumption) ?_
        simpa [cf_b, r_fit, c3, c8, c13] using k
set_option maxHeartbeats 4000000 in
set_option maxRecDepth 100000 in
theorem s_scn_testAt {h : cf_H} {P : Option Value → cf_H → Prop} {n : Nat} (hS : c_S h n) {x : Int32} {j : Nat} (hx : x = nI j) (hj : j < 2 ^ 29) (k : P (some (.int (c_tst (r_cmp (c_g h n) j)))) h) : RP k_scn_testAt 0 [(0, .ref 6), (1, .int x)] [] h P := by
  subst hx
  obtain ⟨hR, hc, hn, h40, hv⟩ := id hS
  refine rp_aload_n (i := 0) d_scn_testAt_0 rfl rfl ?_
  refine rp_iload_n (i := 1) d_scn_testAt_1 rfl rfl ?_
  refine rp_callV1 d_scn_testAt_2 q_scn_testAt_38 (Or.inl ⟨_, _, _, rfl, rfl⟩) (Nat.le_of_ble_eq_true rfl) (Nat.le_of_ble_eq_true rfl) ?_
  refine s_scn_at hS (j := j) (rfl) (by omega) ?_
  refine rp_istore_n (i := 2) d_scn_testAt_5 rfl rfl (Nat.le_of_ble_eq_true rfl) ?_
  refine rp_aload_n (i := 0) d_scn_testAt_6 rfl rfl ?_
  refine rp_iload_n (i := 1) d_scn_testAt_7 rfl rfl ?_
  refine rp_iconst (v := 1) d_scn_testAt_8 (by decide) ?_
  refine rp_iadd d_scn_testAt_9 ?_
  refine rp_callV1 d_scn_testAt_10 q_scn_testAt_38 (Or.inl ⟨_, _, _, rfl, rfl⟩) (Nat.le_of_ble_eq_true rfl) (Nat.le_of_ble_eq_true rfl) ?_
  refine s_scn_at hS (j := j + 1) (nI_add j 1) (by omega) ?_
  refine rp_istore_n (i := 3) d_scn_testAt_13 rfl rfl (Nat.le_of_ble_eq_true rfl) ?_
  refine rp_iload_n (i := 2) d_scn_testAt_14 rfl rfl ?_
  refine rp_bipush (v := 61) d_scn_testAt_15 (by decide) ?_
  refine rp_icmp_ne (tgt := 22) d_scn_testAt_17 (by decide) (fun c17 => ?_) (fun c17 => ?_)
  · refine rp_iload_n (i := 2) d_scn_testAt_22 rfl rfl ?_
    refine rp_bipush (v := 62) d_scn_testAt_23 (by decide) ?_
    refine rp_icmp_ne (tgt := 41) d_scn_testAt_25 (by decide) (fun c25 => ?_) (fun c25 => ?_)
    · refine rp_iload_n (i := 2) d_scn_testAt_41 rfl rfl ?_
      refine rp_bipush (v := 60) d_scn_testAt_42 (by decide) ?_
      refine rp_icmp_eq (tgt := 49) d_scn_testAt_44 (by decide) (fun c44 => ?_) (fun c44 => ?_)
      · refine rp_iload_n (i := 3) d_scn_testAt_49 rfl rfl ?_
        refine rp_bipush (v := 61) d_scn_testAt_50 (by decide) ?_
        refine rp_icmp_ne (tgt := 57) d_scn_testAt_52 (by decide) (fun c52 => ?_) (fun c52 => ?_)
        · refine rp_iload_n (i := 3) d_scn_testAt_57 rfl rfl ?_
          refine rp_bipush (v := 62) d_scn_testAt_58 (by decide) ?_
          refine rp_icmp_ne (tgt := 67) d_scn_testAt_60 (by decide) (fun c60 => ?_) (fun c60 => ?_)
          · refine rp_iconst (v := 1) d_scn_testAt_67 (by decide) ?_
            refine rp_ireturn (ty := .int) d_scn_testAt_68 rfl rfl ?_
            simpa [c_tst, r_cmp, c17, c25, c44, c52, c60] using k
          · refine rp_iconst (v := 5) d_scn_testAt_63 (by decide) ?_
            refine rp_goto (tgt := 68) d_scn_testAt_64 (by decide) ?_
            refine rp_ireturn (ty := .int) d_scn_testAt_68 rfl rfl ?_
            simpa [c_tst, r_cmp, c17, c25, c44, c52, c60] using k
        · refine rp_iconst (v := 3) d_scn_testAt_55 (by decide) ?_
          refine rp_ireturn (ty := .int) d_scn_testAt_56 rfl rfl ?_
          simpa [c_tst, r_cmp, c17, c25, c44, c52] using k
      · refine rp_iconst (v := 0) d_scn_testAt_47 (by decide) ?_
        refine rp_ireturn (ty := .int) d_scn_testAt_48 rfl rfl ?_
        simpa [c_tst, r_cmp, c17, c25, c44] using k
    · refine rp_iload_n (i := 3) d_scn_testAt_28 rfl rfl ?_
      refine rp_bipush (v := 61) d_scn_testAt_29 (by decide) ?_
      refine rp_icmp_ne (tgt := 39) d_scn_testAt_31 (by decide) (fun c31 => ?_) (fun c31 => ?_)
      · refine rp_iconst (v := 4) d_scn_testAt_39 (by decide) ?_
        refine rp_ireturn (ty := .int) d_scn_testAt_40 rfl rfl ?_
        simpa [c_tst, r_cmp, c17, c25, c31] using k
      · refine rp_bipush (v := 6) d_scn_testAt_34 (by decide) ?_
        refine rp_goto (tgt := 40) d_scn_testAt_36 (by decide) ?_
        refine rp_ireturn (ty := .int) d_scn_testAt_40 rfl rfl ?_
        simpa [c_tst, r_cmp, c17, c25, c31] using k
  · refine rp_iconst (v := 2) d_scn_testAt_20 (by decide) ?_
    refine rp_ireturn (ty := .int) d_scn_testAt_21 rfl rfl ?_
    simpa [c_tst, r_cmp, c17] using k
set_option maxHeartbeats 4000000 in
set_option maxRecDepth 100000 in
theorem s_scn_scanEscaped {h : cf_H} {P : Option Value → cf_H → Prop} {n : Nat} (hS : c_S h n) {t : Nat} (ht : h.1 2 3 = nI t) (ht40 : t < 40) {x : Int32} {p : Nat} (hx : x = nI p) (hp : p < 2 ^ 28) (k : P (some (.int (if p + 1 < n then 2 else 0))) (if p + 1 < n then f_add h 1 (if c_g h n p = 95 then 32 else c_g h n (p + 1)) 0 else h)) : RP k_scn_scanEscaped 0 [(0, .ref 6), (1, .int x)] [] h P := by
  subst hx
  obtain ⟨hR, hc, hn, h40, hv⟩ := id hS
  refine rp_iload_n (i := 1) d_scn_scanEscaped_0 rfl rfl ?_
  refine rp_iconst (v := 1) d_scn_scanEscaped_1 (by decide) ?_
  refine rp_iadd d_scn_scanEscaped_2 ?_
  refine rp_aload_n (i := 0) d_scn_scanEscaped_3 rfl rfl ?_
  refine rp_getI d_scn_scanEscaped_4 f_scn_19 rfl ?_
  refine rp_icmp_lt (tgt := 12) d_scn_scanEscaped_7 (by decide) (fun c7 => ?_) (fun c7 => ?_)
  · refine rp_aload_n (i := 0) d_scn_scanEscaped_12 rfl rfl ?_
    refine rp_getR d_scn_scanEscaped_13 f_scn_9 rfl (hR _ _ _ rfl) ?_
    refine rp_iconst (v := 1) d_scn_scanEscaped_16 (by decide) ?_
    refine rp_aload_n (i := 0) d_scn_scanEscaped_17 rfl rfl ?_
    refine rp_iload_n (i := 1) d_scn_scanEscaped_18 rfl rfl ?_
    refine rp_callV1 d_scn_scanEscaped_19 q_scn_scanEscaped_38 (Or.inl ⟨_, _, _, rfl, rfl⟩) (Nat.le_of_ble_eq_true rfl) (Nat.le_of_ble_eq_true rfl) ?_
    refine s_scn_at hS (j := p) (rfl) (by omega) ?_
    refine rp_bipush (v := 95) d_scn_scanEscaped_22 (by decide) ?_
    refine rp_icmp_ne (tgt := 32) d_scn_scanEscaped_24 (by decide) (fun c24 => ?_) (fun c24 => ?_)
    · refine rp_aload_n (i := 0) d_scn_scanEscaped_32 rfl rfl ?_
      refine rp_iload_n (i := 1) d_scn_scanEscaped_33 rfl rfl ?_
      refine rp_iconst (v := 1) d_scn_scanEscaped_34 (by decide) ?_
      refine rp_iadd d_scn_scanEscaped_35 ?_
      refine rp_callV1 d_scn_scanEscaped_36 q_scn_scanEscaped_38 (Or.inl ⟨_, _, _, rfl, rfl⟩) (Nat.le_of_ble_eq_true rfl) (Nat.le_of_ble_eq_true rfl) ?_
      refine s_scn_at hS (j := p + 1) (nI_add p 1) (by omega) ?_
      refine rp_iconst (v := 0) d_scn_scanEscaped_39 (by decide) ?_
      refine rp_callV3 d_scn_scanEscaped_40 q_scn_scanEscaped_71 (Or.inl ⟨_, _, _, rfl, rfl⟩) (Nat.le_of_ble_eq_true rfl) (Nat.le_of_ble_eq_true rfl) ?_
      refine s_tok_add hR ht ht40 ?_
      refine rp_iconst (v := 2) d_scn_scanEscaped_43 (by decide) ?_
      refine rp_ireturn (ty := .int) d_scn_scanEscaped_44 rfl rfl ?_
      first
      | (rw [hn, nI_1, nI_ltI (by omega) (by omega)] at c7; simpa [c7, c24] using k)
      | (rw [hn, nI_1, nI_ltI (by omega) (by omega)] at c7; simpa [c7] using k)
    · refine rp_bipush (v := 32) d_scn_scanEscaped_27 (by decide) ?_
      refine rp_goto (tgt := 39) d_scn_scanEscaped_29 (by decide) ?_
      refine rp_iconst (v := 0) d_scn_scanEscaped_39 (by decide) ?_
      refine rp_callV3 d_scn_scanEscaped_40 q_scn_scanEscaped_71 (Or.inl ⟨_, _, _, rfl, rfl⟩) (Nat.le_of_ble_eq_true rfl) (Nat.le_of_ble_eq_true rfl) ?_
      refine s_tok_add hR ht ht40 ?_
      refine rp_iconst (v := 2) d_scn_scanEscaped_43 (by decide) ?_
      refine rp_ireturn (ty := .int) d_scn_scanEscaped_44 rfl rfl ?_
      first
      | (rw [hn, nI_1, nI_ltI (by omega) (by omega)] at c7; simpa [c7, c24] using k)
      | (rw [hn, nI_1, nI_ltI (by omega) (by omega)] at c7; simpa [c7] using k)
  · refine rp_iconst (v := 0) d_scn_scanEscaped_10 (by decide) ?_
    refine rp_ireturn (ty := .int) d_scn_scanEscaped_11 rfl rfl ?_
    first
    | (rw [hn, nI_1, nI_ltI (by omega) (by omega)] at c7; simpa [c7, c24] using k)
    | (rw [hn, nI_1, nI_ltI (by omega) (by omega)] at c7; simpa [c7] using k)
set_option maxHeartbeats 4000000 in
set_option maxRecDepth 100000 in
theorem s_scn_scanExponent {h : cf_H} {P : Option Value → cf_H → Prop} {n : Nat} (hS : c_S h n) {t : Nat} (ht : h.1 2 3 = nI t) (ht40 : t < 40) {x : Int32} {p : Nat} (hx : x = nI p) (hp : p < 2 ^ 28) (k : P (some (.int (if c_g h n (p + 1) = 43 ∨ c_g h n (p + 1) = 45 then 2 else 0))) (if c_g h n (p + 1) = 43 ∨ c_g h n (p + 1) = 45 then f_add h 6 (c_g h n (p + 1)) 0 else h)) : RP k_scn_scanExponent 0 [(0, .ref 6), (1, .int x)] [] h P := by
  subst hx
  obtain ⟨hR, hc, hn, h40, hv⟩ := id hS
  refine rp_aload_n (i := 0) d_scn_scanExponent_0 rfl rfl ?_
  refine rp_iload_n (i := 1) d_scn_scanExponent_1 rfl rfl ?_
  refine rp_iconst (v := 1) d_scn_scanExponent_2 (by decide) ?_
  refine rp_iadd d_scn_scanExponent_3 ?_
  refine rp_callV1 d_scn_scanExponent_4 q_scn_scanExponent_38 (Or.inl ⟨_, _, _, rfl, rfl⟩) (Nat.le_of_ble_eq_true rfl) (Nat.le_of_ble_eq_true rfl) ?_
  refine s_scn_at hS (j := p + 1) (nI_add p 1) (by omega) ?_
  refine rp_istore_n (i := 2) d_scn_scanExponent_7 rfl rfl (Nat.le_of_ble_eq_true rfl) ?_
  refine rp_iload_n (i := 2) d_scn_scanExponent_8 rfl rfl ?_
  refine rp_bipush (v := 43) d_scn_scanExponent_9 (by decide) ?_
  refine rp_icmp_eq (tgt := 22) d_scn_scanExponent_11 (by decide) (fun c11 => ?_) (fun c11 => ?_)
  · refine rp_aload_n (i := 0) d_scn_scanExponent_22 rfl rfl ?_
    refine rp_getR d_scn_scanExponent_23 f_scn_9 rfl (hR _ _ _ rfl) ?_
    refine rp_bipush (v := 6) d_scn_scanExponent_26 (by decide) ?_
    refine rp_iload_n (i := 2) d_scn_scanExponent_28 rfl rfl ?_
    refine rp_iconst (v := 0) d_scn_scanExponent_29 (by decide) ?_
    refine rp_callV3 d_scn_scanExponent_30 q_scn_scanExponent_71 (Or.inl ⟨_, _, _, rfl, rfl⟩) (Nat.le_of_ble_eq_true rfl) (Nat.le_of_ble_eq_true rfl) ?_
    refine s_tok_add hR ht ht40 ?_
    refine rp_iconst (v := 2) d_scn_scanExponent_33 (by decide) ?_
    refine rp_ireturn (ty := .int) d_scn_scanExponent_34 rfl rfl ?_
    first
    | (rw [if_pos (by simp [c11]), if_pos (by simp [c11])] at k; exact k)
    | (rw [if_neg (by simp [c11]), if_neg (by simp [c11])] at k; exact k)
  · refine rp_iload_n (i := 2) d_scn_scanExponent_14 rfl rfl ?_
    refine rp_bipush (v := 45) d_scn_scanExponent_15 (by decide) ?_
    refine rp_icmp_eq (tgt := 22) d_scn_scanExponent_17 (by decide) (fun c17 => ?_) (fun c17 => ?_)
    · refine rp_aload_n (i := 0) d_scn_scanExponent_22 rfl rfl ?_
      refine rp_getR d_scn_scanExponent_23 f_scn_9 rfl (hR _ _ _ rfl) ?_
      refine rp_bipush (v := 6) d_scn_scanExponent_26 (by decide) ?_
      refine rp_iload_n (i := 2) d_scn_scanExponent_28 rfl rfl ?_
      refine rp_iconst (v := 0) d_scn_scanExponent_29 (by decide) ?_
      refine rp_callV3 d_scn_scanExponent_30 q_scn_scanExponent_71 (Or.inl ⟨_, _, _, rfl, rfl⟩) (Nat.le_of_ble_eq_true rfl) (Nat.le_of_ble_eq_true rfl) ?_
      refine s_tok_add hR ht ht40 ?_
      refine rp_iconst (v := 2) d_scn_scanExponent_33 (by decide) ?_
      refine rp_ireturn (ty := .int) d_scn_scanExponent_34 rfl rfl ?_
      first
      | (rw [if_pos (by simp [c11, c17]), if_pos (by simp [c11, c17])] at k; exact k)
      | (rw [if_neg (by simp [c11, c17]), if_neg (by simp [c11, c17])] at k; exact k)
    · refine rp_iconst (v := 0) d_scn_scanExponent_20 (by decide) ?_
      refine rp_ireturn (ty := .int) d_scn_scanExponent_21 rfl rfl ?_
      first
      | (rw [if_pos (by simp [c11, c17]), if_pos (by simp [c11, c17])] at k; exact k)
      | (rw [if_neg (by simp [c11, c17]), if_neg (by simp [c11, c17])] at k; exact k)
theorem j_am : ∀ j, j < 5 → j_ch 1 j = (match j with | 0 => 65 | 1 => 77 | 2 => 47 | 3 => 80 | _ => 77) := by decide +kernel
theorem j_am1 : ∀ j, j < 5 → j_ch 1 j = ([65, 77, 47, 80, 77] : List Int32).getD j 0 := by decide +kernel
def c_mer (g : Nat → Int32) (p : Nat) : Nat → Nat → Bool
  | _, 0 => true
  | j, m + 1 => if g (p + j) = j_ch 1 j then c_mer g p (j + 1) m else false
set_option maxHeartbeats 4000000 in
set_option maxRecDepth 100000 in
theorem l_scn_mer {h : cf_H} {P : Option Value → cf_H → Prop} {n : Nat} (hS : c_S h n) {t : Nat} (ht : h.1 2 3 = nI t) (ht40 : t < 40) {p : Nat} (hp : p < 2 ^ 28) : ∀ (m j : Nat), j + m = 5 → (k : P (some (.int (bif c_mer (c_g h n) p j m then 5 else 0))) (bif c_mer (c_g h n) p j m then f_add h 10 65 0 else h)) → RP k_scn_scanMeridiem 2 [(0, .ref 6), (1, .int (nI p)), (2, .int (nI j))] [] h P := by
  obtain ⟨hR, hc, hn, h40, hv⟩ := id hS
  intro m
  induction m with
  | zero =>
    intro j e k
    have e : j = 5 := e
    subst e
    refine rp_iload_n (i := 2) d_scn_scanMeridiem_2 rfl rfl ?_
    refine rp_ldcS (i := 1) d_scn_scanMeridiem_3 rfl ?_
    refine rp_callV0 d_scn_scanMeridiem_5 q_scn_scanMeridiem_89 (Or.inr ⟨1, _, rfl, rfl, rfl⟩) (Nat.le_of_ble_eq_true rfl) (Nat.le_of_ble_eq_true rfl) ?_
    refine s_str_length (L := 5) rfl rfl (by decide) ?_
    refine rp_icmp_ge (tgt := 35) d_scn_scanMeridiem_8 (by decide) (fun c8 => ?_) (fun c8 => ?_)
    · refine rp_aload_n (i := 0) d_scn_scanMeridiem_35 rfl rfl ?_
      refine rp_getR d_scn_scanMeridiem_36 f_scn_9 rfl (hR _ _ _ rfl) ?_
      refine rp_bipush (v := 10) d_scn_scanMeridiem_39 (by decide) ?_
      refine rp_bipush (v := 65) d_scn_scanMeridiem_41 (by decide) ?_
      refine rp_iconst (v := 0) d_scn_scanMeridiem_43 (by decide) ?_
      refine rp_callV3 d_scn_scanMeridiem_44 q_scn_scanMeridiem_71 (Or.inl ⟨_, _, _, rfl, rfl⟩) (Nat.le_of_ble_eq_true rfl) (Nat.le_of_ble_eq_true rfl) ?_
      refine s_tok_add hR ht ht40 ?_
      refine rp_ldcS (i := 1) d_scn_scanMeridiem_47 rfl ?_
      refine rp_callV0 d_scn_scanMeridiem_49 q_scn_scanMeridiem_89 (Or.inr ⟨1, _, rfl, rfl, rfl⟩) (Nat.le_of_ble_eq_true rfl) (Nat.le_of_ble_eq_true rfl) ?_
      refine s_str_length (L := 5) rfl rfl (by decide) ?_
      refine rp_ireturn (ty := .int) d_scn_scanMeridiem_52 rfl rfl ?_
      exact k
    · exact absurd (by decide) c8
  | succ m ih =>
    intro j e k
    refine rp_iload_n (i := 2) d_scn_scanMeridiem_2 rfl rfl ?_
    refine rp_ldcS (i := 1) d_scn_scanMeridiem_3 rfl ?_
    refine rp_callV0 d_scn_scanMeridiem_5 q_scn_scanMeridiem_89 (Or.inr ⟨1, _, rfl, rfl, rfl⟩) (Nat.le_of_ble_eq_true rfl) (Nat.le_of_ble_eq_true rfl) ?_
    refine s_str_length (L := 5) rfl rfl (by decide) ?_
    refine rp_icmp_ge (tgt := 35) d_scn_scanMeridiem_8 (by decide) (fun c8 => ?_) (fun c8 => ?_)
    · exact absurd c8 (nI_ge (by omega) (by decide))
    · refine rp_aload_n (i := 0) d_scn_scanMeridiem_11 rfl rfl ?_
      refine rp_iload_n (i := 1) d_scn_scanMeridiem_12 rfl rfl ?_
      refine rp_iload_n (i := 2) d_scn_scanMeridiem_13 rfl rfl ?_
      refine rp_iadd d_scn_scanMeridiem_14 ?_
      refine rp_callV1 d_scn_scanMeridiem_15 q_scn_scanMeridiem_38 (Or.inl ⟨_, _, _, rfl, rfl⟩) (Nat.le_of_ble_eq_true rfl) (Nat.le_of_ble_eq_true rfl) ?_
      refine s_scn_at hS (j := p + j) (nI_add p j) (by omega) ?_
      refine rp_ldcS (i := 1) d_scn_scanMeridiem_18 rfl ?_
      refine rp_iload_n (i := 2) d_scn_scanMeridiem_20 rfl rfl ?_
      refine rp_callV1 d_scn_scanMeridiem_21 q_scn_scanMeridiem_92 (Or.inr ⟨1, _, rfl, rfl, rfl⟩) (Nat.le_of_ble_eq_true rfl) (Nat.le_of_ble_eq_true rfl) ?_
      refine s_str_charAt (L := 5) rfl rfl (by decide) rfl (by omega) ?_
      refine rp_icmp_eq (tgt := 29) d_scn_scanMeridiem_24 (by decide) (fun c24 => ?_) (fun c24 => ?_)
      · refine rp_iinc (i := 2) (y := 1) d_scn_scanMeridiem_29 rfl (by decide) rfl (Nat.le_of_ble_eq_true rfl) ?_
        refine rp_goto (tgt := 2) d_scn_scanMeridiem_32 (by decide) ?_
        refine rp_lv [(0, .ref 6), (1, .int (nI p)), (2, .int (nI (j + 1)))] (by simp only [nI_succ]; rfl) ?_
        refine ih (j + 1) (by omega) ?_
        rw [c_mer, if_pos c24] at k
        exact k
      · refine rp_iconst (v := 0) d_scn_scanMeridiem_27 (by decide) ?_
        refine rp_ireturn (ty := .int) d_scn_scanMeridiem_28 rfl rfl ?_
        rw [c_mer, if_neg c24] at k
        exact k
set_option maxHeartbeats 4000000 in
set_option maxRecDepth 100000 in
theorem s_scn_scanMeridiem {h : cf_H} {P : Option Value → cf_H → Prop} {n : Nat} (hS : c_S h n) {t : Nat} (ht : h.1 2 3 = nI t) (ht40 : t < 40) {x : Int32} {p : Nat} (hx : x = nI p) (hp : p < 2 ^ 28) (k : P (some (.int (bif c_mer (c_g h n) p 0 5 then 5 else 0))) (bif c_mer (c_g h n) p 0 5 then f_add h 10 65 0 else h)) : RP k_scn_scanMeridiem 0 [(0, .ref 6), (1, .int x)] [] h P := by
  subst hx
  refine rp_iconst (v := 0) d_scn_scanMeridiem_0 (by decide) ?_
  refine rp_istore_n (i := 2) d_scn_scanMeridiem_1 rfl rfl (Nat.le_of_ble_eq_true rfl) ?_
  refine rp_lv [(0, .ref 6), (1, .int (nI p)), (2, .int (nI 0))] rfl ?_
  exact l_scn_mer hS ht ht40 hp 5 0 rfl k
set_option maxHeartbeats 4000000 in
set_option maxRecDepth 100000 in
theorem l_scn_field {h : cf_H} {P : Option Value → cf_H → Prop} {n : Nat} (hS : c_S h n) {p : Nat} {c : Int32} (hp : p < 2 ^ 28) : ∀ (r q : Nat), r = n - q → q < 2 ^ 28 → (k : RP k_scn_scanField 33 [(0, .ref 6), (1, .int (nI p)), (2, .int c), (3, .int (nI (q + r_same (c_g h n) c q r)))] [] h P) → RP k_scn_scanField 10 [(0, .ref 6), (1, .int (nI p)), (2, .int c), (3, .int (nI q))] [] h P := by
  obtain ⟨hR, hc, hn, h40, hv⟩ := id hS
  intro r
  induction r with
  | zero =>
    intro q e hq k
    refine rp_iload_n (i := 3) d_scn_scanField_10 rfl rfl ?_
    refine rp_aload_n (i := 0) d_scn_scanField_11 rfl rfl ?_
    refine rp_getI d_scn_scanField_12 f_scn_19 rfl ?_
    refine rp_icmp_ge (tgt := 33) d_scn_scanField_15 (by decide) (fun c15 => ?_) (fun c15 => ?_)
    · exact rp_lv _ rfl k
    · exact absurd (by rw [hn]; exact nI_le (by omega) (by omega)) c15
  | succ r ih =>
    intro q e hq k
    have hlt : q < n := by omega
    refine rp_iload_n (i := 3) d_scn_scanField_10 rfl rfl ?_
    refine rp_aload_n (i := 0) d_scn_scanField_11 rfl rfl ?_
    refine rp_getI d_scn_scanField_12 f_scn_19 rfl ?_
    refine rp_icmp_ge (tgt := 33) d_scn_scanField_15 (by decide) (fun c15 => ?_) (fun c15 => ?_)
    · exact absurd c15 (by rw [hn]; exact nI_ge hlt (by omega))
    · refine rp_aload_n (i := 0) d_scn_scanField_18 rfl rfl ?_
      refine rp_iload_n (i := 3) d_scn_scanField_19 rfl rfl ?_
      refine rp_callV1 d_scn_scanField_20 q_scn_scanField_38 (Or.inl ⟨_, _, _, rfl, rfl⟩) (Nat.le_of_ble_eq_true rfl) (Nat.le_of_ble_eq_true rfl) ?_
      refine s_scn_at hS (j := q) (rfl) (by omega) ?_
      refine rp_iload_n (i := 2) d_scn_scanField_23 rfl rfl ?_
      refine rp_icmp_ne (tgt := 33) d_scn_scanField_24 (by decide) (fun c24 => ?_) (fun c24 => ?_)
      · rw [r_same, show decide (c_g h n q = c) = false by simp [c24]] at k
        exact rp_lv _ rfl k
      · refine rp_iinc (i := 3) (y := 1) d_scn_scanField_27 rfl (by decide) rfl (Nat.le_of_ble_eq_true rfl) ?_
        refine rp_goto (tgt := 10) d_scn_scanField_30 (by decide) ?_
        rw [r_same, show decide (c_g h n q = c) = true by simp [c24]] at k
        refine rp_lv [(0, .ref 6), (1, .int (nI p)), (2, .int c), (3, .int (nI (q + 1)))] (by simp only [nI_succ]; rfl) ?_
        refine ih (q + 1) (by omega) (by omega) ?_
        rw [show q + 1 + r_same (c_g h n) c (q + 1) r = q + (1 + r_same (c_g h n) c (q + 1) r) by omega]
        exact k
theorem r_same_S {g : Nat → Int32} {p n : Nat} (hp : p < n) : r_same g (g p) p (n - p) = 1 + r_same g (g p) (p + 1) (n - (p + 1)) := by
  rw [show n - p = (n - (p + 1)) + 1 by omega, r_same, show decide (g p = g p) = true by simp]
  rfl
set_option maxHeartbeats 4000000 in
set_option maxRecDepth 100000 in
theorem s_scn_scanField {h : cf_H} {P : Option Value → cf_H → Prop} {n : Nat} (hS : c_S h n) {t : Nat} (ht : h.1 2 3 = nI t) (ht40 : t < 40) {x : Int32} {p : Nat} (hx : x = nI p) (hp : p < n) (k : P (some (.int (bif r_fit (c_g h n p) (nI (r_same (c_g h n) (c_g h n p) p (n - p))) then nI (r_same (c_g h n) (c_g h n p) p (n - p)) else 0))) (bif r_fit (c_g h n p) (nI (r_same (c_g h n) (c_g h n p) p (n - p))) then f_add h 8 (c_g h n p) (nI (r_same (c_g h n) (c_g h n p) p (n - p))) else h)) : RP k_scn_scanField 0 [(0, .ref 6), (1, .int x)] [] h P := by
  subst hx
  obtain ⟨hR, hc, hn, h40, hv⟩ := id hS
  refine rp_aload_n (i := 0) d_scn_scanField_0 rfl rfl ?_
  refine rp_iload_n (i := 1) d_scn_scanField_1 rfl rfl ?_
  refine rp_callV1 d_scn_scanField_2 q_scn_scanField_38 (Or.inl ⟨_, _, _, rfl, rfl⟩) (Nat.le_of_ble_eq_true rfl) (Nat.le_of_ble_eq_true rfl) ?_
  refine s_scn_at hS (j := p) (rfl) (by omega) ?_
  refine rp_istore_n (i := 2) d_scn_scanField_5 rfl rfl (Nat.le_of_ble_eq_true rfl) ?_
  refine rp_iload_n (i := 1) d_scn_scanField_6 rfl rfl ?_
  refine rp_iconst (v := 1) d_scn_scanField_7 (by decide) ?_
  refine rp_iadd d_scn_scanField_8 ?_
  refine rp_istore_n (i := 3) d_scn_scanField_9 rfl rfl (Nat.le_of_ble_eq_true rfl) ?_
  refine rp_lv [(0, .ref 6), (1, .int (nI p)), (2, .int (c_g h n p)), (3, .int (nI (p + 1)))] (by simp only [nI_succ]; rfl) ?_
  refine l_scn_field hS (by omega) (n - (p + 1)) (p + 1) rfl (by omega) ?_
  have hle := r_same_le (c_g h n) (c_g h n p) (n - (p + 1)) (p + 1)
  rw [r_same_S hp] at k
  generalize r_same (c_g h n) (c_g h n p) (p + 1) (n - (p + 1)) = m at k hle ⊢
  have em : nI (p + 1 + m) - nI p = nI (1 + m) := by rw [pk_sub (by omega)]; congr 1; omega
  refine rp_iload_n (i := 3) d_scn_scanField_33 rfl rfl ?_
  refine rp_iload_n (i := 1) d_scn_scanField_34 rfl rfl ?_
  refine rp_isub d_scn_scanField_35 ?_
  rw [em]
  refine rp_istore (i := 4) d_scn_scanField_36 rfl (Nat.le_of_ble_eq_true rfl) ?_
  refine rp_aload_n (i := 0) d_scn_scanField_38 rfl rfl ?_
  refine rp_iload_n (i := 2) d_scn_scanField_39 rfl rfl ?_
  refine rp_iload (i := 4) d_scn_scanField_40 rfl ?_
  refine rp_callV2 d_scn_scanField_42 q_scn_scanField_95 (Or.inl ⟨_, _, _, rfl, rfl⟩) (Nat.le_of_ble_eq_true rfl) (Nat.le_of_ble_eq_true rfl) ?_
  refine s_scn_isFieldLength ?_
  refine rp_if_ne (tgt := 50) d_scn_scanField_45 (by decide) (fun c45 => ?_) (fun c45 => ?_)
  · refine rp_aload_n (i := 0) d_scn_scanField_50 rfl rfl ?_
    refine rp_getR d_scn_scanField_51 f_scn_9 rfl (hR _ _ _ rfl) ?_
    refine rp_bipush (v := 8) d_scn_scanField_54 (by decide) ?_
    refine rp_iload_n (i := 2) d_scn_scanField_56 rfl rfl ?_
    refine rp_iload (i := 4) d_scn_scanField_57 rfl ?_
    refine rp_callV3 d_scn_scanField_59 q_scn_scanField_71 (Or.inl ⟨_, _, _, rfl, rfl⟩) (Nat.le_of_ble_eq_true rfl) (Nat.le_of_ble_eq_true rfl) ?_
    refine s_tok_add hR ht ht40 ?_
    refine rp_iload (i := 4) d_scn_scanField_62 rfl ?_
    refine rp_ireturn (ty := .int) d_scn_scanField_64 rfl rfl ?_
    cases ef : r_fit (c_g h n p) (nI (1 + m)) <;> rw [ef] at k <;> simp [cf_b, ef] at c45
    exact k
  · refine rp_iconst (v := 0) d_scn_scanField_48 (by decide) ?_
    refine rp_ireturn (ty := .int) d_scn_scanField_49 rfl rfl ?_
    cases ef : r_fit (c_g h n p) (nI (1 + m)) <;> rw [ef] at k <;> simp [cf_b, ef] at c45
    exact k
