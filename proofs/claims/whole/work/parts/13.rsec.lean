/-! THE REFERENCE: sections -/
theorem z_le {m : Nat} (hm : m < 2 ^ 31) : nI m ≤ 0 ↔ m = 0 := by
  constructor
  · intro h
    by_cases e : m = 0
    · exact e
    · exact absurd h (nI_nle (by omega) hm)
  · intro h; subst h; decide
theorem z_eq {m : Nat} (hm : m < 2 ^ 31) : nI m = 0 ↔ m = 0 := nI_eq (b := 0) hm (by decide)
theorem cf_cnt_le (p : Nat → Bool) : ∀ n a, cf_cnt p a n ≤ n := by
  intro n
  induction n with
  | zero => intro a; exact Nat.le_refl _
  | succ n ih =>
    intro a
    have := ih (a + 1)
    unfold cf_cnt
    cases p a with
    | true => show 1 + _ ≤ _; omega
    | false => show 0 + _ ≤ _; omega
def r_ct (ty : Nat → Int32) (w : Int32) (a b : Nat) : Nat := cf_cnt (fun j => decide (ty j = w)) a (b - a)
def r_fd (ty : Nat → Int32) (w : Int32) (a b : Nat) : Nat := cf_fst (fun j => decide (ty j = w)) a (b - a)
theorem r_fd_ge (ty : Nat → Int32) (w : Int32) (a b : Nat) : a ≤ r_fd ty w a b := cf_fst_ge _ _ _
theorem r_fd_le {ty : Nat → Int32} {w : Int32} {a b : Nat} (h : a ≤ b) : r_fd ty w a b ≤ b := by
  have := cf_fst_le (fun j => decide (ty j = w)) (b - a) a
  unfold r_fd
  omega
theorem r_ct_le (ty : Nat → Int32) (w : Int32) (a b : Nat) : r_ct ty w a b ≤ b - a := cf_cnt_le _ _ _
def r_kd (ty : Nat → Int32) (a b : Nat) : Int32 := if nI (r_ct ty 9 a b) + nI (r_ct ty 8 a b) + nI (r_ct ty 10 a b) ≤ 0 then (if nI (r_ct ty 2 a b) ≤ 0 then 0 else 1) else 2
def r_ie (ty : Nat → Int32) (a b : Nat) : Nat := if r_fd ty 6 a b ≤ r_fd ty 3 a b then r_fd ty 6 a b else r_fd ty 3 a b
theorem r_ie_ge (ty : Nat → Int32) (a b : Nat) : a ≤ r_ie ty a b := by
  unfold r_ie
  have h1 := r_fd_ge ty 6 a b
  have h2 := r_fd_ge ty 3 a b
  split <;> omega
theorem r_ie_le {ty : Nat → Int32} {a b : Nat} (h : a ≤ b) : r_ie ty a b ≤ b := by
  unfold r_ie
  have h1 := r_fd_le (ty := ty) (w := 6) h
  have h2 := r_fd_le (ty := ty) (w := 3) h
  split <;> omega
def r_gr (ty : Nat → Int32) (a b k : Nat) : Bool := !decide (r_ct ty 2 a k = 0) && !decide (r_ie ty a b ≤ k) && !decide (r_ct ty 2 k (r_ie ty a b) = 0)
/-- back over commas -/
def r_bk (ty : Nat → Int32) (a : Nat) : Nat → Nat
  | 0 => 0
  | p + 1 => if a < p + 1 ∧ ty (p + 1) = 4 then r_bk ty a p else p + 1
theorem r_bk_le (ty : Nat → Int32) (a : Nat) : ∀ p, r_bk ty a p ≤ p := by
  intro p
  induction p with
  | zero => exact Nat.le_refl _
  | succ p ih => unfold r_bk; split <;> omega
def r_scl (ty : Nat → Int32) (a b k : Nat) : Bool := !decide (r_ie ty a b ≤ k) && !decide (r_ct ty 2 a k = 0) && decide (ty (r_bk ty a k) = 2) && decide (r_ct ty 2 k (r_ie ty a b) = 0)
/-- every comma from k on groups or scales -/
def r_cm (ty : Nat → Int32) (a b : Nat) : Nat → Nat → Bool
  | _, 0 => true
  | k, m + 1 => bif decide (ty k = 4) && !r_gr ty a b k && !r_scl ty a b k then false else r_cm ty a b (k + 1) m
def r_w2 (ty : Nat → Int32) (a b : Nat) : Bool :=
  if r_kd ty a b = 2 then decide (nI (r_ct ty 2 a b) + nI (r_ct ty 3 a b) + nI (r_ct ty 4 a b) + nI (r_ct ty 5 a b) + nI (r_ct ty 6 a b) = 0)
  else if r_kd ty a b = 0 then decide (nI (r_ct ty 3 a b) + nI (r_ct ty 4 a b) + nI (r_ct ty 5 a b) + nI (r_ct ty 6 a b) = 0)
  else if 1 < nI (r_ct ty 3 a b) ∨ 1 < nI (r_ct ty 6 a b) ∨ ¬ nI (r_ct ty 5 a b) ≤ 2 then false
  else if nI (r_ct ty 6 a b) = 1 ∧ ((nI (r_ct ty 3 a b) = 1 ∧ nI (r_fd ty 6 a b) < nI (r_fd ty 3 a b)) ∨ nI (r_ct ty 2 (r_fd ty 6 a b) b) = 0 ∨ 0 < nI (r_ct ty 4 a b) ∨ nI (r_ct ty 2 a (r_ie ty a b)) = 0) then false
  else r_cm ty a b a (b - a)
def r_wm (ty : Nat → Int32) (a b : Nat) : Bool :=
  if 1 < nI (r_ct ty 7 a b) ∨ (nI (r_ct ty 7 a b) = 1 ∧ ¬ ty a = 7) then false else r_w2 ty a b
def r_sec (h : cf_H) (s a b : Nat) : Prop := h.2.2.2 25 s = nI a ∧ h.2.2.2 25 (s + 1) = nI b ∧ a ≤ b ∧ b ≤ 40 ∧ s < 41

set_option maxHeartbeats 4000000 in
set_option maxRecDepth 100000 in
theorem l_mod_count {h : cf_H} {P : Option Value → cf_H → Prop} (hR : cf_ok h) {w : Int32} {b : Nat} (hb : b ≤ 40) : ∀ (n a q : Nat), a + n = b → (k : P (some (.int (nI (q + cf_cnt (fun j => decide ((h.2.2.2 22) j = w)) a n)))) h) → RP k_mod_count 6 [(0, .ref 19), (2, .int (nI b)), (3, .int w), (4, .int (nI q)), (5, .int (nI a))] [] h P := by
  intro n
  induction n with
  | zero =>
    intro a q e k
    have e : a = b := e
    subst e
    refine rp_iload (i := 5) d_mod_count_6 rfl ?_
    refine rp_iload_n (i := 2) d_mod_count_8 rfl rfl ?_
    refine rp_icmp_ge (tgt := 39) d_mod_count_9 (by decide) (fun c9 => ?_) (fun c9 => ?_)
    · refine rp_iload (i := 4) d_mod_count_39 rfl ?_
      refine rp_ireturn (ty := .int) d_mod_count_41 rfl rfl ?_
      exact k
    · exact absurd (nI_le (Nat.le_refl _) (by omega)) c9
  | succ n ih =>
    intro a q e k
    have hlt : a < b := by omega
    refine rp_iload (i := 5) d_mod_count_6 rfl ?_
    refine rp_iload_n (i := 2) d_mod_count_8 rfl rfl ?_
    refine rp_icmp_ge (tgt := 39) d_mod_count_9 (by decide) (fun c9 => ?_) (fun c9 => ?_)
    · exact absurd c9 (nI_ge hlt (by omega))
    · refine rp_iload (i := 4) d_mod_count_12 rfl ?_
      refine rp_aload_n (i := 0) d_mod_count_14 rfl rfl ?_
      refine rp_getR d_mod_count_15 f_mod_16 rfl (hR _ _ _ rfl) ?_
      refine rp_iload (i := 5) d_mod_count_18 rfl ?_
      refine rp_iaload d_mod_count_20 rfl (vp_in_nI (by omega) (by omega)) ?_
      refine rp_iload_n (i := 3) d_mod_count_21 rfl rfl ?_
      refine rp_icmp_ne (tgt := 29) d_mod_count_22 (by decide) (fun c22 => ?_) (fun c22 => ?_)
      · refine rp_iconst (v := 0) d_mod_count_29 (by decide) ?_
        refine rp_iadd d_mod_count_30 ?_
        refine rp_istore (i := 4) d_mod_count_31 rfl (Nat.le_of_ble_eq_true rfl) ?_
        refine rp_iinc (i := 5) (y := 1) d_mod_count_33 rfl (by decide) rfl (Nat.le_of_ble_eq_true rfl) ?_
        refine rp_goto (tgt := 6) d_mod_count_36 (by decide) ?_
        first | (refine rp_lv [(0, .ref 19), (2, .int (nI b)), (3, .int w), (4, .int (nI q)), (5, .int (nI (a + 1)))] (by simp only [nI_succ, Int32.add_zero]; rfl) ?_; refine ih (a + 1) q (by omega) ?_; rw [nI_clamp (by omega)] at c22; simpa [cf_cnt, c22] using k) | (refine rp_lv [(0, .ref 19), (2, .int (nI b)), (3, .int w), (4, .int (nI (q + 1))), (5, .int (nI (a + 1)))] (by simp only [nI_succ]; rfl) ?_; refine ih (a + 1) (q + 1) (by omega) ?_; rw [nI_clamp (by omega)] at c22; simpa [cf_cnt, c22, Nat.add_assoc] using k)
      · refine rp_iconst (v := 1) d_mod_count_25 (by decide) ?_
        refine rp_goto (tgt := 30) d_mod_count_26 (by decide) ?_
        refine rp_iadd d_mod_count_30 ?_
        refine rp_istore (i := 4) d_mod_count_31 rfl (Nat.le_of_ble_eq_true rfl) ?_
        refine rp_iinc (i := 5) (y := 1) d_mod_count_33 rfl (by decide) rfl (Nat.le_of_ble_eq_true rfl) ?_
        refine rp_goto (tgt := 6) d_mod_count_36 (by decide) ?_
        first | (refine rp_lv [(0, .ref 19), (2, .int (nI b)), (3, .int w), (4, .int (nI q)), (5, .int (nI (a + 1)))] (by simp only [nI_succ, Int32.add_zero]; rfl) ?_; refine ih (a + 1) q (by omega) ?_; rw [nI_clamp (by omega)] at c22; simpa [cf_cnt, c22] using k) | (refine rp_lv [(0, .ref 19), (2, .int (nI b)), (3, .int w), (4, .int (nI (q + 1))), (5, .int (nI (a + 1)))] (by simp only [nI_succ]; rfl) ?_; refine ih (a + 1) (q + 1) (by omega) ?_; rw [nI_clamp (by omega)] at c22; simpa [cf_cnt, c22, Nat.add_assoc] using k)
set_option maxHeartbeats 4000000 in
set_option maxRecDepth 100000 in
theorem s_mod_count {h : cf_H} {P : Option Value → cf_H → Prop} (hR : cf_ok h) {w x y : Int32} {a b : Nat} (hx : x = nI a) (hy : y = nI b) (hab : a ≤ b) (hb : b ≤ 40) (k : P (some (.int (nI (r_ct (h.2.2.2 22) w a b)))) h) : RP k_mod_count 0 [(0, .ref 19), (1, .int x), (2, .int y), (3, .int w)] [] h P := by
  subst hx; subst hy
  refine rp_iconst (v := 0) d_mod_count_0 (by decide) ?_
  refine rp_istore (i := 4) d_mod_count_1 rfl (Nat.le_of_ble_eq_true rfl) ?_
  refine rp_iload_n (i := 1) d_mod_count_3 rfl rfl ?_
  refine rp_istore (i := 5) d_mod_count_4 rfl (Nat.le_of_ble_eq_true rfl) ?_
  refine rp_lv [(0, .ref 19), (2, .int (nI b)), (3, .int w), (4, .int (nI 0)), (5, .int (nI a))] rfl ?_
  exact l_mod_count hR hb (b - a) a 0 (by omega) (by rw [Nat.zero_add]; exact k)
theorem r_s0 {h : cf_H} {s a b : Nat} (hs : r_sec h s a b) : h.2.2.2 25 (nI s).toNatClampNeg = nI a := by rw [nI_clamp (by have := hs.2.2.2.2; omega)]; exact hs.1
theorem r_s1 {h : cf_H} {s a b : Nat} (hs : r_sec h s a b) : h.2.2.2 25 (nI s + 1).toNatClampNeg = nI b := by rw [nI_1, nI_clamp (by have := hs.2.2.2.2; omega)]; exact hs.2.1
set_option maxHeartbeats 4000000 in
set_option maxRecDepth 100000 in
theorem l_mod_find {h : cf_H} {P : Option Value → cf_H → Prop} (hR : cf_ok h) {w : Int32} {s a b : Nat} (hs : r_sec h s a b) : ∀ (n q : Nat), q + n = b → (k : P (some (.int (nI (cf_fst (fun j => decide ((h.2.2.2 22) j = w)) q n)))) h) → RP k_mod_find 7 [(0, .ref 19), (1, .int (nI s)), (2, .int w), (3, .int (nI q))] [] h P := by
  have e1 := r_s1 hs
  obtain ⟨hs1, hs2, hab, hb, hs41⟩ := hs
  intro n
  induction n with
  | zero =>
    intro q e k
    have e : q = b := e
    subst e
    refine rp_iload_n (i := 3) d_mod_find_7 rfl rfl ?_
    refine rp_aload_n (i := 0) d_mod_find_8 rfl rfl ?_
    refine rp_getR d_mod_find_9 f_mod_25 rfl (hR _ _ _ rfl) ?_
    refine rp_iload_n (i := 1) d_mod_find_12 rfl rfl ?_
    refine rp_iconst (v := 1) d_mod_find_13 (by decide) ?_
    refine rp_iadd d_mod_find_14 ?_
    refine rp_iaload d_mod_find_15 rfl (by rw [show nI s + 1 = nI (s + 1) from nI_1 s]; exact vp_in_nI (by omega) (by omega)) ?_
    refine rp_icmp_ge (tgt := 35) d_mod_find_16 (by decide) (fun c16 => ?_) (fun c16 => ?_)
    · refine rp_iload_n (i := 3) d_mod_find_35 rfl rfl ?_
      refine rp_ireturn (ty := .int) d_mod_find_36 rfl rfl ?_
      exact k
    · exact absurd (by rw [e1]; exact nI_le (Nat.le_refl _) (by omega)) c16
  | succ n ih =>
    intro q e k
    have hlt : q < b := by omega
    refine rp_iload_n (i := 3) d_mod_find_7 rfl rfl ?_
    refine rp_aload_n (i := 0) d_mod_find_8 rfl rfl ?_
    refine rp_getR d_mod_find_9 f_mod_25 rfl (hR _ _ _ rfl) ?_
    refine rp_iload_n (i := 1) d_mod_find_12 rfl rfl ?_
    refine rp_iconst (v := 1) d_mod_find_13 (by decide) ?_
    refine rp_iadd d_mod_find_14 ?_
    refine rp_iaload d_mod_find_15 rfl (by rw [show nI s + 1 = nI (s + 1) from nI_1 s]; exact vp_in_nI (by omega) (by omega)) ?_
    refine rp_icmp_ge (tgt := 35) d_mod_find_16 (by decide) (fun c16 => ?_) (fun c16 => ?_)
    · exact absurd c16 (by rw [e1]; exact nI_ge hlt (by omega))
    · refine rp_aload_n (i := 0) d_mod_find_19 rfl rfl ?_
      refine rp_getR d_mod_find_20 f_mod_16 rfl (hR _ _ _ rfl) ?_
      refine rp_iload_n (i := 3) d_mod_find_23 rfl rfl ?_
      refine rp_iaload d_mod_find_24 rfl (vp_in_nI (by omega) (by omega)) ?_
      refine rp_iload_n (i := 2) d_mod_find_25 rfl rfl ?_
      refine rp_icmp_eq (tgt := 35) d_mod_find_26 (by decide) (fun c26 => ?_) (fun c26 => ?_)
      · refine rp_iload_n (i := 3) d_mod_find_35 rfl rfl ?_
        refine rp_ireturn (ty := .int) d_mod_find_36 rfl rfl ?_
        rw [nI_clamp (by omega)] at c26
        rw [cf_fst, show decide ((h.2.2.2 22) q = w) = true by simp [c26]] at k
        exact k
      · refine rp_iinc (i := 3) (y := 1) d_mod_find_29 rfl (by decide) rfl (Nat.le_of_ble_eq_true rfl) ?_
        refine rp_goto (tgt := 7) d_mod_find_32 (by decide) ?_
        rw [nI_clamp (by omega)] at c26
        refine rp_lv [(0, .ref 19), (1, .int (nI s)), (2, .int w), (3, .int (nI (q + 1)))] (by simp only [nI_succ]; rfl) ?_
        refine ih (q + 1) (by omega) ?_
        rw [cf_fst, show decide ((h.2.2.2 22) q = w) = false by simp [c26]] at k
        exact k
set_option maxHeartbeats 4000000 in
set_option maxRecDepth 100000 in
theorem s_mod_find {h : cf_H} {P : Option Value → cf_H → Prop} (hR : cf_ok h) {w x : Int32} {s a b : Nat} (hs : r_sec h s a b) (hx : x = nI s) (k : P (some (.int (nI (r_fd (h.2.2.2 22) w a b)))) h) : RP k_mod_find 0 [(0, .ref 19), (1, .int x), (2, .int w)] [] h P := by
  subst hx
  have e0 := r_s0 hs
  have hs' := hs
  obtain ⟨hs1, hs2, hab, hb, hs41⟩ := hs
  refine rp_aload_n (i := 0) d_mod_find_0 rfl rfl ?_
  refine rp_getR d_mod_find_1 f_mod_25 rfl (hR _ _ _ rfl) ?_
  refine rp_iload_n (i := 1) d_mod_find_4 rfl rfl ?_
  refine rp_iaload d_mod_find_5 rfl (vp_in_nI (n := s) (by omega) (by omega)) ?_
  refine rp_istore_n (i := 3) d_mod_find_6 rfl rfl (Nat.le_of_ble_eq_true rfl) ?_
  refine rp_lv [(0, .ref 19), (1, .int (nI s)), (2, .int w), (3, .int (nI a))] (by rw [← e0]; rfl) ?_
  exact l_mod_find hR hs' (b - a) a (by omega) k
set_option maxHeartbeats 4000000 in
set_option maxRecDepth 100000 in
theorem s_mod_kindOf {h : cf_H} {P : Option Value → cf_H → Prop} (hR : cf_ok h) {x : Int32} {s a b : Nat} (hs : r_sec h s a b) (hx : x = nI s) (k : P (some (.int (r_kd (h.2.2.2 22) a b))) h) : RP k_mod_kindOf 0 [(0, .ref 19), (1, .int x)] [] h P := by
  subst hx
  have e0 := r_s0 hs
  have e1 := r_s1 hs
  have hs' := hs
  obtain ⟨hs1, hs2, hab, hb, hs41⟩ := hs
  refine rp_aload_n (i := 0) d_mod_kindOf_0 rfl rfl ?_
  refine rp_getR d_mod_kindOf_1 f_mod_25 rfl (hR _ _ _ rfl) ?_
  refine rp_iload_n (i := 1) d_mod_kindOf_4 rfl rfl ?_
  refine rp_iaload d_mod_kindOf_5 rfl (vp_in_nI (n := s) (by omega) (by omega)) ?_
  refine rp_istore_n (i := 2) d_mod_kindOf_6 rfl rfl (Nat.le_of_ble_eq_true rfl) ?_
  refine rp_aload_n (i := 0) d_mod_kindOf_7 rfl rfl ?_
  refine rp_getR d_mod_kindOf_8 f_mod_25 rfl (hR _ _ _ rfl) ?_
  refine rp_iload_n (i := 1) d_mod_kindOf_11 rfl rfl ?_
  refine rp_iconst (v := 1) d_mod_kindOf_12 (by decide) ?_
  refine rp_iadd d_mod_kindOf_13 ?_
  refine rp_iaload d_mod_kindOf_14 rfl (by rw [show nI s + 1 = nI (s + 1) from nI_1 s]; exact vp_in_nI (by omega) (by omega)) ?_
  refine rp_istore_n (i := 3) d_mod_kindOf_15 rfl rfl (Nat.le_of_ble_eq_true rfl) ?_
  refine rp_aload_n (i := 0) d_mod_kindOf_16 rfl rfl ?_
  refine rp_iload_n (i := 2) d_mod_kindOf_17 rfl rfl ?_
  refine rp_iload_n (i := 3) d_mod_kindOf_18 rfl rfl ?_
  refine rp_bipush (v := 9) d_mod_kindOf_19 (by decide) ?_
  refine rp_callV3 d_mod_kindOf_21 q_mod_kindOf_91 (Or.inl ⟨_, _, _, rfl, rfl⟩) (Nat.le_of_ble_eq_true rfl) (Nat.le_of_ble_eq_true rfl) ?_
  refine s_mod_count hR e0 e1 hab hb ?_
  refine rp_aload_n (i := 0) d_mod_kindOf_24 rfl rfl ?_
  refine rp_iload_n (i := 2) d_mod_kindOf_25 rfl rfl ?_
  refine rp_iload_n (i := 3) d_mod_kindOf_26 rfl rfl ?_
  refine rp_bipush (v := 8) d_mod_kindOf_27 (by decide) ?_
  refine rp_callV3 d_mod_kindOf_29 q_mod_kindOf_91 (Or.inl ⟨_, _, _, rfl, rfl⟩) (Nat.le_of_ble_eq_true rfl) (Nat.le_of_ble_eq_true rfl) ?_
  refine s_mod_count hR e0 e1 hab hb ?_
  refine rp_iadd d_mod_kindOf_32 ?_
  refine rp_aload_n (i := 0) d_mod_kindOf_33 rfl rfl ?_
  refine rp_iload_n (i := 2) d_mod_kindOf_34 rfl rfl ?_
  refine rp_iload_n (i := 3) d_mod_kindOf_35 rfl rfl ?_
  refine rp_bipush (v := 10) d_mod_kindOf_36 (by decide) ?_
  refine rp_callV3 d_mod_kindOf_38 q_mod_kindOf_91 (Or.inl ⟨_, _, _, rfl, rfl⟩) (Nat.le_of_ble_eq_true rfl) (Nat.le_of_ble_eq_true rfl) ?_
  refine s_mod_count hR e0 e1 hab hb ?_
  refine rp_iadd d_mod_kindOf_41 ?_
  refine rp_if_le (tgt := 47) d_mod_kindOf_42 (by decide) (fun c42 => ?_) (fun c42 => ?_)
  · refine rp_aload_n (i := 0) d_mod_kindOf_47 rfl rfl ?_
    refine rp_iload_n (i := 2) d_mod_kindOf_48 rfl rfl ?_
    refine rp_iload_n (i := 3) d_mod_kindOf_49 rfl rfl ?_
    refine rp_iconst (v := 2) d_mod_kindOf_50 (by decide) ?_
    refine rp_callV3 d_mod_kindOf_51 q_mod_kindOf_91 (Or.inl ⟨_, _, _, rfl, rfl⟩) (Nat.le_of_ble_eq_true rfl) (Nat.le_of_ble_eq_true rfl) ?_
    refine s_mod_count hR e0 e1 hab hb ?_
    refine rp_if_le (tgt := 61) d_mod_kindOf_54 (by decide) (fun c54 => ?_) (fun c54 => ?_)
    · refine rp_iconst (v := 0) d_mod_kindOf_61 (by decide) ?_
      refine rp_ireturn (ty := .int) d_mod_kindOf_62 rfl rfl ?_
      simpa [r_kd, c42, c54] using k
    · refine rp_iconst (v := 1) d_mod_kindOf_57 (by decide) ?_
      refine rp_goto (tgt := 62) d_mod_kindOf_58 (by decide) ?_
      refine rp_ireturn (ty := .int) d_mod_kindOf_62 rfl rfl ?_
      simpa [r_kd, c42, c54] using k
  · refine rp_iconst (v := 2) d_mod_kindOf_45 (by decide) ?_
    refine rp_ireturn (ty := .int) d_mod_kindOf_46 rfl rfl ?_
    simpa [r_kd, c42] using k
set_option maxHeartbeats 4000000 in
set_option maxRecDepth 100000 in
theorem s_mod_integerEnd {h : cf_H} {P : Option Value → cf_H → Prop} (hR : cf_ok h) {x : Int32} {s a b : Nat} (hs : r_sec h s a b) (hx : x = nI s) (k : P (some (.int (nI (r_ie (h.2.2.2 22) a b)))) h) : RP k_mod_integerEnd 0 [(0, .ref 19), (1, .int x)] [] h P := by
  subst hx
  have e0 := r_s0 hs
  have e1 := r_s1 hs
  have hs' := hs
  obtain ⟨hs1, hs2, hab, hb, hs41⟩ := hs
  have l6 := r_fd_le (ty := h.2.2.2 22) (w := 6) hab
  have l3 := r_fd_le (ty := h.2.2.2 22) (w := 3) hab
  refine rp_aload_n (i := 0) d_mod_integerEnd_0 rfl rfl ?_
  refine rp_iload_n (i := 1) d_mod_integerEnd_1 rfl rfl ?_
  refine rp_iconst (v := 3) d_mod_integerEnd_2 (by decide) ?_
  refine rp_callV2 d_mod_integerEnd_3 q_mod_integerEnd_95 (Or.inl ⟨_, _, _, rfl, rfl⟩) (Nat.le_of_ble_eq_true rfl) (Nat.le_of_ble_eq_true rfl) ?_
  refine s_mod_find hR hs' rfl ?_
  refine rp_istore_n (i := 2) d_mod_integerEnd_6 rfl rfl (Nat.le_of_ble_eq_true rfl) ?_
  refine rp_aload_n (i := 0) d_mod_integerEnd_7 rfl rfl ?_
  refine rp_iload_n (i := 1) d_mod_integerEnd_8 rfl rfl ?_
  refine rp_bipush (v := 6) d_mod_integerEnd_9 (by decide) ?_
  refine rp_callV2 d_mod_integerEnd_11 q_mod_integerEnd_95 (Or.inl ⟨_, _, _, rfl, rfl⟩) (Nat.le_of_ble_eq_true rfl) (Nat.le_of_ble_eq_true rfl) ?_
  refine s_mod_find hR hs' rfl ?_
  refine rp_istore_n (i := 3) d_mod_integerEnd_14 rfl rfl (Nat.le_of_ble_eq_true rfl) ?_
  refine rp_iload_n (i := 2) d_mod_integerEnd_15 rfl rfl ?_
  refine rp_iload_n (i := 3) d_mod_integerEnd_16 rfl rfl ?_
  refine rp_icmp_ge (tgt := 24) d_mod_integerEnd_17 (by decide) (fun c17 => ?_) (fun c17 => ?_)
  · refine rp_iload_n (i := 3) d_mod_integerEnd_24 rfl rfl ?_
    refine rp_ireturn (ty := .int) d_mod_integerEnd_25 rfl rfl ?_
    rw [nI_leI (by omega) (by omega)] at c17
    simpa [r_ie, c17] using k
  · refine rp_iload_n (i := 2) d_mod_integerEnd_20 rfl rfl ?_
    refine rp_goto (tgt := 25) d_mod_integerEnd_21 (by decide) ?_
    refine rp_ireturn (ty := .int) d_mod_integerEnd_25 rfl rfl ?_
    rw [nI_leI (by omega) (by omega)] at c17
    simpa [r_ie, c17] using k
set_option maxHeartbeats 4000000 in
set_option maxRecDepth 100000 in
theorem s_mod_groups {h : cf_H} {P : Option Value → cf_H → Prop} (hR : cf_ok h) {x y : Int32} {s a b q : Nat} (hs : r_sec h s a b) (hx : x = nI s) (hy : y = nI q) (hq : a ≤ q) (hq2 : q < b) (k : P (some (.int (cf_b (r_gr (h.2.2.2 22) a b q)))) h) : RP k_mod_groups 0 [(0, .ref 19), (1, .int x), (2, .int y)] [] h P := by
  subst hx; subst hy
  have e0 := r_s0 hs
  have e1 := r_s1 hs
  have hs' := hs
  obtain ⟨hs1, hs2, hab, hb, hs41⟩ := hs
  have i1 := r_ie_ge (h.2.2.2 22) a b
  have i2 := r_ie_le (ty := h.2.2.2 22) hab
  have n1 := r_ct_le (h.2.2.2 22) 2 a q
  have n2 := r_ct_le (h.2.2.2 22) 2 q (r_ie (h.2.2.2 22) a b)
  refine rp_aload_n (i := 0) d_mod_groups_0 rfl rfl ?_
  refine rp_aload_n (i := 0) d_mod_groups_1 rfl rfl ?_
  refine rp_getR d_mod_groups_2 f_mod_25 rfl (hR _ _ _ rfl) ?_
  refine rp_iload_n (i := 1) d_mod_groups_5 rfl rfl ?_
  refine rp_iaload d_mod_groups_6 rfl (vp_in_nI (n := s) (by omega) (by omega)) ?_
  refine rp_iload_n (i := 2) d_mod_groups_7 rfl rfl ?_
  refine rp_iconst (v := 2) d_mod_groups_8 (by decide) ?_
  refine rp_callV3 d_mod_groups_9 q_mod_groups_91 (Or.inl ⟨_, _, _, rfl, rfl⟩) (Nat.le_of_ble_eq_true rfl) (Nat.le_of_ble_eq_true rfl) ?_
  refine s_mod_count hR e0 rfl hq (by omega) ?_
  refine rp_if_le (tgt := 42) d_mod_groups_12 (by decide) (fun c12 => ?_) (fun c12 => ?_)
  · refine rp_iconst (v := 0) d_mod_groups_42 (by decide) ?_
    refine rp_ireturn (ty := .boolean) d_mod_groups_43 rfl (by first | rfl | decide | assumption) ?_
    first
    | (rw [z_le (by omega)] at c12 c35; rw [show r_gr (h.2.2.2 22) a b q = _ from rfl, r_gr] at k; simpa [cf_b, c12, c21, c35] using k)
    | (rw [z_le (by omega)] at c12; rw [nI_leI (by omega) (by omega)] at c21; rw [r_gr] at k; simpa [cf_b, c12, c21] using k)
    | (rw [z_le (by omega)] at c12; rw [r_gr] at k; simpa [cf_b, c12] using k)
  · refine rp_iload_n (i := 2) d_mod_groups_15 rfl rfl ?_
    refine rp_aload_n (i := 0) d_mod_groups_16 rfl rfl ?_
    refine rp_iload_n (i := 1) d_mod_groups_17 rfl rfl ?_
    refine rp_callV1 d_mod_groups_18 q_mod_groups_99 (Or.inl ⟨_, _, _, rfl, rfl⟩) (Nat.le_of_ble_eq_true rfl) (Nat.le_of_ble_eq_true rfl) ?_
    refine s_mod_integerEnd hR hs' rfl ?_
    refine rp_icmp_ge (tgt := 42) d_mod_groups_21 (by decide) (fun c21 => ?_) (fun c21 => ?_)
    · refine rp_iconst (v := 0) d_mod_groups_42 (by decide) ?_
      refine rp_ireturn (ty := .boolean) d_mod_groups_43 rfl (by first | rfl | decide | assumption) ?_
      first
      | (rw [z_le (by omega)] at c12 c35; rw [show r_gr (h.2.2.2 22) a b q = _ from rfl, r_gr] at k; simpa [cf_b, c12, c21, c35] using k)
      | (rw [z_le (by omega)] at c12; rw [nI_leI (by omega) (by omega)] at c21; rw [r_gr] at k; simpa [cf_b, c12, c21] using k)
      | (rw [z_le (by omega)] at c12; rw [r_gr] at k; simpa [cf_b, c12] using k)
    · refine rp_aload_n (i := 0) d_mod_groups_24 rfl rfl ?_
      refine rp_iload_n (i := 2) d_mod_groups_25 rfl rfl ?_
      refine rp_aload_n (i := 0) d_mod_groups_26 rfl rfl ?_
      refine rp_iload_n (i := 1) d_mod_groups_27 rfl rfl ?_
      refine rp_callV1 d_mod_groups_28 q_mod_groups_99 (Or.inl ⟨_, _, _, rfl, rfl⟩) (Nat.le_of_ble_eq_true rfl) (Nat.le_of_ble_eq_true rfl) ?_
      refine s_mod_integerEnd hR hs' rfl ?_
      refine rp_iconst (v := 2) d_mod_groups_31 (by decide) ?_
      refine rp_callV3 d_mod_groups_32 q_mod_groups_91 (Or.inl ⟨_, _, _, rfl, rfl⟩) (Nat.le_of_ble_eq_true rfl) (Nat.le_of_ble_eq_true rfl) ?_
      rw [nI_leI (by omega) (by omega)] at c21
      refine s_mod_count hR rfl rfl (by omega) (by omega) ?_
      refine rp_if_le (tgt := 42) d_mod_groups_35 (by decide) (fun c35 => ?_) (fun c35 => ?_)
      · refine rp_iconst (v := 0) d_mod_groups_42 (by decide) ?_
        refine rp_ireturn (ty := .boolean) d_mod_groups_43 rfl (by first | rfl | decide | assumption) ?_
        first
        | (rw [z_le (by omega)] at c12 c35; rw [show r_gr (h.2.2.2 22) a b q = _ from rfl, r_gr] at k; simpa [cf_b, c12, c21, c35] using k)
        | (rw [z_le (by omega)] at c12; rw [nI_leI (by omega) (by omega)] at c21; rw [r_gr] at k; simpa [cf_b, c12, c21] using k)
        | (rw [z_le (by omega)] at c12; rw [r_gr] at k; simpa [cf_b, c12] using k)
      · refine rp_iconst (v := 1) d_mod_groups_38 (by decide) ?_
        refine rp_goto (tgt := 43) d_mod_groups_39 (by decide) ?_
        refine rp_ireturn (ty := .boolean) d_mod_groups_43 rfl (by first | rfl | decide | assumption) ?_
        first
        | (rw [z_le (by omega)] at c12 c35; rw [show r_gr (h.2.2.2 22) a b q = _ from rfl, r_gr] at k; simpa [cf_b, c12, c21, c35] using k)
        | (rw [z_le (by omega)] at c12; rw [nI_leI (by omega) (by omega)] at c21; rw [r_gr] at k; simpa [cf_b, c12, c21] using k)
        | (rw [z_le (by omega)] at c12; rw [r_gr] at k; simpa [cf_b, c12] using k)
set_option maxHeartbeats 4000000 in
set_option maxRecDepth 100000 in
theorem l_mod_scales {h : cf_H} {P : Option Value → cf_H → Prop} (hR : cf_ok h) {s a b q : Nat} (hs : r_sec h s a b) (k : ∀ p', p' = r_bk (h.2.2.2 22) a q → RP k_mod_scales 54 [(0, .ref 19), (1, .int (nI s)), (2, .int (nI q)), (3, .int (nI p'))] [] h P) : ∀ p, a ≤ p → p < b → r_bk (h.2.2.2 22) a p = r_bk (h.2.2.2 22) a q → RP k_mod_scales 28 [(0, .ref 19), (1, .int (nI s)), (2, .int (nI q)), (3, .int (nI p))] [] h P := by
  have e0 := r_s0 hs
  obtain ⟨hs1, hs2, hab, hb, hs41⟩ := hs
  intro p
  induction p with
  | zero =>
    intro ha hp e
    refine rp_iload_n (i := 3) d_mod_scales_28 rfl rfl ?_
    refine rp_aload_n (i := 0) d_mod_scales_29 rfl rfl ?_
    refine rp_getR d_mod_scales_30 f_mod_25 rfl (hR _ _ _ rfl) ?_
    refine rp_iload_n (i := 1) d_mod_scales_33 rfl rfl ?_
    refine rp_iaload d_mod_scales_34 rfl (vp_in_nI (n := s) (by omega) (by omega)) ?_
    refine rp_icmp_le (tgt := 54) d_mod_scales_35 (by decide) (fun c35 => ?_) (fun c35 => ?_)
    · refine rp_lv [(0, .ref 19), (1, .int (nI s)), (2, .int (nI q)), (3, .int (nI 0))] rfl ?_
      exact k 0 e
    · exact absurd (by rw [e0]; exact nI_le (by omega) (by omega)) c35
  | succ p ih =>
    intro ha hp e
    refine rp_iload_n (i := 3) d_mod_scales_28 rfl rfl ?_
    refine rp_aload_n (i := 0) d_mod_scales_29 rfl rfl ?_
    refine rp_getR d_mod_scales_30 f_mod_25 rfl (hR _ _ _ rfl) ?_
    refine rp_iload_n (i := 1) d_mod_scales_33 rfl rfl ?_
    refine rp_iaload d_mod_scales_34 rfl (vp_in_nI (n := s) (by omega) (by omega)) ?_
    refine rp_icmp_le (tgt := 54) d_mod_scales_35 (by decide) (fun c35 => ?_) (fun c35 => ?_)
    · refine rp_lv [(0, .ref 19), (1, .int (nI s)), (2, .int (nI q)), (3, .int (nI (p + 1)))] rfl ?_
      refine k (p + 1) ?_
      rw [← e, r_bk]
      first
      | (rw [e0, nI_leI (by omega) (by omega)] at c35; rw [nI_clamp (by omega)] at c45; rw [if_neg (fun z => c45 z.2)])
      | (rw [e0, nI_leI (by omega) (by omega)] at c35; rw [if_neg (fun z => by omega)])
    · refine rp_aload_n (i := 0) d_mod_scales_38 rfl rfl ?_
      refine rp_getR d_mod_scales_39 f_mod_16 rfl (hR _ _ _ rfl) ?_
      refine rp_iload_n (i := 3) d_mod_scales_42 rfl rfl ?_
      refine rp_iaload d_mod_scales_43 rfl (vp_in_nI (by omega) (by omega)) ?_
      refine rp_iconst (v := 4) d_mod_scales_44 (by decide) ?_
      refine rp_icmp_ne (tgt := 54) d_mod_scales_45 (by decide) (fun c45 => ?_) (fun c45 => ?_)
      · refine rp_lv [(0, .ref 19), (1, .int (nI s)), (2, .int (nI q)), (3, .int (nI (p + 1)))] rfl ?_
        refine k (p + 1) ?_
        rw [← e, r_bk]
        first
        | (rw [e0, nI_leI (by omega) (by omega)] at c35; rw [nI_clamp (by omega)] at c45; rw [if_neg (fun z => c45 z.2)])
        | (rw [e0, nI_leI (by omega) (by omega)] at c35; rw [if_neg (fun z => by omega)])
      · refine rp_iinc (i := 3) (y := (-1)) d_mod_scales_48 rfl (by decide) rfl (Nat.le_of_ble_eq_true rfl) ?_
        refine rp_goto (tgt := 28) d_mod_scales_51 (by decide) ?_
        rw [e0, nI_leI (by omega) (by omega)] at c35
        rw [nI_clamp (by omega)] at c45
        refine rp_lv [(0, .ref 19), (1, .int (nI s)), (2, .int (nI q)), (3, .int (nI p))] (by rw [← pk_m1 p]; rfl) ?_
        refine ih (by omega) (by omega) ?_
        rw [← e, r_bk, if_pos ⟨by omega, c45⟩]
set_option maxHeartbeats 4000000 in
set_option maxRecDepth 100000 in
theorem s_mod_scales {h : cf_H} {P : Option Value → cf_H → Prop} (hR : cf_ok h) {x y : Int32} {s a b q : Nat} (hs : r_sec h s a b) (hx : x = nI s) (hy : y = nI q) (hq : a ≤ q) (hq2 : q < b) (k : P (some (.int (cf_b (r_scl (h.2.2.2 22) a b q)))) h) : RP k_mod_scales 0 [(0, .ref 19), (1, .int x), (2, .int y)] [] h P := by
  subst hx; subst hy
  have e0 := r_s0 hs
  have e1 := r_s1 hs
  have hs' := hs
  obtain ⟨hs1, hs2, hab, hb, hs41⟩ := hs
  have i1 := r_ie_ge (h.2.2.2 22) a b
  have i2 := r_ie_le (ty := h.2.2.2 22) hab
  have n1 := r_ct_le (h.2.2.2 22) 2 a q
  have n2 := r_ct_le (h.2.2.2 22) 2 q (r_ie (h.2.2.2 22) a b)
  have n3 := r_bk_le (h.2.2.2 22) a q
  refine rp_iload_n (i := 2) d_mod_scales_0 rfl rfl ?_
  refine rp_aload_n (i := 0) d_mod_scales_1 rfl rfl ?_
  refine rp_iload_n (i := 1) d_mod_scales_2 rfl rfl ?_
  refine rp_callV1 d_mod_scales_3 q_mod_scales_99 (Or.inl ⟨_, _, _, rfl, rfl⟩) (Nat.le_of_ble_eq_true rfl) (Nat.le_of_ble_eq_true rfl) ?_
  refine s_mod_integerEnd hR hs' rfl ?_
  refine rp_icmp_ge (tgt := 24) d_mod_scales_6 (by decide) (fun c6 => ?_) (fun c6 => ?_)
  · refine rp_iconst (v := 0) d_mod_scales_24 (by decide) ?_
    refine rp_ireturn (ty := .boolean) d_mod_scales_25 rfl (by first | rfl | decide | assumption) ?_
    first
    | (rw [z_eq (by omega)] at c21; rw [r_scl] at k; simpa [cf_b, c21] using k)
    | (rw [nI_leI (by omega) (by omega)] at c6; rw [r_scl] at k; simpa [cf_b, c6] using k)
  · refine rp_aload_n (i := 0) d_mod_scales_9 rfl rfl ?_
    refine rp_aload_n (i := 0) d_mod_scales_10 rfl rfl ?_
    refine rp_getR d_mod_scales_11 f_mod_25 rfl (hR _ _ _ rfl) ?_
    refine rp_iload_n (i := 1) d_mod_scales_14 rfl rfl ?_
    refine rp_iaload d_mod_scales_15 rfl (vp_in_nI (n := s) (by omega) (by omega)) ?_
    refine rp_iload_n (i := 2) d_mod_scales_16 rfl rfl ?_
    refine rp_iconst (v := 2) d_mod_scales_17 (by decide) ?_
    refine rp_callV3 d_mod_scales_18 q_mod_scales_91 (Or.inl ⟨_, _, _, rfl, rfl⟩) (Nat.le_of_ble_eq_true rfl) (Nat.le_of_ble_eq_true rfl) ?_
    refine s_mod_count hR e0 rfl hq (by omega) ?_
    refine rp_if_ne (tgt := 26) d_mod_scales_21 (by decide) (fun c21 => ?_) (fun c21 => ?_)
    · refine rp_iload_n (i := 2) d_mod_scales_26 rfl rfl ?_
      refine rp_istore_n (i := 3) d_mod_scales_27 rfl rfl (Nat.le_of_ble_eq_true rfl) ?_
      rw [nI_leI (by omega) (by omega)] at c6
      rw [z_eq (by omega)] at c21
      refine rp_lv [(0, .ref 19), (1, .int (nI s)), (2, .int (nI q)), (3, .int (nI q))] rfl ?_
      refine l_mod_scales hR hs' (fun p' ep => ?_) q hq hq2 rfl
      refine rp_aload_n (i := 0) d_mod_scales_54 rfl rfl ?_
      refine rp_getR d_mod_scales_55 f_mod_16 rfl (hR _ _ _ rfl) ?_
      refine rp_iload_n (i := 3) d_mod_scales_58 rfl rfl ?_
      refine rp_iaload d_mod_scales_59 rfl (vp_in_nI (by omega) (by omega)) ?_
      refine rp_iconst (v := 2) d_mod_scales_60 (by decide) ?_
      refine rp_icmp_ne (tgt := 82) d_mod_scales_61 (by decide) (fun c61 => ?_) (fun c61 => ?_)
      · refine rp_iconst (v := 0) d_mod_scales_82 (by decide) ?_
        refine rp_ireturn (ty := .boolean) d_mod_scales_83 rfl (by first | rfl | decide | assumption) ?_
        first
        | (rw [nI_clamp (by omega), ep] at c61; rw [z_eq (by omega)] at c75; rw [r_scl] at k; simpa [cf_b, c6, c21, c61, c75] using k)
        | (rw [nI_clamp (by omega), ep] at c61; rw [r_scl] at k; simpa [cf_b, c6, c21, c61] using k)
      · refine rp_aload_n (i := 0) d_mod_scales_64 rfl rfl ?_
        refine rp_iload_n (i := 2) d_mod_scales_65 rfl rfl ?_
        refine rp_aload_n (i := 0) d_mod_scales_66 rfl rfl ?_
        refine rp_iload_n (i := 1) d_mod_scales_67 rfl rfl ?_
        refine rp_callV1 d_mod_scales_68 q_mod_scales_99 (Or.inl ⟨_, _, _, rfl, rfl⟩) (Nat.le_of_ble_eq_true rfl) (Nat.le_of_ble_eq_true rfl) ?_
        refine s_mod_integerEnd hR hs' rfl ?_
        refine rp_iconst (v := 2) d_mod_scales_71 (by decide) ?_
        refine rp_callV3 d_mod_scales_72 q_mod_scales_91 (Or.inl ⟨_, _, _, rfl, rfl⟩) (Nat.le_of_ble_eq_true rfl) (Nat.le_of_ble_eq_true rfl) ?_
        refine s_mod_count hR rfl rfl (by omega) (by omega) ?_
        refine rp_if_ne (tgt := 82) d_mod_scales_75 (by decide) (fun c75 => ?_) (fun c75 => ?_)
        · refine rp_iconst (v := 0) d_mod_scales_82 (by decide) ?_
          refine rp_ireturn (ty := .boolean) d_mod_scales_83 rfl (by first | rfl | decide | assumption) ?_
          first
          | (rw [nI_clamp (by omega), ep] at c61; rw [z_eq (by omega)] at c75; rw [r_scl] at k; simpa [cf_b, c6, c21, c61, c75] using k)
          | (rw [nI_clamp (by omega), ep] at c61; rw [r_scl] at k; simpa [cf_b, c6, c21, c61] using k)
        · refine rp_iconst (v := 1) d_mod_scales_78 (by decide) ?_
          refine rp_goto (tgt := 83) d_mod_scales_79 (by decide) ?_
          refine rp_ireturn (ty := .boolean) d_mod_scales_83 rfl (by first | rfl | decide | assumption) ?_
          first
          | (rw [nI_clamp (by omega), ep] at c61; rw [z_eq (by omega)] at c75; rw [r_scl] at k; simpa [cf_b, c6, c21, c61, c75] using k)
          | (rw [nI_clamp (by omega), ep] at c61; rw [r_scl] at k; simpa [cf_b, c6, c21, c61] using k)
    · refine rp_iconst (v := 0) d_mod_scales_24 (by decide) ?_
      refine rp_ireturn (ty := .boolean) d_mod_scales_25 rfl (by first | rfl | decide | assumption) ?_
      first
      | (rw [z_eq (by omega)] at c21; rw [r_scl] at k; simpa [cf_b, c21] using k)
      | (rw [nI_leI (by omega) (by omega)] at c6; rw [r_scl] at k; simpa [cf_b, c6] using k)
set_option maxHeartbeats 4000000 in
set_option maxRecDepth 100000 in
theorem l_mod_well {h : cf_H} {P : Option Value → cf_H → Prop} (hR : cf_ok h) {s a b : Nat} (hs' : r_sec h s a b) : ∀ (n q : Nat), q + n = b → a ≤ q → (k : P (some (.int (cf_b (r_cm (h.2.2.2 22) a b q n)))) h) → RP k_mod_wellMade 253 [(0, .ref 19), (1, .int (nI s)), (3, .int (nI b)), (12, .int (nI q))] [] h P := by
  obtain ⟨hs1, hs2, hab, hb, hs41⟩ := id hs'
  intro n
  induction n with
  | zero =>
    intro q e ha k
    have e : q = b := e
    subst e
    refine rp_iload (i := 12) d_mod_wellMade_253 rfl ?_
    refine rp_iload_n (i := 3) d_mod_wellMade_255 rfl rfl ?_
    refine rp_icmp_ge (tgt := 298) d_mod_wellMade_256 (by decide) (fun c256 => ?_) (fun c256 => ?_)
    · refine rp_iconst (v := 1) d_mod_wellMade_298 (by decide) ?_
      refine rp_ireturn (ty := .boolean) d_mod_wellMade_299 rfl (by first | rfl | decide | assumption) ?_
      exact k
    · exact absurd (nI_le (Nat.le_refl _) (by omega)) c256
  | succ n ih =>
    intro q e ha k
    have hlt : q < b := by omega
    refine rp_iload (i := 12) d_mod_wellMade_253 rfl ?_
    refine rp_iload_n (i := 3) d_mod_wellMade_255 rfl rfl ?_
    refine rp_icmp_ge (tgt := 298) d_mod_wellMade_256 (by decide) (fun c256 => ?_) (fun c256 => ?_)
    · exact absurd c256 (nI_ge hlt (by omega))
    · refine rp_aload_n (i := 0) d_mod_wellMade_259 rfl rfl ?_
      refine rp_getR d_mod_wellMade_260 f_mod_16 rfl (hR _ _ _ rfl) ?_
      refine rp_iload (i := 12) d_mod_wellMade_263 rfl ?_
      refine rp_iaload d_mod_wellMade_265 rfl (vp_in_nI (by omega) (by omega)) ?_
      refine rp_iconst (v := 4) d_mod_wellMade_266 (by decide) ?_
      refine rp_icmp_ne (tgt := 292) d_mod_wellMade_267 (by decide) (fun c267 => ?_) (fun c267 => ?_)
      · refine rp_iinc (i := 12) (y := 1) d_mod_wellMade_292 rfl (by decide) rfl (Nat.le_of_ble_eq_true rfl) ?_
        refine rp_goto (tgt := 253) d_mod_wellMade_295 (by decide) ?_
        refine rp_lv [(0, .ref 19), (1, .int (nI s)), (3, .int (nI b)), (12, .int (nI (q + 1)))] (by simp only [nI_succ]; rfl) ?_
        refine ih (q + 1) (by omega) (by omega) ?_
        rw [nI_clamp (by omega)] at c267
        rw [r_cm] at k
        revert k
        first
        | (cases e2 : r_scl (h.2.2.2 22) a b q <;> simp [cf_b, e2] at c287 ⊢ <;> exact fun k => k)
        | (cases e2 : r_gr (h.2.2.2 22) a b q <;> simp [cf_b, e2] at c277 ⊢ <;> exact fun k => k)
        | (simp [c267])
      · refine rp_aload_n (i := 0) d_mod_wellMade_270 rfl rfl ?_
        refine rp_iload_n (i := 1) d_mod_wellMade_271 rfl rfl ?_
        refine rp_iload (i := 12) d_mod_wellMade_272 rfl ?_
        refine rp_callV2 d_mod_wellMade_274 q_mod_wellMade_105 (Or.inl ⟨_, _, _, rfl, rfl⟩) (Nat.le_of_ble_eq_true rfl) (Nat.le_of_ble_eq_true rfl) ?_
        refine s_mod_groups hR hs' rfl rfl (by omega) (by omega) ?_
        refine rp_if_ne (tgt := 292) d_mod_wellMade_277 (by decide) (fun c277 => ?_) (fun c277 => ?_)
        · refine rp_iinc (i := 12) (y := 1) d_mod_wellMade_292 rfl (by decide) rfl (Nat.le_of_ble_eq_true rfl) ?_
          refine rp_goto (tgt := 253) d_mod_wellMade_295 (by decide) ?_
          refine rp_lv [(0, .ref 19), (1, .int (nI s)), (3, .int (nI b)), (12, .int (nI (q + 1)))] (by simp only [nI_succ]; rfl) ?_
          refine ih (q + 1) (by omega) (by omega) ?_
          rw [nI_clamp (by omega)] at c267
          rw [r_cm] at k
          revert k
          first
          | (cases e2 : r_scl (h.2.2.2 22) a b q <;> simp [cf_b, e2] at c287 ⊢ <;> exact fun k => k)
          | (cases e2 : r_gr (h.2.2.2 22) a b q <;> simp [cf_b, e2] at c277 ⊢ <;> exact fun k => k)
          | (simp [c267])
        · refine rp_aload_n (i := 0) d_mod_wellMade_280 rfl rfl ?_
          refine rp_iload_n (i := 1) d_mod_wellMade_281 rfl rfl ?_
          refine rp_iload (i := 12) d_mod_wellMade_282 rfl ?_
          refine rp_callV2 d_mod_wellMade_284 q_mod_wellMade_109 (Or.inl ⟨_, _, _, rfl, rfl⟩) (Nat.le_of_ble_eq_true rfl) (Nat.le_of_ble_eq_true rfl) ?_
          refine s_mod_scales hR hs' rfl rfl (by omega) (by omega) ?_
          refine rp_if_ne (tgt := 292) d_mod_wellMade_287 (by decide) (fun c287 => ?_) (fun c287 => ?_)
          · refine rp_iinc (i := 12) (y := 1) d_mod_wellMade_292 rfl (by decide) rfl (Nat.le_of_ble_eq_true rfl) ?_
            refine rp_goto (tgt := 253) d_mod_wellMade_295 (by decide) ?_
            refine rp_lv [(0, .ref 19), (1, .int (nI s)), (3, .int (nI b)), (12, .int (nI (q + 1)))] (by simp only [nI_succ]; rfl) ?_
            refine ih (q + 1) (by omega) (by omega) ?_
            rw [nI_clamp (by omega)] at c267
            rw [r_cm] at k
            revert k
            first
            | (cases e2 : r_scl (h.2.2.2 22) a b q <;> simp [cf_b, e2] at c287 ⊢ <;> exact fun k => k)
            | (cases e2 : r_gr (h.2.2.2 22) a b q <;> simp [cf_b, e2] at c277 ⊢ <;> exact fun k => k)
            | (simp [c267])
          · refine rp_iconst (v := 0) d_mod_wellMade_290 (by decide) ?_
            refine rp_ireturn (ty := .boolean) d_mod_wellMade_291 rfl (by first | rfl | decide | assumption) ?_
            rw [nI_clamp (by omega)] at c267
            rw [r_cm] at k
            revert k
            cases e2 : r_scl (h.2.2.2 22) a b q <;> simp [cf_b, e2] at c287 ⊢
            cases e3 : r_gr (h.2.2.2 22) a b q <;> simp [cf_b, e3] at c277 ⊢
            simp [c267]
set_option maxHeartbeats 4000000 in
set_option maxRecDepth 100000 in
theorem t_wm51 {h : cf_H} {P : Option Value → cf_H → Prop} (hR : cf_ok h) {s a b : Nat} (hs' : r_sec h s a b) (k : P (some (.int (cf_b (r_w2 (h.2.2.2 22) a b)))) h) : RP k_mod_wellMade 51 [(0, .ref 19), (1, .int (nI s)), (2, .int (nI a)), (3, .int (nI b))] [] h P := by
  obtain ⟨hs1, hs2, hab, hb, hs41⟩ := id hs'
  have i1 := r_ie_ge (h.2.2.2 22) a b
  have i2 := r_ie_le (ty := h.2.2.2 22) hab
  refine rp_aload_n (i := 0) d_mod_wellMade_51 rfl rfl ?_
  refine rp_iload_n (i := 2) d_mod_wellMade_52 rfl rfl ?_
  refine rp_iload_n (i := 3) d_mod_wellMade_53 rfl rfl ?_
  refine rp_iconst (v := 3) d_mod_wellMade_54 (by decide) ?_
  refine rp_callV3 d_mod_wellMade_55 q_mod_wellMade_91 (Or.inl ⟨_, _, _, rfl, rfl⟩) (Nat.le_of_ble_eq_true rfl) (Nat.le_of_ble_eq_true rfl) ?_
  refine s_mod_count hR rfl rfl hab hb ?_
  refine rp_istore (i := 5) d_mod_wellMade_58 rfl (Nat.le_of_ble_eq_true rfl) ?_
  refine rp_aload_n (i := 0) d_mod_wellMade_60 rfl rfl ?_
  refine rp_iload_n (i := 2) d_mod_wellMade_61 rfl rfl ?_
  refine rp_iload_n (i := 3) d_mod_wellMade_62 rfl rfl ?_
  refine rp_iconst (v := 4) d_mod_wellMade_63 (by decide) ?_
  refine rp_callV3 d_mod_wellMade_64 q_mod_wellMade_91 (Or.inl ⟨_, _, _, rfl, rfl⟩) (Nat.le_of_ble_eq_true rfl) (Nat.le_of_ble_eq_true rfl) ?_
  refine s_mod_count hR rfl rfl hab hb ?_
  refine rp_istore (i := 6) d_mod_wellMade_67 rfl (Nat.le_of_ble_eq_true rfl) ?_
  refine rp_aload_n (i := 0) d_mod_wellMade_69 rfl rfl ?_
  refine rp_iload_n (i := 2) d_mod_wellMade_70 rfl rfl ?_
  refine rp_iload_n (i := 3) d_mod_wellMade_71 rfl rfl ?_
  refine rp_iconst (v := 5) d_mod_wellMade_72 (by decide) ?_
  refine rp_callV3 d_mod_wellMade_73 q_mod_wellMade_91 (Or.inl ⟨_, _, _, rfl, rfl⟩) (Nat.le_of_ble_eq_true rfl) (Nat.le_of_ble_eq_true rfl) ?_
  refine s_mod_count hR rfl rfl hab hb ?_
  refine rp_istore (i := 7) d_mod_wellMade_76 rfl (Nat.le_of_ble_eq_true rfl) ?_
  refine rp_aload_n (i := 0) d_mod_wellMade_78 rfl rfl ?_
  refine rp_iload_n (i := 2) d_mod_wellMade_79 rfl rfl ?_
  refine rp_iload_n (i := 3) d_mod_wellMade_80 rfl rfl ?_
  refine rp_bipush (v := 6) d_mod_wellMade_81 (by decide) ?_
  refine rp_callV3 d_mod_wellMade_83 q_mod_wellMade_91 (Or.inl ⟨_, _, _, rfl, rfl⟩) (Nat.le_of_ble_eq_true rfl) (Nat.le_of_ble_eq_true rfl) ?_
  refine s_mod_count hR rfl rfl hab hb ?_
  refine rp_istore (i := 8) d_mod_wellMade_86 rfl (Nat.le_of_ble_eq_true rfl) ?_
  refine rp_aload_n (i := 0) d_mod_wellMade_88 rfl rfl ?_
  refine rp_iload_n (i := 1) d_mod_wellMade_89 rfl rfl ?_
  refine rp_callV1 d_mod_wellMade_90 q_mod_wellMade_102 (Or.inl ⟨_, _, _, rfl, rfl⟩) (Nat.le_of_ble_eq_true rfl) (Nat.le_of_ble_eq_true rfl) ?_
  refine s_mod_kindOf hR hs' rfl ?_
  refine rp_istore (i := 9) d_mod_wellMade_93 rfl (Nat.le_of_ble_eq_true rfl) ?_
  refine rp_iload (i := 9) d_mod_wellMade_95 rfl ?_
  refine rp_iconst (v := 2) d_mod_wellMade_97 (by decide) ?_
  refine rp_icmp_ne (tgt := 129) d_mod_wellMade_98 (by decide) (fun c98 => ?_) (fun c98 => ?_)
  · refine rp_iload (i := 9) d_mod_wellMade_129 rfl ?_
    refine rp_if_ne (tgt := 154) d_mod_wellMade_131 (by decide) (fun c131 => ?_) (fun c131 => ?_)
    · refine rp_iload (i := 5) d_mod_wellMade_154 rfl ?_
      refine rp_iconst (v := 1) d_mod_wellMade_156 (by decide) ?_
      refine rp_icmp_gt (tgt := 172) d_mod_wellMade_157 (by decide) (fun c157 => ?_) (fun c157 => ?_)
      · refine rp_iconst (v := 0) d_mod_wellMade_172 (by decide) ?_
        refine rp_ireturn (ty := .boolean) d_mod_wellMade_173 rfl (by first | rfl | decide | assumption) ?_
        simpa [r_w2, cf_b, c98, c131, c157] using k
      · refine rp_iload (i := 8) d_mod_wellMade_160 rfl ?_
        refine rp_iconst (v := 1) d_mod_wellMade_162 (by decide) ?_
        refine rp_icmp_gt (tgt := 172) d_mod_wellMade_163 (by decide) (fun c163 => ?_) (fun c163 => ?_)
        · refine rp_iconst (v := 0) d_mod_wellMade_172 (by decide) ?_
          refine rp_ireturn (ty := .boolean) d_mod_wellMade_173 rfl (by first | rfl | decide | assumption) ?_
          simpa [r_w2, cf_b, c98, c131, c157, c163] using k
        · refine rp_iload (i := 7) d_mod_wellMade_166 rfl ?_
          refine rp_iconst (v := 2) d_mod_wellMade_168 (by decide) ?_
          refine rp_icmp_le (tgt := 174) d_mod_wellMade_169 (by decide) (fun c169 => ?_) (fun c169 => ?_)
          · refine rp_aload_n (i := 0) d_mod_wellMade_174 rfl rfl ?_
            refine rp_iload_n (i := 1) d_mod_wellMade_175 rfl rfl ?_
            refine rp_bipush (v := 6) d_mod_wellMade_176 (by decide) ?_
            refine rp_callV2 d_mod_wellMade_178 q_mod_wellMade_95 (Or.inl ⟨_, _, _, rfl, rfl⟩) (Nat.le_of_ble_eq_true rfl) (Nat.le_of_ble_eq_true rfl) ?_
            refine s_mod_find hR hs' rfl ?_
            refine rp_istore (i := 10) d_mod_wellMade_181 rfl (Nat.le_of_ble_eq_true rfl) ?_
            refine rp_iload (i := 8) d_mod_wellMade_183 rfl ?_
            refine rp_iconst (v := 1) d_mod_wellMade_185 (by decide) ?_
            refine rp_icmp_ne (tgt := 193) d_mod_wellMade_186 (by decide) (fun c186 => ?_) (fun c186 => ?_)
            · refine rp_iconst (v := 0) d_mod_wellMade_193 (by decide) ?_
              refine rp_istore (i := 11) d_mod_wellMade_194 rfl (Nat.le_of_ble_eq_true rfl) ?_
              refine rp_iload (i := 11) d_mod_wellMade_196 rfl ?_
              refine rp_if_eq (tgt := 250) d_mod_wellMade_198 (by decide) (fun c198 => ?_) (fun c198 => ?_)
              · rw [show r_w2 (h.2.2.2 22) a b = r_cm (h.2.2.2 22) a b a (b - a) by simp [r_w2, c98, c131, c157, c163, c169, c186, c198]] at k
                refine rp_iload_n (i := 2) d_mod_wellMade_250 rfl rfl ?_
                refine rp_istore (i := 12) d_mod_wellMade_251 rfl (Nat.le_of_ble_eq_true rfl) ?_
                refine rp_lv [(0, .ref 19), (1, .int (nI s)), (3, .int (nI b)), (12, .int (nI a))] rfl ?_
                exact l_mod_well hR hs' (b - a) a (by omega) (Nat.le_refl _) k
              · exact absurd (by decide) c198
            · refine rp_iconst (v := 1) d_mod_wellMade_189 (by decide) ?_
              refine rp_goto (tgt := 194) d_mod_wellMade_190 (by decide) ?_
              refine rp_istore (i := 11) d_mod_wellMade_194 rfl (Nat.le_of_ble_eq_true rfl) ?_
              refine rp_iload (i := 11) d_mod_wellMade_196 rfl ?_
              refine rp_if_eq (tgt := 250) d_mod_wellMade_198 (by decide) (fun c198 => ?_) (fun c198 => ?_)
              · exact absurd c198 (by decide)
              · refine rp_iload (i := 5) d_mod_wellMade_201 rfl ?_
                refine rp_iconst (v := 1) d_mod_wellMade_203 (by decide) ?_
                refine rp_icmp_ne (tgt := 218) d_mod_wellMade_204 (by decide) (fun c204 => ?_) (fun c204 => ?_)
                · refine rp_aload_n (i := 0) d_mod_wellMade_218 rfl rfl ?_
                  refine rp_iload (i := 10) d_mod_wellMade_219 rfl ?_
                  refine rp_iload_n (i := 3) d_mod_wellMade_221 rfl rfl ?_
                  refine rp_iconst (v := 2) d_mod_wellMade_222 (by decide) ?_
                  refine rp_callV3 d_mod_wellMade_223 q_mod_wellMade_91 (Or.inl ⟨_, _, _, rfl, rfl⟩) (Nat.le_of_ble_eq_true rfl) (Nat.le_of_ble_eq_true rfl) ?_
                  refine s_mod_count hR rfl rfl (r_fd_le hab) hb ?_
                  refine rp_if_eq (tgt := 248) d_mod_wellMade_226 (by decide) (fun c226 => ?_) (fun c226 => ?_)
                  · refine rp_iconst (v := 0) d_mod_wellMade_248 (by decide) ?_
                    refine rp_ireturn (ty := .boolean) d_mod_wellMade_249 rfl (by first | rfl | decide | assumption) ?_
                    simpa [r_w2, cf_b, c98, c131, c157, c163, c169, c186, c198, c204, c226] using k
                  · refine rp_iload (i := 6) d_mod_wellMade_229 rfl ?_
                    refine rp_if_gt (tgt := 248) d_mod_wellMade_231 (by decide) (fun c231 => ?_) (fun c231 => ?_)
                    · refine rp_iconst (v := 0) d_mod_wellMade_248 (by decide) ?_
                      refine rp_ireturn (ty := .boolean) d_mod_wellMade_249 rfl (by first | rfl | decide | assumption) ?_
                      simpa [r_w2, cf_b, c98, c131, c157, c163, c169, c186, c198, c204, c226, c231] using k
                    · refine rp_aload_n (i := 0) d_mod_wellMade_234 rfl rfl ?_
                      refine rp_iload_n (i := 2) d_mod_wellMade_235 rfl rfl ?_
                      refine rp_aload_n (i := 0) d_mod_wellMade_236 rfl rfl ?_
                      refine rp_iload_n (i := 1) d_mod_wellMade_237 rfl rfl ?_
                      refine rp_callV1 d_mod_wellMade_238 q_mod_wellMade_99 (Or.inl ⟨_, _, _, rfl, rfl⟩) (Nat.le_of_ble_eq_true rfl) (Nat.le_of_ble_eq_true rfl) ?_
                      refine s_mod_integerEnd hR hs' rfl ?_
                      refine rp_iconst (v := 2) d_mod_wellMade_241 (by decide) ?_
                      refine rp_callV3 d_mod_wellMade_242 q_mod_wellMade_91 (Or.inl ⟨_, _, _, rfl, rfl⟩) (Nat.le_of_ble_eq_true rfl) (Nat.le_of_ble_eq_true rfl) ?_
                      refine s_mod_count hR rfl rfl i1 (by omega) ?_
                      refine rp_if_ne (tgt := 250) d_mod_wellMade_245 (by decide) (fun c245 => ?_) (fun c245 => ?_)
                      · rw [show r_w2 (h.2.2.2 22) a b = r_cm (h.2.2.2 22) a b a (b - a) by simp [r_w2, c98, c131, c157, c163, c169, c186, c198, c204, c226, c231, c245]] at k
                        refine rp_iload_n (i := 2) d_mod_wellMade_250 rfl rfl ?_
                        refine rp_istore (i := 12) d_mod_wellMade_251 rfl (Nat.le_of_ble_eq_true rfl) ?_
                        refine rp_lv [(0, .ref 19), (1, .int (nI s)), (3, .int (nI b)), (12, .int (nI a))] rfl ?_
                        exact l_mod_well hR hs' (b - a) a (by omega) (Nat.le_refl _) k
                      · refine rp_iconst (v := 0) d_mod_wellMade_248 (by decide) ?_
                        refine rp_ireturn (ty := .boolean) d_mod_wellMade_249 rfl (by first | rfl | decide | assumption) ?_
                        simpa [r_w2, cf_b, c98, c131, c157, c163, c169, c186, c198, c204, c226, c231, c245] using k
                · refine rp_aload_n (i := 0) d_mod_wellMade_207 rfl rfl ?_
                  refine rp_iload_n (i := 1) d_mod_wellMade_208 rfl rfl ?_
                  refine rp_iconst (v := 3) d_mod_wellMade_209 (by decide) ?_
                  refine rp_callV2 d_mod_wellMade_210 q_mod_wellMade_95 (Or.inl ⟨_, _, _, rfl, rfl⟩) (Nat.le_of_ble_eq_true rfl) (Nat.le_of_ble_eq_true rfl) ?_
                  refine s_mod_find hR hs' rfl ?_
                  refine rp_iload (i := 10) d_mod_wellMade_213 rfl ?_
                  refine rp_icmp_gt (tgt := 248) d_mod_wellMade_215 (by decide) (fun c215 => ?_) (fun c215 => ?_)
                  · refine rp_iconst (v := 0) d_mod_wellMade_248 (by decide) ?_
                    refine rp_ireturn (ty := .boolean) d_mod_wellMade_249 rfl (by first | rfl | decide | assumption) ?_
                    simpa [r_w2, cf_b, c98, c131, c157, c163, c169, c186, c198, c204, c215] using k
                  · refine rp_aload_n (i := 0) d_mod_wellMade_218 rfl rfl ?_
                    refine rp_iload (i := 10) d_mod_wellMade_219 rfl ?_
                    refine rp_iload_n (i := 3) d_mod_wellMade_221 rfl rfl ?_
                    refine rp_iconst (v := 2) d_mod_wellMade_222 (by decide) ?_
                    refine rp_callV3 d_mod_wellMade_223 q_mod_wellMade_91 (Or.inl ⟨_, _, _, rfl, rfl⟩) (Nat.le_of_ble_eq_true rfl) (Nat.le_of_ble_eq_true rfl) ?_
                    refine s_mod_count hR rfl rfl (r_fd_le hab) hb ?_
                    refine rp_if_eq (tgt := 248) d_mod_wellMade_226 (by decide) (fun c226 => ?_) (fun c226 => ?_)
                    · refine rp_iconst (v := 0) d_mod_wellMade_248 (by decide) ?_
                      refine rp_ireturn (ty := .boolean) d_mod_wellMade_249 rfl (by first | rfl | decide | assumption) ?_
                      simpa [r_w2, cf_b, c98, c131, c157, c163, c169, c186, c198, c204, c215, c226] using k
                    · refine rp_iload (i := 6) d_mod_wellMade_229 rfl ?_
                      refine rp_if_gt (tgt := 248) d_mod_wellMade_231 (by decide) (fun c231 => ?_) (fun c231 => ?_)
                      · refine rp_iconst (v := 0) d_mod_wellMade_248 (by decide) ?_
                        refine rp_ireturn (ty := .boolean) d_mod_wellMade_249 rfl (by first | rfl | decide | assumption) ?_
                        simpa [r_w2, cf_b, c98, c131, c157, c163, c169, c186, c198, c204, c215, c226, c231] using k
                      · refine rp_aload_n (i := 0) d_mod_wellMade_234 rfl rfl ?_
                        refine rp_iload_n (i := 2) d_mod_wellMade_235 rfl rfl ?_
                        refine rp_aload_n (i := 0) d_mod_wellMade_236 rfl rfl ?_
                        refine rp_iload_n (i := 1) d_mod_wellMade_237 rfl rfl ?_
                        refine rp_callV1 d_mod_wellMade_238 q_mod_wellMade_99 (Or.inl ⟨_, _, _, rfl, rfl⟩) (Nat.le_of_ble_eq_true rfl) (Nat.le_of_ble_eq_true rfl) ?_
                        refine s_mod_integerEnd hR hs' rfl ?_
                        refine rp_iconst (v := 2) d_mod_wellMade_241 (by decide) ?_
                        refine rp_callV3 d_mod_wellMade_242 q_mod_wellMade_91 (Or.inl ⟨_, _, _, rfl, rfl⟩) (Nat.le_of_ble_eq_true rfl) (Nat.le_of_ble_eq_true rfl) ?_
                        refine s_mod_count hR rfl rfl i1 (by omega) ?_
                        refine rp_if_ne (tgt := 250) d_mod_wellMade_245 (by decide) (fun c245 => ?_) (fun c245 => ?_)
                        · rw [show r_w2 (h.2.2.2 22) a b = r_cm (h.2.2.2 22) a b a (b - a) by simp [r_w2, c98, c131, c157, c163, c169, c186, c198, c204, c215, c226, c231, c245]] at k
                          refine rp_iload_n (i := 2) d_mod_wellMade_250 rfl rfl ?_
                          refine rp_istore (i := 12) d_mod_wellMade_251 rfl (Nat.le_of_ble_eq_true rfl) ?_
                          refine rp_lv [(0, .ref 19), (1, .int (nI s)), (3, .int (nI b)), (12, .int (nI a))] rfl ?_
                          exact l_mod_well hR hs' (b - a) a (by omega) (Nat.le_refl _) k
                        · refine rp_iconst (v := 0) d_mod_wellMade_248 (by decide) ?_
                          refine rp_ireturn (ty := .boolean) d_mod_wellMade_249 rfl (by first | rfl | decide | assumption) ?_
                          simpa [r_w2, cf_b, c98, c131, c157, c163, c169, c186, c198, c204, c215, c226, c231, c245] using k
          · refine rp_iconst (v := 0) d_mod_wellMade_172 (by decide) ?_
            refine rp_ireturn (ty := .boolean) d_mod_wellMade_173 rfl (by first | rfl | decide | assumption) ?_
            simpa [r_w2, cf_b, c98, c131, c157, c163, c169] using k
    · refine rp_iload (i := 5) d_mod_wellMade_134 rfl ?_
      refine rp_iload (i := 6) d_mod_wellMade_136 rfl ?_
      refine rp_iadd d_mod_wellMade_138 ?_
      refine rp_iload (i := 7) d_mod_wellMade_139 rfl ?_
      refine rp_iadd d_mod_wellMade_141 ?_
      refine rp_iload (i := 8) d_mod_wellMade_142 rfl ?_
      refine rp_iadd d_mod_wellMade_144 ?_
      refine rp_if_ne (tgt := 152) d_mod_wellMade_145 (by decide) (fun c145 => ?_) (fun c145 => ?_)
      · refine rp_iconst (v := 0) d_mod_wellMade_152 (by decide) ?_
        refine rp_ireturn (ty := .boolean) d_mod_wellMade_153 rfl (by first | rfl | decide | assumption) ?_
        simpa [r_w2, cf_b, c98, c131, c145] using k
      · refine rp_iconst (v := 1) d_mod_wellMade_148 (by decide) ?_
        refine rp_goto (tgt := 153) d_mod_wellMade_149 (by decide) ?_
        refine rp_ireturn (ty := .boolean) d_mod_wellMade_153 rfl (by first | rfl | decide | assumption) ?_
        simpa [r_w2, cf_b, c98, c131, c145] using k
  · refine rp_aload_n (i := 0) d_mod_wellMade_101 rfl rfl ?_
    refine rp_iload_n (i := 2) d_mod_wellMade_102 rfl rfl ?_
    refine rp_iload_n (i := 3) d_mod_wellMade_103 rfl rfl ?_
    refine rp_iconst (v := 2) d_mod_wellMade_104 (by decide) ?_
    refine rp_callV3 d_mod_wellMade_105 q_mod_wellMade_91 (Or.inl ⟨_, _, _, rfl, rfl⟩) (Nat.le_of_ble_eq_true rfl) (Nat.le_of_ble_eq_true rfl) ?_
    refine s_mod_count hR rfl rfl hab hb ?_
    refine rp_iload (i := 5) d_mod_wellMade_108 rfl ?_
    refine rp_iadd d_mod_wellMade_110 ?_
    refine rp_iload (i := 6) d_mod_wellMade_111 rfl ?_
    refine rp_iadd d_mod_wellMade_113 ?_
    refine rp_iload (i := 7) d_mod_wellMade_114 rfl ?_
    refine rp_iadd d_mod_wellMade_116 ?_
    refine rp_iload (i := 8) d_mod_wellMade_117 rfl ?_
    refine rp_iadd d_mod_wellMade_119 ?_
    refine rp_if_ne (tgt := 127) d_mod_wellMade_120 (by decide) (fun c120 => ?_) (fun c120 => ?_)
    · refine rp_iconst (v := 0) d_mod_wellMade_127 (by decide) ?_
      refine rp_ireturn (ty := .boolean) d_mod_wellMade_128 rfl (by first | rfl | decide | assumption) ?_
      simpa [r_w2, cf_b, c98, c120] using k
    · refine rp_iconst (v := 1) d_mod_wellMade_123 (by decide) ?_
      refine rp_goto (tgt := 128) d_mod_wellMade_124 (by decide) ?_
      refine rp_ireturn (ty := .boolean) d_mod_wellMade_128 rfl (by first | rfl | decide | assumption) ?_
      simpa [r_w2, cf_b, c98, c120] using k
set_option maxHeartbeats 4000000 in
set_option maxRecDepth 100000 in
theorem s_mod_wellMade {h : cf_H} {P : Option Value → cf_H → Prop} (hR : cf_ok h) {x : Int32} {s a b : Nat} (hs : r_sec h s a b) (hx : x = nI s) (k : P (some (.int (cf_b (r_wm (h.2.2.2 22) a b)))) h) : RP k_mod_wellMade 0 [(0, .ref 19), (1, .int x)] [] h P := by
  subst hx
  have e0 := r_s0 hs
  have e1 := r_s1 hs
  have hs' := hs
  obtain ⟨hs1, hs2, hab, hb, hs41⟩ := hs
  have n7 := r_ct_le (h.2.2.2 22) 7 a b
  refine rp_aload_n (i := 0) d_mod_wellMade_0 rfl rfl ?_
  refine rp_getR d_mod_wellMade_1 f_mod_25 rfl (hR _ _ _ rfl) ?_
  refine rp_iload_n (i := 1) d_mod_wellMade_4 rfl rfl ?_
  refine rp_iaload d_mod_wellMade_5 rfl (vp_in_nI (n := s) (by omega) (by omega)) ?_
  refine rp_istore_n (i := 2) d_mod_wellMade_6 rfl rfl (Nat.le_of_ble_eq_true rfl) ?_
  refine rp_aload_n (i := 0) d_mod_wellMade_7 rfl rfl ?_
  refine rp_getR d_mod_wellMade_8 f_mod_25 rfl (hR _ _ _ rfl) ?_
  refine rp_iload_n (i := 1) d_mod_wellMade_11 rfl rfl ?_
  refine rp_iconst (v := 1) d_mod_wellMade_12 (by decide) ?_
  refine rp_iadd d_mod_wellMade_13 ?_
  refine rp_iaload d_mod_wellMade_14 rfl (by rw [show nI s + 1 = nI (s + 1) from nI_1 s]; exact vp_in_nI (by omega) (by omega)) ?_
  refine rp_istore_n (i := 3) d_mod_wellMade_15 rfl rfl (Nat.le_of_ble_eq_true rfl) ?_
  refine rp_aload_n (i := 0) d_mod_wellMade_16 rfl rfl ?_
  refine rp_iload_n (i := 2) d_mod_wellMade_17 rfl rfl ?_
  refine rp_iload_n (i := 3) d_mod_wellMade_18 rfl rfl ?_
  refine rp_bipush (v := 7) d_mod_wellMade_19 (by decide) ?_
  refine rp_callV3 d_mod_wellMade_21 q_mod_wellMade_91 (Or.inl ⟨_, _, _, rfl, rfl⟩) (Nat.le_of_ble_eq_true rfl) (Nat.le_of_ble_eq_true rfl) ?_
  refine s_mod_count hR e0 e1 hab hb ?_
  refine rp_istore (i := 4) d_mod_wellMade_24 rfl (Nat.le_of_ble_eq_true rfl) ?_
  refine rp_iload (i := 4) d_mod_wellMade_26 rfl ?_
  refine rp_iconst (v := 1) d_mod_wellMade_28 (by decide) ?_
  refine rp_icmp_gt (tgt := 49) d_mod_wellMade_29 (by decide) (fun c29 => ?_) (fun c29 => ?_)
  · refine rp_iconst (v := 0) d_mod_wellMade_49 (by decide) ?_
    refine rp_ireturn (ty := .boolean) d_mod_wellMade_50 rfl (by first | rfl | decide | assumption) ?_
    first
    | (rw [e0, nI_clamp (by omega)] at c46; simpa [r_wm, cf_b, c29, c35, c46] using k)
    | (simpa [r_wm, cf_b, c29] using k)
  · refine rp_iload (i := 4) d_mod_wellMade_32 rfl ?_
    refine rp_iconst (v := 1) d_mod_wellMade_34 (by decide) ?_
    refine rp_icmp_ne (tgt := 51) d_mod_wellMade_35 (by decide) (fun c35 => ?_) (fun c35 => ?_)
    · refine rp_lv [(0, .ref 19), (1, .int (nI s)), (2, .int (nI a)), (3, .int (nI b))] (by rw [← e0, ← e1]; rfl) ?_
      refine t_wm51 hR hs' ?_
      first
      | (rw [e0, nI_clamp (by omega)] at c46; simpa [r_wm, c29, c35, c46] using k)
      | (simpa [r_wm, c29, c35] using k)
    · refine rp_aload_n (i := 0) d_mod_wellMade_38 rfl rfl ?_
      refine rp_getR d_mod_wellMade_39 f_mod_16 rfl (hR _ _ _ rfl) ?_
      refine rp_iload_n (i := 2) d_mod_wellMade_42 rfl rfl ?_
      refine rp_iaload d_mod_wellMade_43 rfl (by rw [e0]; exact vp_in_nI (by have := (nI_eq (b := 1) (by omega) (by decide)).mp c35; omega) (by omega)) ?_
      refine rp_bipush (v := 7) d_mod_wellMade_44 (by decide) ?_
      refine rp_icmp_eq (tgt := 51) d_mod_wellMade_46 (by decide) (fun c46 => ?_) (fun c46 => ?_)
      · refine rp_lv [(0, .ref 19), (1, .int (nI s)), (2, .int (nI a)), (3, .int (nI b))] (by rw [← e0, ← e1]; rfl) ?_
        refine t_wm51 hR hs' ?_
        first
        | (rw [e0, nI_clamp (by omega)] at c46; simpa [r_wm, c29, c35, c46] using k)
        | (simpa [r_wm, c29, c35] using k)
      · refine rp_iconst (v := 0) d_mod_wellMade_49 (by decide) ?_
        refine rp_ireturn (ty := .boolean) d_mod_wellMade_50 rfl (by first | rfl | decide | assumption) ?_
        first
        | (rw [e0, nI_clamp (by omega)] at c46; simpa [r_wm, cf_b, c29, c35, c46] using k)
        | (simpa [r_wm, cf_b, c29] using k)
