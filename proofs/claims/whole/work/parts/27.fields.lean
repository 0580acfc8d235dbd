/-! THE CLASS: Section.readFields -/
def x_lb (XS : List r_K) (a : Nat) : Nat → Int32
  | 0 => 0
  | i + 1 => if i < a then 0 else bif x_fd XS i then x_va XS i else x_lb XS a i
def x_lf (XS : List r_K) : Nat → Nat → Int32
  | _, 0 => 0
  | j, n + 1 => bif x_fd XS j then x_va XS j else x_lf XS (j + 1) n
/-- is the m or mm at j the minute -/
def x_mi (XS : List r_K) (a b j : Nat) : Bool := decide (x_ty XS j = 8) && decide (x_va XS j = 109) && !decide (2 < x_de XS j) && (decide (x_lb XS a j = 104) || decide (x_lf XS (j + 1) (b - (j + 1)) = 115))
def x_dy (XS : List r_K) (a b j : Nat) : Bool := decide (x_ty XS j = 8) && !x_mi XS a b j && (decide (x_va XS j = 121) || decide (x_va XS j = 109) || decide (x_va XS j = 100))
def x_mn (XS : List r_K) (a b i : Nat) : List r_K := XS.mapIdx (fun j x => bif (decide (a ≤ j) && decide (j < i) && x_mi XS a b j) then (x.1, 110, x.2.2) else x)
theorem x_mn_at (XS : List r_K) (a b i j : Nat) : (x_mn XS a b i)[j]? = (XS[j]?).map (fun x => bif (decide (a ≤ j) && decide (j < i) && x_mi XS a b j) then (x.1, 110, x.2.2) else x) := by
  unfold x_mn
  rw [List.getElem?_mapIdx]
theorem x_mn_len (XS : List r_K) (a b i : Nat) : (x_mn XS a b i).length = XS.length := by unfold x_mn; simp
theorem x_mn_ty (XS : List r_K) (a b i j : Nat) : x_ty (x_mn XS a b i) j = x_ty XS j := by
  unfold x_ty
  rw [x_mn_at]
  cases XS[j]? with
  | none => rfl
  | some x => simp only [Option.map_some]; cases (decide (a ≤ j) && decide (j < i) && x_mi XS a b j) <;> rfl
theorem x_mn_de (XS : List r_K) (a b i j : Nat) : x_de (x_mn XS a b i) j = x_de XS j := by
  unfold x_de
  rw [x_mn_at]
  cases XS[j]? with
  | none => rfl
  | some x => simp only [Option.map_some]; cases (decide (a ≤ j) && decide (j < i) && x_mi XS a b j) <;> rfl
theorem x_mn_va (XS : List r_K) (a b i j : Nat) : x_va (x_mn XS a b i) j = x_va XS j ∨ (x_va (x_mn XS a b i) j = 110 ∧ x_va XS j = 109) := by
  unfold x_va
  rw [x_mn_at]
  cases e : XS[j]? with
  | none => left; rfl
  | some x =>
    simp only [Option.map_some]
    cases e2 : (decide (a ≤ j) && decide (j < i) && x_mi XS a b j) with
    | false => left; rfl
    | true =>
      right
      refine ⟨rfl, ?_⟩
      simp only [Bool.and_eq_true] at e2
      have := e2.2
      simp only [x_mi, Bool.and_eq_true, decide_eq_true_eq] at this
      have := this.1.1.2
      unfold x_va at this
      rw [e] at this
      exact this
theorem x_mn_va2 (XS : List r_K) {a b i j : Nat} (h : i ≤ j) : x_va (x_mn XS a b i) j = x_va XS j := by
  unfold x_va
  rw [x_mn_at]
  cases XS[j]? with
  | none => rfl
  | some x => simp only [Option.map_some]; rw [show decide (j < i) = false by simp; omega]; simp
theorem x_mn_fd (XS : List r_K) (a b i j : Nat) : x_fd (x_mn XS a b i) j = x_fd XS j := by unfold x_fd; rw [x_mn_ty]
theorem x_mn_lb (XS : List r_K) (a b i : Nat) : ∀ j, x_lb (x_mn XS a b i) a j = 104 ↔ x_lb XS a j = 104 := by
  intro j
  induction j with
  | zero => exact Iff.rfl
  | succ j ih =>
    unfold x_lb
    split
    · exact Iff.rfl
    · rw [x_mn_fd]
      cases x_fd XS j with
      | false => exact ih
      | true =>
        simp only [cond_true]
        rcases x_mn_va XS a b i j with z | ⟨z1, z2⟩
        · rw [z]
        · rw [z1, z2]; decide
theorem x_mn_lf (XS : List r_K) (a b i : Nat) : ∀ n j, x_lf (x_mn XS a b i) j n = 115 ↔ x_lf XS j n = 115 := by
  intro n
  induction n with
  | zero => intro j; exact Iff.rfl
  | succ n ih =>
    intro j
    unfold x_lf
    rw [x_mn_fd]
    cases x_fd XS j with
    | false => exact ih (j + 1)
    | true =>
      simp only [cond_true]
      rcases x_mn_va XS a b i j with z | ⟨z1, z2⟩
      · rw [z]
      · rw [z1, z2]; decide
theorem x_mn_0 (XS : List r_K) (a b : Nat) : x_mn XS a b a = XS := by
  apply List.ext_getElem?
  intro j
  rw [x_mn_at]
  cases XS[j]? with
  | none => rfl
  | some x =>
    simp only [Option.map_some]
    have : (decide (a ≤ j) && decide (j < a)) = false := by
      by_cases e : a ≤ j
      · simp [e, Nat.not_lt.mpr e]
      · simp [e]
    rw [this]
    simp
theorem x_mn_S0 {XS : List r_K} {a b i : Nat} (h : x_mi XS a b i = false) : x_mn XS a b (i + 1) = x_mn XS a b i := by
  apply List.ext_getElem?
  intro j
  rw [x_mn_at, x_mn_at]
  by_cases e : j = i
  · subst e; rw [h]; simp
  · rw [show decide (j < i + 1) = decide (j < i) from by rw [decide_eq_decide]; omega]
theorem x_mn_S1 {XS : List r_K} {a b i : Nat} (h : x_mi XS a b i = true) (ha : a ≤ i) {x : r_K} (hx : (x_mn XS a b i)[i]? = some x) : x_mn XS a b (i + 1) = (x_mn XS a b i).set i (x.1, 110, x.2.2) := by
  apply List.ext_getElem?
  intro j
  rw [x_mn_at, List.getElem?_set]
  by_cases e : i = j
  · subst e
    rw [if_pos rfl]
    have hl := (List.getElem?_eq_some_iff.mp hx).1
    rw [if_pos hl]
    rw [x_mn_at] at hx
    cases e2 : XS[i]? with
    | none => rw [e2] at hx; cases hx
    | some y =>
      rw [e2] at hx
      simp only [Option.map_some] at hx ⊢
      rw [show decide (i < i) = false by simp] at hx
      simp at hx
      subst hx
      simp [h, ha]
  · rw [if_neg e, x_mn_at, show decide (j < i + 1) = decide (j < i) from by rw [decide_eq_decide]; omega]
theorem x_B_set {h : cf_H} {XS : List r_K} (B : x_B h XS) {i : Nat} {x : r_K} (hx : XS[i]? = some x) (v : Int32) (hi : i < 2 ^ 31) : x_B (cf_pA h 4 (nI i) v) (XS.set i (x.1, v, x.2.2)) := by
  obtain ⟨hR, ⟨ht, hh⟩, h40⟩ := B
  refine ⟨hR, ⟨by rw [List.length_set]; exact ht, ?_⟩, by rw [List.length_set]; exact h40⟩
  intro j y hj
  rw [g_A4, g_A4, g_A4, if_neg (by decide), if_pos rfl, if_neg (by decide), nI_clamp hi]
  rw [List.getElem?_set] at hj
  by_cases e : i = j
  · subst e
    have hl := (List.getElem?_eq_some_iff.mp hx).1
    rw [if_pos rfl, if_pos hl] at hj
    cases hj
    have := hh i x hx
    exact ⟨this.1, by simp [upd], this.2.2⟩
  · rw [if_neg e] at hj
    have := hh j y hj
    refine ⟨this.1, ?_, this.2.2⟩
    unfold upd
    rw [if_neg (fun z => e z.symm)]
    exact this.2.1

set_option maxHeartbeats 4000000 in
set_option maxRecDepth 100000 in
theorem l_sec_lb {h0 h : cf_H} {P : Option Value → cf_H → Prop} {o : Nat} {XS : List r_K} {a b : Nat} (B : s_B h0 h o XS a b) : ∀ (i : Nat), i ≤ b → (k : P (some (.int (x_lb XS a i))) h) → RP k_sec_letterBefore 4 [(0, .ref o), (1, .ref 2), (3, .int (nI i - 1))] [] h P := by
  obtain ⟨ho9, hB, ha, hb, hab, hbl, hfr⟩ := id B
  have ho := s_ho ho9
  have h40 := hB.2.2
  have hR := hB.1
  intro i
  induction i with
  | zero =>
    intro e k
    have hlt : nI 0 - 1 < nI a := by
      rw [Int32.lt_iff_toInt_lt, show (nI 0 - 1) = nI 0 - nI 1 from rfl, pk_sub_toInt (by decide) (by decide), nI_toInt (by omega)]
      omega
    refine rp_iload_n (i := 3) d_sec_letterBefore_4 rfl rfl ?_
    refine rp_aload_n (i := 0) d_sec_letterBefore_5 rfl rfl ?_
    refine rp_getI d_sec_letterBefore_6 f_sec_15 ho ?_
    refine rp_icmp_lt (tgt := 32) d_sec_letterBefore_9 (by decide) (fun c9 => ?_) (fun c9 => ?_)
    · refine rp_iconst (v := 0) d_sec_letterBefore_32 (by decide) ?_
      refine rp_ireturn (ty := .int) d_sec_letterBefore_33 rfl rfl ?_
      exact k
    · exact absurd (by rw [ha]; exact hlt) c9
  | succ i ih =>
    intro e k
    rw [show nI (i + 1) - 1 = nI i from nI_pred i]
    refine rp_iload_n (i := 3) d_sec_letterBefore_4 rfl rfl ?_
    refine rp_aload_n (i := 0) d_sec_letterBefore_5 rfl rfl ?_
    refine rp_getI d_sec_letterBefore_6 f_sec_15 ho ?_
    refine rp_icmp_lt (tgt := 32) d_sec_letterBefore_9 (by decide) (fun c9 => ?_) (fun c9 => ?_)
    · refine rp_iconst (v := 0) d_sec_letterBefore_32 (by decide) ?_
      refine rp_ireturn (ty := .int) d_sec_letterBefore_33 rfl rfl ?_
      rw [ha, nI_ltI (by omega) (by omega)] at c9
      rw [x_lb, if_pos c9] at k
      exact k
    · refine rp_aload_n (i := 1) d_sec_letterBefore_12 rfl rfl ?_
      refine rp_iload_n (i := 3) d_sec_letterBefore_13 rfl rfl ?_
      refine rp_callV1 d_sec_letterBefore_14 q_sec_letterBefore_59 (Or.inl ⟨_, _, _, rfl, rfl⟩) (Nat.le_of_ble_eq_true rfl) (Nat.le_of_ble_eq_true rfl) ?_
      refine t_isField hB rfl (by omega) ?_
      refine rp_if_eq (tgt := 26) d_sec_letterBefore_17 (by decide) (fun c17 => ?_) (fun c17 => ?_)
      · refine rp_iinc (i := 3) (y := (-1)) d_sec_letterBefore_26 rfl (by decide) rfl (Nat.le_of_ble_eq_true rfl) ?_
        refine rp_goto (tgt := 4) d_sec_letterBefore_29 (by decide) ?_
        have hf : x_fd XS i = false := by cases e2 : x_fd XS i with | false => rfl | true => rw [e2] at c17; exact absurd c17 (by decide)
        rw [ha, nI_ltI (by omega) (by omega)] at c9
        refine rp_lv [(0, .ref o), (1, .ref 2), (3, .int (nI i - 1))] (by rw [Int32.sub_eq_add_neg]; rfl) ?_
        refine ih (by omega) ?_
        rw [x_lb, if_neg c9, hf] at k
        exact k
      · refine rp_aload_n (i := 1) d_sec_letterBefore_20 rfl rfl ?_
        refine rp_iload_n (i := 3) d_sec_letterBefore_21 rfl rfl ?_
        refine rp_callV1 d_sec_letterBefore_22 q_sec_letterBefore_70 (Or.inl ⟨_, _, _, rfl, rfl⟩) (Nat.le_of_ble_eq_true rfl) (Nat.le_of_ble_eq_true rfl) ?_
        refine t_valueAt hB rfl (by omega) ?_
        refine rp_ireturn (ty := .int) d_sec_letterBefore_25 rfl rfl ?_
        have hf : x_fd XS i = true := by cases e2 : x_fd XS i with | true => rfl | false => rw [e2] at c17; exact absurd rfl c17
        rw [ha, nI_ltI (by omega) (by omega)] at c9
        rw [x_lb, if_neg c9, hf] at k
        exact k
set_option maxHeartbeats 4000000 in
set_option maxRecDepth 100000 in
theorem s_sec_letterBefore {h0 h : cf_H} {P : Option Value → cf_H → Prop} {o : Nat} {XS : List r_K} {a b : Nat} (B : s_B h0 h o XS a b) {x : Int32} {i : Nat} (hx : x = nI i) (hi : i ≤ b) (k : P (some (.int (x_lb XS a i))) h) : RP k_sec_letterBefore 0 [(0, .ref o), (1, .ref 2), (2, .int x)] [] h P := by
  subst hx
  refine rp_iload_n (i := 2) d_sec_letterBefore_0 rfl rfl ?_
  refine rp_iconst (v := 1) d_sec_letterBefore_1 (by decide) ?_
  refine rp_isub d_sec_letterBefore_2 ?_
  refine rp_istore_n (i := 3) d_sec_letterBefore_3 rfl rfl (Nat.le_of_ble_eq_true rfl) ?_
  refine rp_lv [(0, .ref o), (1, .ref 2), (3, .int (nI i - 1))] rfl ?_
  exact l_sec_lb B i hi k
set_option maxHeartbeats 4000000 in
set_option maxRecDepth 100000 in
theorem l_sec_lf {h0 h : cf_H} {P : Option Value → cf_H → Prop} {o : Nat} {XS : List r_K} {a b : Nat} (B : s_B h0 h o XS a b) : ∀ (n i : Nat), i + n = b → (k : P (some (.int (x_lf XS i n))) h) → RP k_sec_letterBehind 4 [(0, .ref o), (1, .ref 2), (3, .int (nI i))] [] h P := by
  obtain ⟨ho9, hB, ha, hb, hab, hbl, hfr⟩ := id B
  have ho := s_ho ho9
  have h40 := hB.2.2
  have hR := hB.1
  intro n
  induction n with
  | zero =>
    intro i e k
    have e : i = b := e
    subst e
    refine rp_iload_n (i := 3) d_sec_letterBehind_4 rfl rfl ?_
    refine rp_aload_n (i := 0) d_sec_letterBehind_5 rfl rfl ?_
    refine rp_getI d_sec_letterBehind_6 f_sec_18 ho ?_
    refine rp_icmp_ge (tgt := 32) d_sec_letterBehind_9 (by decide) (fun c9 => ?_) (fun c9 => ?_)
    · refine rp_iconst (v := 0) d_sec_letterBehind_32 (by decide) ?_
      refine rp_ireturn (ty := .int) d_sec_letterBehind_33 rfl rfl ?_
      exact k
    · exact absurd (by rw [hb]; exact nI_le (Nat.le_refl _) (by omega)) c9
  | succ n ih =>
    intro i e k
    refine rp_iload_n (i := 3) d_sec_letterBehind_4 rfl rfl ?_
    refine rp_aload_n (i := 0) d_sec_letterBehind_5 rfl rfl ?_
    refine rp_getI d_sec_letterBehind_6 f_sec_18 ho ?_
    refine rp_icmp_ge (tgt := 32) d_sec_letterBehind_9 (by decide) (fun c9 => ?_) (fun c9 => ?_)
    · exact absurd c9 (by rw [hb]; exact nI_ge (by omega) (by omega))
    · refine rp_aload_n (i := 1) d_sec_letterBehind_12 rfl rfl ?_
      refine rp_iload_n (i := 3) d_sec_letterBehind_13 rfl rfl ?_
      refine rp_callV1 d_sec_letterBehind_14 q_sec_letterBehind_59 (Or.inl ⟨_, _, _, rfl, rfl⟩) (Nat.le_of_ble_eq_true rfl) (Nat.le_of_ble_eq_true rfl) ?_
      refine t_isField hB rfl (by omega) ?_
      refine rp_if_eq (tgt := 26) d_sec_letterBehind_17 (by decide) (fun c17 => ?_) (fun c17 => ?_)
      · refine rp_iinc (i := 3) (y := 1) d_sec_letterBehind_26 rfl (by decide) rfl (Nat.le_of_ble_eq_true rfl) ?_
        refine rp_goto (tgt := 4) d_sec_letterBehind_29 (by decide) ?_
        have hf : x_fd XS i = false := by cases e2 : x_fd XS i with | false => rfl | true => rw [e2] at c17; exact absurd c17 (by decide)
        refine rp_lv [(0, .ref o), (1, .ref 2), (3, .int (nI (i + 1)))] (by simp only [nI_succ]; rfl) ?_
        refine ih (i + 1) (by omega) ?_
        rw [x_lf, hf] at k
        exact k
      · refine rp_aload_n (i := 1) d_sec_letterBehind_20 rfl rfl ?_
        refine rp_iload_n (i := 3) d_sec_letterBehind_21 rfl rfl ?_
        refine rp_callV1 d_sec_letterBehind_22 q_sec_letterBehind_70 (Or.inl ⟨_, _, _, rfl, rfl⟩) (Nat.le_of_ble_eq_true rfl) (Nat.le_of_ble_eq_true rfl) ?_
        refine t_valueAt hB rfl (by omega) ?_
        refine rp_ireturn (ty := .int) d_sec_letterBehind_25 rfl rfl ?_
        have hf : x_fd XS i = true := by cases e2 : x_fd XS i with | true => rfl | false => rw [e2] at c17; exact absurd rfl c17
        rw [x_lf, hf] at k
        exact k
set_option maxHeartbeats 4000000 in
set_option maxRecDepth 100000 in
theorem s_sec_letterBehind {h0 h : cf_H} {P : Option Value → cf_H → Prop} {o : Nat} {XS : List r_K} {a b : Nat} (B : s_B h0 h o XS a b) {x : Int32} {i : Nat} (hx : x = nI i) (hi : i < b) (k : P (some (.int (x_lf XS (i + 1) (b - (i + 1))))) h) : RP k_sec_letterBehind 0 [(0, .ref o), (1, .ref 2), (2, .int x)] [] h P := by
  subst hx
  refine rp_iload_n (i := 2) d_sec_letterBehind_0 rfl rfl ?_
  refine rp_iconst (v := 1) d_sec_letterBehind_1 (by decide) ?_
  refine rp_iadd d_sec_letterBehind_2 ?_
  refine rp_istore_n (i := 3) d_sec_letterBehind_3 rfl rfl (Nat.le_of_ble_eq_true rfl) ?_
  refine rp_lv [(0, .ref o), (1, .ref 2), (3, .int (nI (i + 1)))] (by simp only [nI_succ]; rfl) ?_
  exact l_sec_lf B (b - (i + 1)) (i + 1) (by omega) k
set_option maxHeartbeats 4000000 in
set_option maxRecDepth 100000 in
theorem s_tok_setValue {h : cf_H} {P : Option Value → cf_H → Prop} {XS : List r_K} (hB : x_B h XS) {x v : Int32} {i : Nat} (hx : x = nI i) (hi : i < XS.length) (k : P none (cf_pA h 4 (nI i) v)) : RP k_tok_setValue 0 [(0, .ref 2), (1, .int x), (2, .int v)] [] h P := by
  subst hx
  obtain ⟨hR, ⟨ht, hh⟩, h40⟩ := id hB
  refine rp_iload_n (i := 1) d_tok_setValue_0 rfl rfl ?_
  refine rp_if_lt (tgt := 19) d_tok_setValue_1 (by decide) (fun c1 => ?_) (fun c1 => ?_)
  · exact absurd c1 (nI_pos (by omega))
  · refine rp_iload_n (i := 1) d_tok_setValue_4 rfl rfl ?_
    refine rp_aload_n (i := 0) d_tok_setValue_5 rfl rfl ?_
    refine rp_getI d_tok_setValue_6 f_tok_21 rfl ?_
    refine rp_icmp_ge (tgt := 19) d_tok_setValue_9 (by decide) (fun c9 => ?_) (fun c9 => ?_)
    · exact absurd c9 (by rw [ht]; exact nI_ge hi (by omega))
    · refine rp_aload_n (i := 0) d_tok_setValue_12 rfl rfl ?_
      refine rp_getR d_tok_setValue_13 f_tok_15 rfl (hR _ _ _ rfl) ?_
      refine rp_iload_n (i := 1) d_tok_setValue_16 rfl rfl ?_
      refine rp_iload_n (i := 2) d_tok_setValue_17 rfl rfl ?_
      refine rp_iastore d_tok_setValue_18 rfl (vp_in_nI (by omega) (by omega)) ?_
      refine rp_return d_tok_setValue_19 rfl ?_
      exact k
