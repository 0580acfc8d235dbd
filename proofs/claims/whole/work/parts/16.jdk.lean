/-! THE JDK: Math, String -/
theorem s_str_9 : Cond.fieldLink "java/lang/String" 9 "java/lang/String" "value" "[B" ∈ cf_T := cf_in 1191 (by decide +kernel) (by decide +kernel)
theorem s_str_15 : Cond.fieldLink "java/lang/String" 15 "java/lang/String" "coder" "B" ∈ cf_T := cf_in 1190 (by decide +kernel) (by decide +kernel)
set_option maxHeartbeats 4000000 in
set_option maxRecDepth 100000 in
theorem s_math_min {h : cf_H} {P : Option Value → cf_H → Prop} {x y : Int32} (k : P (some (.int (if y < x then y else x))) h) : RP k_math_min 0 [(0, .int x), (1, .int y)] [] h P := by
  refine rp_iload_n (i := 0) d_math_min_0 rfl rfl ?_
  refine rp_iload_n (i := 1) d_math_min_1 rfl rfl ?_
  refine rp_icmp_gt (tgt := 9) d_math_min_2 (by decide) (fun c2 => ?_) (fun c2 => ?_)
  · refine rp_iload_n (i := 1) d_math_min_9 rfl rfl ?_
    refine rp_ireturn (ty := .int) d_math_min_10 rfl rfl ?_
    simpa [c2] using k
  · refine rp_iload_n (i := 0) d_math_min_5 rfl rfl ?_
    refine rp_goto (tgt := 10) d_math_min_6 (by decide) ?_
    refine rp_ireturn (ty := .int) d_math_min_10 rfl rfl ?_
    simpa [c2] using k
set_option maxHeartbeats 4000000 in
set_option maxRecDepth 100000 in
theorem s_math_max {h : cf_H} {P : Option Value → cf_H → Prop} {x y : Int32} (k : P (some (.int (if x < y then y else x))) h) : RP k_math_max 0 [(0, .int x), (1, .int y)] [] h P := by
  refine rp_iload_n (i := 0) d_math_max_0 rfl rfl ?_
  refine rp_iload_n (i := 1) d_math_max_1 rfl rfl ?_
  refine rp_icmp_lt (tgt := 9) d_math_max_2 (by decide) (fun c2 => ?_) (fun c2 => ?_)
  · refine rp_iload_n (i := 1) d_math_max_9 rfl rfl ?_
    refine rp_ireturn (ty := .int) d_math_max_10 rfl rfl ?_
    simpa [c2] using k
  · refine rp_iload_n (i := 0) d_math_max_5 rfl rfl ?_
    refine rp_goto (tgt := 10) d_math_max_6 (by decide) ?_
    refine rp_ireturn (ty := .int) d_math_max_10 rfl rfl ?_
    simpa [c2] using k
set_option maxHeartbeats 4000000 in
set_option maxRecDepth 100000 in
theorem s_math_abs_J {h : cf_H} {P : Option Value → cf_H → Prop} {x : Int64} (k : P (some (.long (if 0 ≤ lg_cmp x 0 then x else -x))) h) : RP k_math_abs_J 0 [(0, .long x)] [] h P := by
  refine rp_lload_n (i := 0) d_math_abs_J_0 rfl rfl ?_
  refine rp_lconst (v := 0) d_math_abs_J_1 (by decide) ?_
  refine rp_lcmp d_math_abs_J_2 ?_
  refine rp_if_ge (tgt := 11) d_math_abs_J_3 (by decide) (fun c3 => ?_) (fun c3 => ?_)
  · refine rp_lload_n (i := 0) d_math_abs_J_11 rfl rfl ?_
    refine rp_lreturn d_math_abs_J_12 rfl ?_
    first
    | (rw [if_pos c3] at k; exact k)
    | (rw [if_neg c3] at k; exact k)
  · refine rp_lload_n (i := 0) d_math_abs_J_6 rfl rfl ?_
    refine rp_lneg d_math_abs_J_7 ?_
    refine rp_goto (tgt := 12) d_math_abs_J_8 (by decide) ?_
    refine rp_lreturn d_math_abs_J_12 rfl ?_
    first
    | (rw [if_pos c3] at k; exact k)
    | (rw [if_neg c3] at k; exact k)
set_option maxHeartbeats 4000000 in
set_option maxRecDepth 100000 in
theorem s_math_abs_I {h : cf_H} {P : Option Value → cf_H → Prop} {x : Int32} (k : P (some (.int (if 0 ≤ x then x else -x))) h) : RP k_math_abs_I 0 [(0, .int x)] [] h P := by
  refine rp_iload_n (i := 0) d_math_abs_I_0 rfl rfl ?_
  refine rp_if_ge (tgt := 9) d_math_abs_I_1 (by decide) (fun c1 => ?_) (fun c1 => ?_)
  · refine rp_iload_n (i := 0) d_math_abs_I_9 rfl rfl ?_
    refine rp_ireturn (ty := .int) d_math_abs_I_10 rfl rfl ?_
    first
    | (rw [if_pos c1] at k; exact k)
    | (rw [if_neg c1] at k; exact k)
  · refine rp_iload_n (i := 0) d_math_abs_I_4 rfl rfl ?_
    refine rp_ineg d_math_abs_I_5 ?_
    refine rp_goto (tgt := 10) d_math_abs_I_6 (by decide) ?_
    refine rp_ireturn (ty := .int) d_math_abs_I_10 rfl rfl ?_
    first
    | (rw [if_pos c1] at k; exact k)
    | (rw [if_neg c1] at k; exact k)
def j_fdiv (x y : Int32) : Int32 := if 0 ≤ x ^^^ y then x / y else if x / y * y = x then x / y else x / y - 1
set_option maxHeartbeats 4000000 in
set_option maxRecDepth 100000 in
theorem s_math_floorDiv {h : cf_H} {P : Option Value → cf_H → Prop} {x y : Int32} (hy : ¬ y = 0) (k : P (some (.int (j_fdiv x y))) h) : RP k_math_floorDiv 0 [(0, .int x), (1, .int y)] [] h P := by
  refine rp_iload_n (i := 0) d_math_floorDiv_0 rfl rfl ?_
  refine rp_iload_n (i := 1) d_math_floorDiv_1 rfl rfl ?_
  refine rp_idiv d_math_floorDiv_2 hy ?_
  refine rp_istore_n (i := 2) d_math_floorDiv_3 rfl rfl (Nat.le_of_ble_eq_true rfl) ?_
  refine rp_iload_n (i := 0) d_math_floorDiv_4 rfl rfl ?_
  refine rp_iload_n (i := 1) d_math_floorDiv_5 rfl rfl ?_
  refine rp_ixor d_math_floorDiv_6 ?_
  refine rp_if_ge (tgt := 21) d_math_floorDiv_7 (by decide) (fun c7 => ?_) (fun c7 => ?_)
  · refine rp_iload_n (i := 2) d_math_floorDiv_21 rfl rfl ?_
    refine rp_ireturn (ty := .int) d_math_floorDiv_22 rfl rfl ?_
    first
    | (rw [j_fdiv, if_pos c7] at k; exact k)
    | (rw [j_fdiv, if_neg c7, if_pos c14] at k; exact k)
    | (rw [j_fdiv, if_neg c7, if_neg c14] at k; exact k)
  · refine rp_iload_n (i := 2) d_math_floorDiv_10 rfl rfl ?_
    refine rp_iload_n (i := 1) d_math_floorDiv_11 rfl rfl ?_
    refine rp_imul d_math_floorDiv_12 ?_
    refine rp_iload_n (i := 0) d_math_floorDiv_13 rfl rfl ?_
    refine rp_icmp_eq (tgt := 21) d_math_floorDiv_14 (by decide) (fun c14 => ?_) (fun c14 => ?_)
    · refine rp_iload_n (i := 2) d_math_floorDiv_21 rfl rfl ?_
      refine rp_ireturn (ty := .int) d_math_floorDiv_22 rfl rfl ?_
      first
      | (rw [j_fdiv, if_pos c7] at k; exact k)
      | (rw [j_fdiv, if_neg c7, if_pos c14] at k; exact k)
      | (rw [j_fdiv, if_neg c7, if_neg c14] at k; exact k)
    · refine rp_iload_n (i := 2) d_math_floorDiv_17 rfl rfl ?_
      refine rp_iconst (v := 1) d_math_floorDiv_18 (by decide) ?_
      refine rp_isub d_math_floorDiv_19 ?_
      refine rp_ireturn (ty := .int) d_math_floorDiv_20 rfl rfl ?_
      first
      | (rw [j_fdiv, if_pos c7] at k; exact k)
      | (rw [j_fdiv, if_neg c7, if_pos c14] at k; exact k)
      | (rw [j_fdiv, if_neg c7, if_neg c14] at k; exact k)
set_option maxHeartbeats 4000000 in
set_option maxRecDepth 100000 in
theorem s_str_isLatin1 {h : cf_H} {P : Option Value → cf_H → Prop} {i : Nat} {q : String × Nat × String} (hq : cf_strs[i]? = some q) (k : P (some (.int 1)) h) : RP k_str_isLatin1 0 [(0, .ref (110 + i))] [] h P := by
  refine rp_gets (v := .int 1) d_str_isLatin1_0 (List.mem_of_getElem? (i := 0) rfl) t_str_38 ?_
  refine rp_if_eq (tgt := 17) d_str_isLatin1_3 (by decide) (fun c3 => ?_) (fun c3 => ?_)
  · exact absurd c3 (by decide)
  · refine rp_aload_n (i := 0) d_str_isLatin1_6 rfl rfl ?_
    refine rp_getSc (i := i) d_str_isLatin1_7 hq s_str_15 ?_
    refine rp_if_ne (tgt := 17) d_str_isLatin1_10 (by decide) (fun c10 => ?_) (fun c10 => ?_)
    · exact absurd rfl c10
    · refine rp_iconst (v := 1) d_str_isLatin1_13 (by decide) ?_
      refine rp_goto (tgt := 18) d_str_isLatin1_14 (by decide) ?_
      refine rp_ireturn (ty := .boolean) d_str_isLatin1_18 rfl (by first | rfl | decide | assumption) ?_
      exact k
set_option maxHeartbeats 4000000 in
set_option maxRecDepth 100000 in
theorem s_str_coder {h : cf_H} {P : Option Value → cf_H → Prop} {i : Nat} {q : String × Nat × String} (hq : cf_strs[i]? = some q) (k : P (some (.int 0)) h) : RP k_str_coder 0 [(0, .ref (110 + i))] [] h P := by
  refine rp_gets (v := .int 1) d_str_coder_0 (List.mem_of_getElem? (i := 0) rfl) t_str_38 ?_
  refine rp_if_eq (tgt := 13) d_str_coder_3 (by decide) (fun c3 => ?_) (fun c3 => ?_)
  · exact absurd c3 (by decide)
  · refine rp_aload_n (i := 0) d_str_coder_6 rfl rfl ?_
    refine rp_getSc (i := i) d_str_coder_7 hq s_str_15 ?_
    refine rp_goto (tgt := 14) d_str_coder_10 (by decide) ?_
    refine rp_ireturn (ty := .byte) d_str_coder_14 rfl (by first | rfl | decide | assumption) ?_
    exact k
set_option maxHeartbeats 4000000 in
set_option maxRecDepth 100000 in
theorem s_str_length {h : cf_H} {P : Option Value → cf_H → Prop} {i L : Nat} {q : String × Nat × String} (hq : cf_strs[i]? = some q) (hk : cf_ka (130 + i) = some (.byte, L, fun j => .int ((cf_byt.getD i []).getD j 0))) (hL : L ≤ 40) (k : P (some (.int (nI L))) h) : RP k_str_length 0 [(0, .ref (110 + i))] [] h P := by
  refine rp_aload_n (i := 0) d_str_length_0 rfl rfl ?_
  refine rp_getSv (i := i) d_str_length_1 hq s_str_9 ?_
  refine rp_alenK (v := (nI L)) d_str_length_4 hk rfl ?_
  refine rp_aload_n (i := 0) d_str_length_5 rfl rfl ?_
  refine rp_callV0 d_str_length_6 q_str_length_335 (Or.inr ⟨i, q, rfl, hq, rfl⟩) (Nat.le_of_ble_eq_true rfl) (Nat.le_of_ble_eq_true rfl) ?_
  refine s_str_coder hq ?_
  refine rp_ishr d_str_length_9 ?_
  refine rp_ireturn (ty := .int) d_str_length_10 rfl rfl ?_
  rw [sb_shr0]
  exact k
set_option maxHeartbeats 4000000 in
set_option maxRecDepth 100000 in
theorem s_sla_canEncode {h : cf_H} {P : Option Value → cf_H → Prop} {x : Int32} (k : P (some (.int (cf_b (!decide (x < 0) && !decide (255 < x))))) h) : RP k_sla_canEncode 0 [(0, .int x)] [] h P := by
  refine rp_iload_n (i := 0) d_sla_canEncode_0 rfl rfl ?_
  refine rp_if_lt (tgt := 15) d_sla_canEncode_1 (by decide) (fun c1 => ?_) (fun c1 => ?_)
  · refine rp_iconst (v := 0) d_sla_canEncode_15 (by decide) ?_
    refine rp_ireturn (ty := .boolean) d_sla_canEncode_16 rfl (by first | rfl | decide | assumption) ?_
    simpa [cf_b, c1] using k
  · refine rp_iload_n (i := 0) d_sla_canEncode_4 rfl rfl ?_
    refine rp_sipush (v := 255) d_sla_canEncode_5 (by decide) ?_
    refine rp_icmp_gt (tgt := 15) d_sla_canEncode_8 (by decide) (fun c8 => ?_) (fun c8 => ?_)
    · refine rp_iconst (v := 0) d_sla_canEncode_15 (by decide) ?_
      refine rp_ireturn (ty := .boolean) d_sla_canEncode_16 rfl (by first | rfl | decide | assumption) ?_
      simpa [cf_b, c1, c8] using k
    · refine rp_iconst (v := 1) d_sla_canEncode_11 (by decide) ?_
      refine rp_goto (tgt := 16) d_sla_canEncode_12 (by decide) ?_
      refine rp_ireturn (ty := .boolean) d_sla_canEncode_16 rfl (by first | rfl | decide | assumption) ?_
      simpa [cf_b, c1, c8] using k
def j_by (i j : Nat) : Int32 := (cf_byt.getD i []).getD j 0
def j_res (f L : Nat) : Int32 := if f < L then nI f else -1
set_option maxHeartbeats 4000000 in
set_option maxRecDepth 100000 in
theorem l_sla_ixc {h : cf_H} {P : Option Value → cf_H → Prop} {i L : Nat} {q : String × Nat × String} (hq : cf_strs[i]? = some q) (hk : cf_ka (130 + i) = some (.byte, L, fun j => .int ((cf_byt.getD i []).getD j 0))) (hL : L ≤ 40) {b : Int32} : ∀ (n a : Nat), a + n = L → (k : P (some (.int (j_res (cf_fst (fun j => decide (j_by i j = b)) a n) L))) h) → RP k_sla_indexOfChar 7 [(0, .ref (130 + i)), (3, .int (nI L)), (4, .int b), (5, .int (nI a))] [] h P := by
  intro n
  induction n with
  | zero =>
    intro a e k
    have e : a = L := e
    subst e
    refine rp_iload (i := 5) d_sla_indexOfChar_7 rfl ?_
    refine rp_iload_n (i := 3) d_sla_indexOfChar_9 rfl rfl ?_
    refine rp_icmp_ge (tgt := 31) d_sla_indexOfChar_10 (by decide) (fun c10 => ?_) (fun c10 => ?_)
    · refine rp_iconst (v := (-1)) d_sla_indexOfChar_31 (by decide) ?_
      refine rp_ireturn (ty := .int) d_sla_indexOfChar_32 rfl rfl ?_
      rw [cf_fst, j_res, if_neg (by omega)] at k
      exact k
    · exact absurd (nI_le (Nat.le_refl _) (by omega)) c10
  | succ n ih =>
    intro a e k
    have hlt : a < L := by omega
    refine rp_iload (i := 5) d_sla_indexOfChar_7 rfl ?_
    refine rp_iload_n (i := 3) d_sla_indexOfChar_9 rfl rfl ?_
    refine rp_icmp_ge (tgt := 31) d_sla_indexOfChar_10 (by decide) (fun c10 => ?_) (fun c10 => ?_)
    · exact absurd c10 (nI_ge hlt (by omega))
    · refine rp_aload_n (i := 0) d_sla_indexOfChar_13 rfl rfl ?_
      refine rp_iload (i := 5) d_sla_indexOfChar_14 rfl ?_
      refine rp_baloadK d_sla_indexOfChar_16 hk (vp_in_nI (by omega) (by omega)) rfl (fun _ => rfl) ?_
      refine rp_iload (i := 4) d_sla_indexOfChar_17 rfl ?_
      refine rp_icmp_ne (tgt := 25) d_sla_indexOfChar_19 (by decide) (fun c19 => ?_) (fun c19 => ?_)
      · refine rp_iinc (i := 5) (y := 1) d_sla_indexOfChar_25 rfl (by decide) rfl (Nat.le_of_ble_eq_true rfl) ?_
        refine rp_goto (tgt := 7) d_sla_indexOfChar_28 (by decide) ?_
        rw [nI_clamp (by omega)] at c19
        refine rp_lv [(0, .ref (130 + i)), (3, .int (nI L)), (4, .int b), (5, .int (nI (a + 1)))] (by simp only [nI_succ]; rfl) ?_
        refine ih (a + 1) (by omega) ?_
        rw [cf_fst, show decide (j_by i a = b) = false from decide_eq_false c19] at k
        exact k
      · refine rp_iload (i := 5) d_sla_indexOfChar_22 rfl ?_
        refine rp_ireturn (ty := .int) d_sla_indexOfChar_24 rfl rfl ?_
        rw [nI_clamp (by omega)] at c19
        rw [cf_fst, show decide (j_by i a = b) = true from decide_eq_true c19, cond_true, j_res, if_pos hlt] at k
        exact k
set_option maxHeartbeats 4000000 in
set_option maxRecDepth 100000 in
theorem s_sla_indexOfChar {h : cf_H} {P : Option Value → cf_H → Prop} {i L : Nat} {q : String × Nat × String} (hq : cf_strs[i]? = some q) (hk : cf_ka (130 + i) = some (.byte, L, fun j => .int ((cf_byt.getD i []).getD j 0))) (hL : L ≤ 40) {x : Int32} (k : P (some (.int (j_res (cf_fst (fun j => decide (j_by i j = x.toInt8.toInt32)) 0 L) L))) h) : RP k_sla_indexOfChar 0 [(0, .ref (130 + i)), (1, .int x), (2, .int 0), (3, .int (nI L))] [] h P := by
  refine rp_iload_n (i := 1) d_sla_indexOfChar_0 rfl rfl ?_
  refine rp_i2b d_sla_indexOfChar_1 ?_
  refine rp_istore (i := 4) d_sla_indexOfChar_2 rfl (Nat.le_of_ble_eq_true rfl) ?_
  refine rp_iload_n (i := 2) d_sla_indexOfChar_4 rfl rfl ?_
  refine rp_istore (i := 5) d_sla_indexOfChar_5 rfl (Nat.le_of_ble_eq_true rfl) ?_
  refine rp_lv [(0, .ref (130 + i)), (3, .int (nI L)), (4, .int x.toInt8.toInt32), (5, .int (nI 0))] rfl ?_
  exact l_sla_ixc hq hk hL L 0 (by omega) k
def j_ix (i L : Nat) (x : Int32) : Int32 := if x < 0 ∨ 255 < x then -1 else j_res (cf_fst (fun j => decide (j_by i j = x.toInt8.toInt32)) 0 L) L
set_option maxHeartbeats 4000000 in
set_option maxRecDepth 100000 in
theorem s_sla_indexOf {h : cf_H} {P : Option Value → cf_H → Prop} {i L : Nat} {q : String × Nat × String} (hq : cf_strs[i]? = some q) (hk : cf_ka (130 + i) = some (.byte, L, fun j => .int ((cf_byt.getD i []).getD j 0))) (hL : L ≤ 40) (hL0 : 0 < L) {x : Int32} (k : P (some (.int (j_ix i L x))) h) : RP k_sla_indexOf 0 [(0, .ref (130 + i)), (1, .int x), (2, .int 0), (3, .int (nI L))] [] h P := by
  refine rp_iload_n (i := 1) d_sla_indexOf_0 rfl rfl ?_
  refine rp_callS1 d_sla_indexOf_1 q_sla_indexOf_88 (Nat.le_of_ble_eq_true rfl) (Nat.le_of_ble_eq_true rfl) ?_
  refine s_sla_canEncode ?_
  refine rp_if_ne (tgt := 9) d_sla_indexOf_4 (by decide) (fun c4 => ?_) (fun c4 => ?_)
  · refine rp_iload_n (i := 2) d_sla_indexOf_9 rfl rfl ?_
    refine rp_iconst (v := 0) d_sla_indexOf_10 (by decide) ?_
    refine rp_callS2 d_sla_indexOf_11 q_sla_indexOf_92 (Nat.le_of_ble_eq_true rfl) (Nat.le_of_ble_eq_true rfl) ?_
    refine s_math_max ?_
    rw [show (if (0 : Int32) < 0 then (0 : Int32) else 0) = 0 from rfl]
    refine rp_istore_n (i := 2) d_sla_indexOf_14 rfl rfl (Nat.le_of_ble_eq_true rfl) ?_
    refine rp_iload_n (i := 3) d_sla_indexOf_15 rfl rfl ?_
    refine rp_aload_n (i := 0) d_sla_indexOf_16 rfl rfl ?_
    refine rp_alenK (v := (nI L)) d_sla_indexOf_17 hk rfl ?_
    refine rp_callS2 d_sla_indexOf_18 q_sla_indexOf_38 (Nat.le_of_ble_eq_true rfl) (Nat.le_of_ble_eq_true rfl) ?_
    refine s_math_min ?_
    rw [show (if nI L < nI L then nI L else nI L) = nI L by split <;> rfl]
    refine rp_istore_n (i := 3) d_sla_indexOf_21 rfl rfl (Nat.le_of_ble_eq_true rfl) ?_
    refine rp_iload_n (i := 2) d_sla_indexOf_22 rfl rfl ?_
    refine rp_iload_n (i := 3) d_sla_indexOf_23 rfl rfl ?_
    refine rp_icmp_lt (tgt := 29) d_sla_indexOf_24 (by decide) (fun c24 => ?_) (fun c24 => ?_)
    · refine rp_aload_n (i := 0) d_sla_indexOf_29 rfl rfl ?_
      refine rp_iload_n (i := 1) d_sla_indexOf_30 rfl rfl ?_
      refine rp_iload_n (i := 2) d_sla_indexOf_31 rfl rfl ?_
      refine rp_iload_n (i := 3) d_sla_indexOf_32 rfl rfl ?_
      refine rp_callS4 d_sla_indexOf_33 q_sla_indexOf_95 (Nat.le_of_ble_eq_true rfl) (Nat.le_of_ble_eq_true rfl) ?_
      refine s_sla_indexOfChar hq hk hL ?_
      refine rp_ireturn (ty := .int) d_sla_indexOf_36 rfl rfl ?_
      have hx : ¬ (x < 0 ∨ 255 < x) ∨ (x < 0 ∨ 255 < x) := (Classical.em _).symm
      first
      | (rw [j_ix, if_neg (by intro z; rcases z with z | z <;> simp [cf_b, z] at c4)] at k; exact k)
      | (rw [j_ix, if_pos (by by_cases z1 : x < 0 <;> by_cases z2 : 255 < x <;> simp [cf_b, z1, z2] at c4 ⊢)] at k; exact k)
    · exact absurd (nI_lt (a := 0) hL0 (by omega)) c24
  · refine rp_iconst (v := (-1)) d_sla_indexOf_7 (by decide) ?_
    refine rp_ireturn (ty := .int) d_sla_indexOf_8 rfl rfl ?_
    have hx : ¬ (x < 0 ∨ 255 < x) ∨ (x < 0 ∨ 255 < x) := (Classical.em _).symm
    first
    | (rw [j_ix, if_neg (by intro z; rcases z with z | z <;> simp [cf_b, z] at c4)] at k; exact k)
    | (rw [j_ix, if_pos (by by_cases z1 : x < 0 <;> by_cases z2 : 255 < x <;> simp [cf_b, z1, z2] at c4 ⊢)] at k; exact k)
set_option maxHeartbeats 4000000 in
set_option maxRecDepth 100000 in
theorem s_str_indexOf_II {h : cf_H} {P : Option Value → cf_H → Prop} {i L : Nat} {q : String × Nat × String} (hq : cf_strs[i]? = some q) (hk : cf_ka (130 + i) = some (.byte, L, fun j => .int ((cf_byt.getD i []).getD j 0))) (hL : L ≤ 40) (hL0 : 0 < L) {x : Int32} (k : P (some (.int (j_ix i L x))) h) : RP k_str_indexOf_II 0 [(0, .ref (110 + i)), (1, .int x), (2, .int 0)] [] h P := by
  refine rp_aload_n (i := 0) d_str_indexOf_II_0 rfl rfl ?_
  refine rp_callV0 d_str_indexOf_II_1 q_str_indexOf_II_492 (Or.inr ⟨i, q, rfl, hq, rfl⟩) (Nat.le_of_ble_eq_true rfl) (Nat.le_of_ble_eq_true rfl) ?_
  refine s_str_isLatin1 hq ?_
  refine rp_if_eq (tgt := 23) d_str_indexOf_II_4 (by decide) (fun c4 => ?_) (fun c4 => ?_)
  · exact absurd c4 (by decide)
  · refine rp_aload_n (i := 0) d_str_indexOf_II_7 rfl rfl ?_
    refine rp_getSv (i := i) d_str_indexOf_II_8 hq s_str_9 ?_
    refine rp_iload_n (i := 1) d_str_indexOf_II_11 rfl rfl ?_
    refine rp_iload_n (i := 2) d_str_indexOf_II_12 rfl rfl ?_
    refine rp_aload_n (i := 0) d_str_indexOf_II_13 rfl rfl ?_
    refine rp_callV0 d_str_indexOf_II_14 q_str_indexOf_II_505 (Or.inr ⟨i, q, rfl, hq, rfl⟩) (Nat.le_of_ble_eq_true rfl) (Nat.le_of_ble_eq_true rfl) ?_
    refine s_str_length hq hk hL ?_
    refine rp_callS4 d_str_indexOf_II_17 q_str_indexOf_II_637 (Nat.le_of_ble_eq_true rfl) (Nat.le_of_ble_eq_true rfl) ?_
    refine s_sla_indexOf hq hk hL hL0 ?_
    refine rp_goto (tgt := 36) d_str_indexOf_II_20 (by decide) ?_
    refine rp_ireturn (ty := .int) d_str_indexOf_II_36 rfl rfl ?_
    exact k
set_option maxHeartbeats 4000000 in
set_option maxRecDepth 100000 in
theorem s_str_indexOf_I {h : cf_H} {P : Option Value → cf_H → Prop} {i L : Nat} {q : String × Nat × String} (hq : cf_strs[i]? = some q) (hk : cf_ka (130 + i) = some (.byte, L, fun j => .int ((cf_byt.getD i []).getD j 0))) (hL : L ≤ 40) (hL0 : 0 < L) {x : Int32} (k : P (some (.int (j_ix i L x))) h) : RP k_str_indexOf_I 0 [(0, .ref (110 + i)), (1, .int x)] [] h P := by
  refine rp_aload_n (i := 0) d_str_indexOf_I_0 rfl rfl ?_
  refine rp_iload_n (i := 1) d_str_indexOf_I_1 rfl rfl ?_
  refine rp_iconst (v := 0) d_str_indexOf_I_2 (by decide) ?_
  refine rp_callV2 d_str_indexOf_I_3 q_str_indexOf_I_633 (Or.inr ⟨i, q, rfl, hq, rfl⟩) (Nat.le_of_ble_eq_true rfl) (Nat.le_of_ble_eq_true rfl) ?_
  refine s_str_indexOf_II hq hk hL hL0 ?_
  refine rp_ireturn (ty := .int) d_str_indexOf_I_6 rfl rfl ?_
  exact k
set_option maxHeartbeats 4000000 in
set_option maxRecDepth 100000 in
theorem s_pre_checkIndex {h : cf_H} {P : Option Value → cf_H → Prop} {j L : Nat} {v : Value} (hj : j < L) (hL : L ≤ 40) (k : P (some (.int (nI j))) h) : RP k_pre_checkIndex 0 [(0, .int (nI j)), (1, .int (nI L)), (2, v)] [] h P := by
  refine rp_iload_n (i := 0) d_pre_checkIndex_0 rfl rfl ?_
  refine rp_if_lt (tgt := 9) d_pre_checkIndex_1 (by decide) (fun c1 => ?_) (fun c1 => ?_)
  · exact absurd c1 (nI_pos (by omega))
  · refine rp_iload_n (i := 0) d_pre_checkIndex_4 rfl rfl ?_
    refine rp_iload_n (i := 1) d_pre_checkIndex_5 rfl rfl ?_
    refine rp_icmp_lt (tgt := 16) d_pre_checkIndex_6 (by decide) (fun c6 => ?_) (fun c6 => ?_)
    · refine rp_iload_n (i := 0) d_pre_checkIndex_16 rfl rfl ?_
      refine rp_ireturn (ty := .int) d_pre_checkIndex_17 rfl rfl ?_
      exact k
    · exact absurd (nI_lt hj (by omega)) c6
set_option maxHeartbeats 4000000 in
set_option maxRecDepth 100000 in
theorem s_str_checkIndex {h : cf_H} {P : Option Value → cf_H → Prop} {j L : Nat} (hj : j < L) (hL : L ≤ 40) (k : P none h) : RP k_str_checkIndex 0 [(0, .int (nI j)), (1, .int (nI L))] [] h P := by
  refine rp_iload_n (i := 0) d_str_checkIndex_0 rfl rfl ?_
  refine rp_iload_n (i := 1) d_str_checkIndex_1 rfl rfl ?_
  refine rp_getsQ d_str_checkIndex_2 t_str_1053 ?_ ?_
  · refine rp_callS3 d_str_checkIndex_5 q_str_checkIndex_1059 (Nat.le_of_ble_eq_true rfl) (Nat.le_of_ble_eq_true rfl) ?_
    refine s_pre_checkIndex hj hL ?_
    refine rp_pop d_str_checkIndex_8 rfl ?_
    refine rp_return d_str_checkIndex_9 rfl ?_
    exact k
  · refine rp_callS3 d_str_checkIndex_5 q_str_checkIndex_1059 (Nat.le_of_ble_eq_true rfl) (Nat.le_of_ble_eq_true rfl) ?_
    refine s_pre_checkIndex hj hL ?_
    refine rp_pop d_str_checkIndex_8 rfl ?_
    refine rp_return d_str_checkIndex_9 rfl ?_
    exact k

def j_ch (i j : Nat) : Int32 := ((j_by i j &&& 255).toUInt32 % 65536).toInt32
set_option maxHeartbeats 4000000 in
set_option maxRecDepth 100000 in
theorem s_sla_charAt {h : cf_H} {P : Option Value → cf_H → Prop} {i L : Nat} {q : String × Nat × String} (hq : cf_strs[i]? = some q) (hk : cf_ka (130 + i) = some (.byte, L, fun j => .int ((cf_byt.getD i []).getD j 0))) (hL : L ≤ 40) {x : Int32} {j : Nat} (hx : x = nI j) (hj : j < L) (k : P (some (.int (j_ch i j))) h) : RP k_sla_charAt 0 [(0, .ref (130 + i)), (1, .int x)] [] h P := by
  subst hx
  refine rp_iload_n (i := 1) d_sla_charAt_0 rfl rfl ?_
  refine rp_aload_n (i := 0) d_sla_charAt_1 rfl rfl ?_
  refine rp_alenK (v := (nI L)) d_sla_charAt_2 hk rfl ?_
  refine rp_callS2 d_sla_charAt_3 q_sla_charAt_9 (Nat.le_of_ble_eq_true rfl) (Nat.le_of_ble_eq_true rfl) ?_
  refine s_str_checkIndex hj hL ?_
  refine rp_aload_n (i := 0) d_sla_charAt_6 rfl rfl ?_
  refine rp_iload_n (i := 1) d_sla_charAt_7 rfl rfl ?_
  refine rp_baloadK d_sla_charAt_8 hk (vp_in_nI hj (by omega)) rfl (fun _ => rfl) ?_
  refine rp_sipush (v := 255) d_sla_charAt_9 (by decide) ?_
  refine rp_iand d_sla_charAt_12 ?_
  refine rp_i2c d_sla_charAt_13 ?_
  refine rp_ireturn (ty := .char) d_sla_charAt_14 rfl (by exact pk_nc _) ?_
  rw [nI_clamp (by omega)]
  exact k
set_option maxHeartbeats 4000000 in
set_option maxRecDepth 100000 in
theorem s_str_charAt {h : cf_H} {P : Option Value → cf_H → Prop} {i L : Nat} {q : String × Nat × String} (hq : cf_strs[i]? = some q) (hk : cf_ka (130 + i) = some (.byte, L, fun j => .int ((cf_byt.getD i []).getD j 0))) (hL : L ≤ 40) {x : Int32} {j : Nat} (hx : x = nI j) (hj : j < L) (k : P (some (.int (j_ch i j))) h) : RP k_str_charAt 0 [(0, .ref (110 + i)), (1, .int x)] [] h P := by
  refine rp_aload_n (i := 0) d_str_charAt_0 rfl rfl ?_
  refine rp_callV0 d_str_charAt_1 q_str_charAt_492 (Or.inr ⟨i, q, rfl, hq, rfl⟩) (Nat.le_of_ble_eq_true rfl) (Nat.le_of_ble_eq_true rfl) ?_
  refine s_str_isLatin1 hq ?_
  refine rp_if_eq (tgt := 16) d_str_charAt_4 (by decide) (fun c4 => ?_) (fun c4 => ?_)
  · exact absurd c4 (by decide)
  · refine rp_aload_n (i := 0) d_str_charAt_7 rfl rfl ?_
    refine rp_getSv (i := i) d_str_charAt_8 hq s_str_9 ?_
    refine rp_iload_n (i := 1) d_str_charAt_11 rfl rfl ?_
    refine rp_callS2 d_str_charAt_12 q_str_charAt_495 (Nat.le_of_ble_eq_true rfl) (Nat.le_of_ble_eq_true rfl) ?_
    refine s_sla_charAt hq hk hL hx hj ?_
    refine rp_ireturn (ty := .char) d_str_charAt_15 rfl (by exact pk_nc _) ?_
    exact k
