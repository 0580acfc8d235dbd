/-! THE CLASS: Calendar -/
def k_db (y : Nat) : Nat := (y - 1) * 365 + (y - 1) / 4 - (y - 1) / 100 + (y - 1) / 400
def k_leap (y : Nat) : Bool := decide (y % 4 = 0) && (!decide (y % 100 = 0) || decide (y % 400 = 0))
def k_mm (m : Nat) : Nat := match m with
  | 1 => 31 | 2 => 28 | 3 => 31 | 4 => 30 | 5 => 31 | 6 => 30 | 7 => 31 | 8 => 31 | 9 => 30 | 10 => 31 | 11 => 30 | 12 => 31 | _ => 0
def k_ml (y m : Nat) : Nat := if m = 2 ∧ k_leap y = true then 29 else k_mm m
/-- the days of the months before m -/
def k_cum (y : Nat) : Nat → Nat
  | 0 => 0
  | m + 1 => k_cum y m + k_ml y m
theorem k_mm_le : ∀ m, m < 13 → k_mm m ≤ 31 ∧ nI (k_mm m) = (cf_ml.getD (m - 1) 0) ∨ m = 0 := by decide +kernel
theorem k_ml_le {y m : Nat} (hm : m < 13) : k_ml y m ≤ 31 := by
  unfold k_ml
  split
  · omega
  · rcases k_mm_le m hm with h | h
    · exact h.1
    · subst h; decide
/-- what the calendar's search may change -/
def k_fr (h0 h : cf_H) : Prop := (∀ o k, ¬ (o = 12 ∧ (k = 1 ∨ k = 2 ∨ k = 3 ∨ k = 4)) → h.1 o k = h0.1 o k) ∧ h.2 = h0.2
theorem k_fr.rf (h : cf_H) : k_fr h h := ⟨fun _ _ _ => rfl, rfl⟩
theorem k_fr.pI {h0 h : cf_H} (f : k_fr h0 h) {k : Nat} (hk : k = 1 ∨ k = 2 ∨ k = 3 ∨ k = 4) (x : Int32) : k_fr h0 (cf_pI h 12 k x) := ⟨fun o j e => by rw [g_I1, if_neg (fun z => e ⟨z.1, by rw [z.2]; exact hk⟩)]; exact f.1 o j e, f.2⟩

set_option maxHeartbeats 4000000 in
set_option maxRecDepth 100000 in
theorem s_cal_daysBeforeYear {h : cf_H} {P : Option Value → cf_H → Prop} {x : Int32} {y : Nat} (hx : x = nI y) (hy : 1 ≤ y) (hy2 : y ≤ 10000) (k : P (some (.int (nI (k_db y)))) h) : RP k_cal_daysBeforeYear 0 [(0, .int x)] [] h P := by
  subst hx
  have e : (nI y - 1) * 365 + (nI y - 1) / 4 - (nI y - 1) / 100 + (nI y - 1) / 400 = nI (k_db y) := by
    rw [show nI y - 1 = nI (y - 1) from pk_sub (b := 1) hy]
    rw [show nI (y - 1) * 365 = nI ((y - 1) * 365) from pk_mul (y - 1) 365, show nI (y - 1) / 4 = nI ((y - 1) / 4) from pk_div (d := 4) (by omega) (by decide) (by decide), show nI (y - 1) / 100 = nI ((y - 1) / 100) from pk_div (d := 100) (by omega) (by decide) (by decide), show nI (y - 1) / 400 = nI ((y - 1) / 400) from pk_div (d := 400) (by omega) (by decide) (by decide)]
    rw [nI_add, pk_sub (by omega), nI_add]
    rfl
  refine rp_iload_n (i := 0) d_cal_daysBeforeYear_0 rfl rfl ?_
  refine rp_iconst (v := 1) d_cal_daysBeforeYear_1 (by decide) ?_
  refine rp_isub d_cal_daysBeforeYear_2 ?_
  refine rp_istore_n (i := 1) d_cal_daysBeforeYear_3 rfl rfl (Nat.le_of_ble_eq_true rfl) ?_
  refine rp_iload_n (i := 1) d_cal_daysBeforeYear_4 rfl rfl ?_
  refine rp_sipush (v := 365) d_cal_daysBeforeYear_5 (by decide) ?_
  refine rp_imul d_cal_daysBeforeYear_8 ?_
  refine rp_iload_n (i := 1) d_cal_daysBeforeYear_9 rfl rfl ?_
  refine rp_iconst (v := 4) d_cal_daysBeforeYear_10 (by decide) ?_
  refine rp_idiv d_cal_daysBeforeYear_11 (by decide) ?_
  refine rp_iadd d_cal_daysBeforeYear_12 ?_
  refine rp_iload_n (i := 1) d_cal_daysBeforeYear_13 rfl rfl ?_
  refine rp_bipush (v := 100) d_cal_daysBeforeYear_14 (by decide) ?_
  refine rp_idiv d_cal_daysBeforeYear_16 (by decide) ?_
  refine rp_isub d_cal_daysBeforeYear_17 ?_
  refine rp_iload_n (i := 1) d_cal_daysBeforeYear_18 rfl rfl ?_
  refine rp_sipush (v := 400) d_cal_daysBeforeYear_19 (by decide) ?_
  refine rp_idiv d_cal_daysBeforeYear_22 (by decide) ?_
  refine rp_iadd d_cal_daysBeforeYear_23 ?_
  refine rp_ireturn (ty := .int) d_cal_daysBeforeYear_24 rfl rfl ?_
  rw [e]
  exact k
set_option maxHeartbeats 4000000 in
set_option maxRecDepth 100000 in
theorem s_cal_isLeap {h : cf_H} {P : Option Value → cf_H → Prop} {x : Int32} {y : Nat} (hx : x = nI y) (hy : y < 2 ^ 31) (k : P (some (.int (cf_b (k_leap y)))) h) : RP k_cal_isLeap 0 [(0, .int x)] [] h P := by
  subst hx
  have e4 : nI y - nI y / 4 * 4 = nI (y % 4) := pk_rem (d := 4) hy (by decide) (by decide)
  have e100 : nI y - nI y / 100 * 100 = nI (y % 100) := pk_rem (d := 100) hy (by decide) (by decide)
  have e400 : nI y - nI y / 400 * 400 = nI (y % 400) := pk_rem (d := 400) hy (by decide) (by decide)
  refine rp_iload_n (i := 0) d_cal_isLeap_0 rfl rfl ?_
  refine rp_iconst (v := 4) d_cal_isLeap_1 (by decide) ?_
  refine rp_irem d_cal_isLeap_2 (by decide) ?_
  rw [e4]
  refine rp_if_ne (tgt := 25) d_cal_isLeap_3 (by decide) (fun c3 => ?_) (fun c3 => ?_)
  · refine rp_iconst (v := 0) d_cal_isLeap_25 (by decide) ?_
    refine rp_ireturn (ty := .boolean) d_cal_isLeap_26 rfl (by first | rfl | decide | assumption) ?_
    rw [z_eq (by omega)] at c3
    simpa [cf_b, k_leap, c3] using k
  · refine rp_iload_n (i := 0) d_cal_isLeap_6 rfl rfl ?_
    refine rp_bipush (v := 100) d_cal_isLeap_7 (by decide) ?_
    refine rp_irem d_cal_isLeap_9 (by decide) ?_
    rw [e100]
    refine rp_if_ne (tgt := 21) d_cal_isLeap_10 (by decide) (fun c10 => ?_) (fun c10 => ?_)
    · refine rp_iconst (v := 1) d_cal_isLeap_21 (by decide) ?_
      refine rp_goto (tgt := 26) d_cal_isLeap_22 (by decide) ?_
      refine rp_ireturn (ty := .boolean) d_cal_isLeap_26 rfl (by first | rfl | decide | assumption) ?_
      rw [z_eq (by omega)] at c3
      rw [z_eq (by omega)] at c10
      simpa [cf_b, k_leap, c3, c10] using k
    · refine rp_iload_n (i := 0) d_cal_isLeap_13 rfl rfl ?_
      refine rp_sipush (v := 400) d_cal_isLeap_14 (by decide) ?_
      refine rp_irem d_cal_isLeap_17 (by decide) ?_
      rw [e400]
      refine rp_if_ne (tgt := 25) d_cal_isLeap_18 (by decide) (fun c18 => ?_) (fun c18 => ?_)
      · refine rp_iconst (v := 0) d_cal_isLeap_25 (by decide) ?_
        refine rp_ireturn (ty := .boolean) d_cal_isLeap_26 rfl (by first | rfl | decide | assumption) ?_
        rw [z_eq (by omega)] at c3
        rw [z_eq (by omega)] at c10
        rw [z_eq (by omega)] at c18
        simpa [cf_b, k_leap, c3, c10, c18] using k
      · refine rp_iconst (v := 1) d_cal_isLeap_21 (by decide) ?_
        refine rp_goto (tgt := 26) d_cal_isLeap_22 (by decide) ?_
        refine rp_ireturn (ty := .boolean) d_cal_isLeap_26 rfl (by first | rfl | decide | assumption) ?_
        rw [z_eq (by omega)] at c3
        rw [z_eq (by omega)] at c10
        rw [z_eq (by omega)] at c18
        simpa [cf_b, k_leap, c3, c10, c18] using k
set_option maxHeartbeats 4000000 in
set_option maxRecDepth 100000 in
theorem s_cal_monthLength {h : cf_H} {P : Option Value → cf_H → Prop} {x z : Int32} {y m : Nat} (hx : x = nI y) (hz : z = nI m) (hy : y < 2 ^ 31) (hm1 : 1 ≤ m) (hm2 : m ≤ 12) (k : P (some (.int (nI (k_ml y m)))) h) : RP k_cal_monthLength 0 [(0, .int x), (1, .int z)] [] h P := by
  subst hx; subst hz
  have hmm : nI (k_mm m) = (cf_ml.getD (nI m - 1).toNatClampNeg 0) := by
    rw [show nI m - 1 = nI (m - 1) from pk_sub (b := 1) hm1, nI_clamp (by omega)]
    rcases k_mm_le m (by omega) with z | z
    · exact z.2
    · omega
  refine rp_iload_n (i := 1) d_cal_monthLength_0 rfl rfl ?_
  refine rp_iconst (v := 2) d_cal_monthLength_1 (by decide) ?_
  refine rp_icmp_ne (tgt := 15) d_cal_monthLength_2 (by decide) (fun c2 => ?_) (fun c2 => ?_)
  · refine rp_iload_n (i := 1) d_cal_monthLength_15 rfl rfl ?_
    refine rp_iconst (v := 1) d_cal_monthLength_16 (by decide) ?_
    refine rp_icmp_lt (tgt := 36) d_cal_monthLength_17 (by decide) (fun c17 => ?_) (fun c17 => ?_)
    · exact absurd c17 (nI_nlt (b := 1) hm1 (by omega))
    · refine rp_iload_n (i := 1) d_cal_monthLength_20 rfl rfl ?_
      refine rp_bipush (v := 12) d_cal_monthLength_21 (by decide) ?_
      refine rp_icmp_gt (tgt := 36) d_cal_monthLength_23 (by decide) (fun c23 => ?_) (fun c23 => ?_)
      · exact absurd c23 (nI_nlt (a := 12) hm2 (by decide))
      · refine rp_gets (v := .ref 101) d_cal_monthLength_26 (List.mem_of_getElem? (i := 2) rfl) t_cal_53 ?_
        refine rp_iload_n (i := 1) d_cal_monthLength_29 rfl rfl ?_
        refine rp_iconst (v := 1) d_cal_monthLength_30 (by decide) ?_
        refine rp_isub d_cal_monthLength_31 ?_
        refine rp_ialoadK d_cal_monthLength_32 rfl (by rw [show nI m - 1 = nI (m - 1) from pk_sub (b := 1) hm1]; exact vp_in_nI (by omega) (by decide)) rfl (fun _ => rfl) ?_
        refine rp_goto (tgt := 37) d_cal_monthLength_33 (by decide) ?_
        refine rp_ireturn (ty := .int) d_cal_monthLength_37 rfl rfl ?_
        rw [k_ml, if_neg (fun w => c2 (by rw [w.1]; rfl)), hmm] at k
        exact k
  · refine rp_iload_n (i := 0) d_cal_monthLength_5 rfl rfl ?_
    refine rp_callS1 d_cal_monthLength_6 q_cal_monthLength_49 (Nat.le_of_ble_eq_true rfl) (Nat.le_of_ble_eq_true rfl) ?_
    refine s_cal_isLeap rfl hy ?_
    refine rp_if_eq (tgt := 15) d_cal_monthLength_9 (by decide) (fun c9 => ?_) (fun c9 => ?_)
    · refine rp_iload_n (i := 1) d_cal_monthLength_15 rfl rfl ?_
      refine rp_iconst (v := 1) d_cal_monthLength_16 (by decide) ?_
      refine rp_icmp_lt (tgt := 36) d_cal_monthLength_17 (by decide) (fun c17 => ?_) (fun c17 => ?_)
      · exact absurd c17 (nI_nlt (b := 1) hm1 (by omega))
      · refine rp_iload_n (i := 1) d_cal_monthLength_20 rfl rfl ?_
        refine rp_bipush (v := 12) d_cal_monthLength_21 (by decide) ?_
        refine rp_icmp_gt (tgt := 36) d_cal_monthLength_23 (by decide) (fun c23 => ?_) (fun c23 => ?_)
        · exact absurd c23 (nI_nlt (a := 12) hm2 (by decide))
        · refine rp_gets (v := .ref 101) d_cal_monthLength_26 (List.mem_of_getElem? (i := 2) rfl) t_cal_53 ?_
          refine rp_iload_n (i := 1) d_cal_monthLength_29 rfl rfl ?_
          refine rp_iconst (v := 1) d_cal_monthLength_30 (by decide) ?_
          refine rp_isub d_cal_monthLength_31 ?_
          refine rp_ialoadK d_cal_monthLength_32 rfl (by rw [show nI m - 1 = nI (m - 1) from pk_sub (b := 1) hm1]; exact vp_in_nI (by omega) (by decide)) rfl (fun _ => rfl) ?_
          refine rp_goto (tgt := 37) d_cal_monthLength_33 (by decide) ?_
          refine rp_ireturn (ty := .int) d_cal_monthLength_37 rfl rfl ?_
          have hl : k_leap y = false := by cases e : k_leap y with | false => rfl | true => rw [e] at c9; exact absurd c9 (by decide)
          rw [k_ml, if_neg (fun w => by rw [hl] at w; exact absurd w.2 (by decide)), hmm] at k
          exact k
    · refine rp_bipush (v := 29) d_cal_monthLength_12 (by decide) ?_
      refine rp_ireturn (ty := .int) d_cal_monthLength_14 rfl rfl ?_
      replace c2 : m = 2 := (nI_eq (b := 2) (by omega) (by decide)).mp c2
      have hl : k_leap y = true := by cases e : k_leap y with | true => rfl | false => rw [e] at c9; exact absurd rfl c9
      rw [k_ml, if_pos ⟨c2, hl⟩] at k
      exact k
set_option maxHeartbeats 4000000 in
set_option maxRecDepth 100000 in
theorem l_cal_yearOf {h : cf_H} {P : Option Value → cf_H → Prop} {d : Nat} (hd : d < 2 ^ 24) (k : ∀ y, 1900 ≤ y → y ≤ 9999 → k_db y ≤ d → d < k_db (y + 1) → P (some (.int (nI y))) h) : ∀ (r lo hi s : Nat), s + r = 14 → 1900 ≤ lo → lo ≤ hi → hi ≤ 9999 → hi - lo < 2 ^ r → k_db lo ≤ d → d < k_db (hi + 1) → RP k_cal_yearOf 10 [(0, .int (nI d)), (1, .int (nI lo)), (2, .int (nI hi)), (3, .int (nI s))] [] h P := by
  intro r
  induction r with
  | zero =>
    intro lo hi s e h1 h2 h3 h4 h5 h6
    have e : s = 14 := e
    subst e
    have : hi = lo := by omega
    subst this
    refine rp_iload_n (i := 3) d_cal_yearOf_10 rfl rfl ?_
    refine rp_bipush (v := 14) d_cal_yearOf_11 (by decide) ?_
    refine rp_icmp_ge (tgt := 56) d_cal_yearOf_13 (by decide) (fun c13 => ?_) (fun c13 => ?_)
    · refine rp_iload_n (i := 1) d_cal_yearOf_56 rfl rfl ?_
      refine rp_ireturn (ty := .int) d_cal_yearOf_57 rfl rfl ?_
      exact k hi h1 h3 h5 h6
    · exact absurd (by decide) c13
  | succ r ih =>
    intro lo hi s e h1 h2 h3 h4 h5 h6
    have em : (nI lo + nI hi + 1) / 2 = nI ((lo + hi + 1) / 2) := by rw [nI_add, nI_1]; exact pk_div (d := 2) (by omega) (by decide) (by decide)
    refine rp_iload_n (i := 3) d_cal_yearOf_10 rfl rfl ?_
    refine rp_bipush (v := 14) d_cal_yearOf_11 (by decide) ?_
    refine rp_icmp_ge (tgt := 56) d_cal_yearOf_13 (by decide) (fun c13 => ?_) (fun c13 => ?_)
    · exact absurd c13 (nI_ge (b := 14) (by omega) (by decide))
    · refine rp_iload_n (i := 1) d_cal_yearOf_16 rfl rfl ?_
      refine rp_iload_n (i := 2) d_cal_yearOf_17 rfl rfl ?_
      refine rp_icmp_ge (tgt := 56) d_cal_yearOf_18 (by decide) (fun c18 => ?_) (fun c18 => ?_)
      · refine rp_iload_n (i := 1) d_cal_yearOf_56 rfl rfl ?_
        refine rp_ireturn (ty := .int) d_cal_yearOf_57 rfl rfl ?_
        rw [nI_leI (by omega) (by omega)] at c18
        have : hi = lo := by omega
        subst this
        exact k hi h1 h3 h5 h6
      · refine rp_iload_n (i := 1) d_cal_yearOf_21 rfl rfl ?_
        refine rp_iload_n (i := 2) d_cal_yearOf_22 rfl rfl ?_
        refine rp_iadd d_cal_yearOf_23 ?_
        refine rp_iconst (v := 1) d_cal_yearOf_24 (by decide) ?_
        refine rp_iadd d_cal_yearOf_25 ?_
        refine rp_iconst (v := 2) d_cal_yearOf_26 (by decide) ?_
        refine rp_idiv d_cal_yearOf_27 (by decide) ?_
        rw [em]
        refine rp_istore (i := 4) d_cal_yearOf_28 rfl (Nat.le_of_ble_eq_true rfl) ?_
        refine rp_iload (i := 4) d_cal_yearOf_30 rfl ?_
        refine rp_callS1 d_cal_yearOf_32 q_cal_yearOf_25 (Nat.le_of_ble_eq_true rfl) (Nat.le_of_ble_eq_true rfl) ?_
        refine s_cal_daysBeforeYear rfl (by omega) (by omega) ?_
        refine rp_iload_n (i := 0) d_cal_yearOf_35 rfl rfl ?_
        refine rp_icmp_gt (tgt := 45) d_cal_yearOf_36 (by decide) (fun c36 => ?_) (fun c36 => ?_)
        · refine rp_iload (i := 4) d_cal_yearOf_45 rfl ?_
          refine rp_iconst (v := 1) d_cal_yearOf_47 (by decide) ?_
          refine rp_isub d_cal_yearOf_48 ?_
          refine rp_istore_n (i := 2) d_cal_yearOf_49 rfl rfl (Nat.le_of_ble_eq_true rfl) ?_
          rw [nI_leI (by omega) (by omega)] at c18
          have hb : k_db ((lo + hi + 1) / 2) < 2 ^ 31 := by unfold k_db; omega
          rw [nI_ltI (by omega) hb] at c36
          refine rp_iinc (i := 3) (y := 1) d_cal_yearOf_50 rfl (by decide) rfl (Nat.le_of_ble_eq_true rfl) ?_
          refine rp_goto (tgt := 10) d_cal_yearOf_53 (by decide) ?_
          refine rp_lv [(0, .int (nI d)), (1, .int (nI lo)), (2, .int (nI ((lo + hi + 1) / 2 - 1))), (3, .int (nI (s + 1)))] (by simp only [nI_succ]; rw [show nI ((lo + hi + 1) / 2 - 1) = nI ((lo + hi + 1) / 2) - 1 from (pk_sub (b := 1) (by omega)).symm]; rfl) ?_
          exact ih lo _ (s + 1) (by omega) h1 (by omega) (by omega) (by rw [Nat.pow_succ] at h4; omega) h5 (by rw [show (lo + hi + 1) / 2 - 1 + 1 = (lo + hi + 1) / 2 by omega]; exact c36)
        · refine rp_iload (i := 4) d_cal_yearOf_39 rfl ?_
          refine rp_istore_n (i := 1) d_cal_yearOf_41 rfl rfl (Nat.le_of_ble_eq_true rfl) ?_
          refine rp_goto (tgt := 50) d_cal_yearOf_42 (by decide) ?_
          rw [nI_leI (by omega) (by omega)] at c18
          have hb : k_db ((lo + hi + 1) / 2) < 2 ^ 31 := by unfold k_db; omega
          rw [nI_ltI (by omega) hb] at c36
          refine rp_iinc (i := 3) (y := 1) d_cal_yearOf_50 rfl (by decide) rfl (Nat.le_of_ble_eq_true rfl) ?_
          refine rp_goto (tgt := 10) d_cal_yearOf_53 (by decide) ?_
          refine rp_lv [(0, .int (nI d)), (1, .int (nI ((lo + hi + 1) / 2))), (2, .int (nI hi)), (3, .int (nI (s + 1)))] (by simp only [nI_succ]; rfl) ?_
          exact ih _ hi (s + 1) (by omega) (by omega) (by omega) h3 (by rw [Nat.pow_succ] at h4; omega) (by omega) h6
set_option maxHeartbeats 4000000 in
set_option maxRecDepth 100000 in
theorem s_cal_yearOf {h : cf_H} {P : Option Value → cf_H → Prop} {x : Int32} {d : Nat} (hx : x = nI d) (hd1 : k_db 1900 ≤ d) (hd2 : d < k_db 10000) (k : ∀ y, 1900 ≤ y → y ≤ 9999 → k_db y ≤ d → d < k_db (y + 1) → P (some (.int (nI y))) h) : RP k_cal_yearOf 0 [(0, .int x)] [] h P := by
  subst hx
  have hd : d < 2 ^ 24 := Nat.lt_of_lt_of_le hd2 (by decide)
  refine rp_sipush (v := 1900) d_cal_yearOf_0 (by decide) ?_
  refine rp_istore_n (i := 1) d_cal_yearOf_3 rfl rfl (Nat.le_of_ble_eq_true rfl) ?_
  refine rp_sipush (v := 9999) d_cal_yearOf_4 (by decide) ?_
  refine rp_istore_n (i := 2) d_cal_yearOf_7 rfl rfl (Nat.le_of_ble_eq_true rfl) ?_
  refine rp_iconst (v := 0) d_cal_yearOf_8 (by decide) ?_
  refine rp_istore_n (i := 3) d_cal_yearOf_9 rfl rfl (Nat.le_of_ble_eq_true rfl) ?_
  refine rp_lv [(0, .int (nI d)), (1, .int (nI 1900)), (2, .int (nI 9999)), (3, .int (nI 0))] rfl ?_
  exact l_cal_yearOf hd k 14 1900 9999 0 rfl (by decide) (by decide) (by decide) (by decide) hd1 hd2
