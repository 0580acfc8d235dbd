/-! THE CALENDARS: reference, and the class's serialOf, date, serial -/
set_option maxHeartbeats 4000000 in
set_option maxRecDepth 100000 in
theorem s_mod_leap {h : cf_H} {P : Option Value → cf_H → Prop} {x : Int32} {y : Nat} (hx : x = nI y) (hy : y < 2 ^ 31) (k : P (some (.int (cf_b (k_leap y)))) h) : RP k_mod_leap 0 [(0, .int x)] [] h P := by
  subst hx
  have e4 : nI y - nI y / 4 * 4 = nI (y % 4) := pk_rem (d := 4) hy (by decide) (by decide)
  have e100 : nI y - nI y / 100 * 100 = nI (y % 100) := pk_rem (d := 100) hy (by decide) (by decide)
  have e400 : nI y - nI y / 400 * 400 = nI (y % 400) := pk_rem (d := 400) hy (by decide) (by decide)
  refine rp_iload_n (i := 0) d_mod_leap_0 rfl rfl ?_
  refine rp_iconst (v := 4) d_mod_leap_1 (by decide) ?_
  refine rp_irem d_mod_leap_2 (by decide) ?_
  rw [e4]
  refine rp_if_ne (tgt := 25) d_mod_leap_3 (by decide) (fun c3 => ?_) (fun c3 => ?_)
  · refine rp_iconst (v := 0) d_mod_leap_25 (by decide) ?_
    refine rp_ireturn (ty := .boolean) d_mod_leap_26 rfl (by first | rfl | decide | assumption) ?_
    rw [z_eq (by omega)] at c3
    simpa [cf_b, k_leap, c3] using k
  · refine rp_iload_n (i := 0) d_mod_leap_6 rfl rfl ?_
    refine rp_bipush (v := 100) d_mod_leap_7 (by decide) ?_
    refine rp_irem d_mod_leap_9 (by decide) ?_
    rw [e100]
    refine rp_if_ne (tgt := 21) d_mod_leap_10 (by decide) (fun c10 => ?_) (fun c10 => ?_)
    · refine rp_iconst (v := 1) d_mod_leap_21 (by decide) ?_
      refine rp_goto (tgt := 26) d_mod_leap_22 (by decide) ?_
      refine rp_ireturn (ty := .boolean) d_mod_leap_26 rfl (by first | rfl | decide | assumption) ?_
      rw [z_eq (by omega)] at c3
      rw [z_eq (by omega)] at c10
      simpa [cf_b, k_leap, c3, c10] using k
    · refine rp_iload_n (i := 0) d_mod_leap_13 rfl rfl ?_
      refine rp_sipush (v := 400) d_mod_leap_14 (by decide) ?_
      refine rp_irem d_mod_leap_17 (by decide) ?_
      rw [e400]
      refine rp_if_ne (tgt := 25) d_mod_leap_18 (by decide) (fun c18 => ?_) (fun c18 => ?_)
      · refine rp_iconst (v := 0) d_mod_leap_25 (by decide) ?_
        refine rp_ireturn (ty := .boolean) d_mod_leap_26 rfl (by first | rfl | decide | assumption) ?_
        rw [z_eq (by omega)] at c3
        rw [z_eq (by omega)] at c10
        rw [z_eq (by omega)] at c18
        simpa [cf_b, k_leap, c3, c10, c18] using k
      · refine rp_iconst (v := 1) d_mod_leap_21 (by decide) ?_
        refine rp_goto (tgt := 26) d_mod_leap_22 (by decide) ?_
        refine rp_ireturn (ty := .boolean) d_mod_leap_26 rfl (by first | rfl | decide | assumption) ?_
        rw [z_eq (by omega)] at c3
        rw [z_eq (by omega)] at c10
        rw [z_eq (by omega)] at c18
        simpa [cf_b, k_leap, c3, c10, c18] using k
set_option maxHeartbeats 4000000 in
set_option maxRecDepth 100000 in
theorem s_mod_daysOf {h : cf_H} {P : Option Value → cf_H → Prop} {c : Bool} (hc : h.1 19 9 = cf_b c) {x z : Int32} {y m : Nat} (hx : x = nI y) (hz : z = nI m) (hy : y < 2 ^ 31) (hm : m < 2 ^ 31) (k : P (some (.int (nI (q_do c y m)))) h) : RP k_mod_daysOf 0 [(0, .ref 19), (1, .int x), (2, .int z)] [] h P := by
  subst hx; subst hz
  refine rp_iload_n (i := 2) d_mod_daysOf_0 rfl rfl ?_
  refine rp_iconst (v := 2) d_mod_daysOf_1 (by decide) ?_
  refine rp_icmp_ne (tgt := 34) d_mod_daysOf_2 (by decide) (fun c2 => ?_) (fun c2 => ?_)
  · refine rp_iload_n (i := 2) d_mod_daysOf_34 rfl rfl ?_
    refine rp_iconst (v := 4) d_mod_daysOf_35 (by decide) ?_
    refine rp_icmp_eq (tgt := 57) d_mod_daysOf_36 (by decide) (fun c36 => ?_) (fun c36 => ?_)
    · refine rp_bipush (v := 30) d_mod_daysOf_57 (by decide) ?_
      refine rp_goto (tgt := 64) d_mod_daysOf_59 (by decide) ?_
      refine rp_ireturn (ty := .int) d_mod_daysOf_64 rfl rfl ?_
      replace c2 : ¬ m = 2 := fun z => c2 (by rw [z]; rfl)
      replace c36 : m = 4 := (nI_eq (b := 4) hm (by decide)).mp c36
      simp [q_do, c2, c36] at k
      exact k
    · refine rp_iload_n (i := 2) d_mod_daysOf_39 rfl rfl ?_
      refine rp_bipush (v := 6) d_mod_daysOf_40 (by decide) ?_
      refine rp_icmp_eq (tgt := 57) d_mod_daysOf_42 (by decide) (fun c42 => ?_) (fun c42 => ?_)
      · refine rp_bipush (v := 30) d_mod_daysOf_57 (by decide) ?_
        refine rp_goto (tgt := 64) d_mod_daysOf_59 (by decide) ?_
        refine rp_ireturn (ty := .int) d_mod_daysOf_64 rfl rfl ?_
        replace c2 : ¬ m = 2 := fun z => c2 (by rw [z]; rfl)
        replace c36 : ¬ m = 4 := fun z => c36 (by rw [z]; rfl)
        replace c42 : m = 6 := (nI_eq (b := 6) hm (by decide)).mp c42
        simp [q_do, c2, c36, c42] at k
        exact k
      · refine rp_iload_n (i := 2) d_mod_daysOf_45 rfl rfl ?_
        refine rp_bipush (v := 9) d_mod_daysOf_46 (by decide) ?_
        refine rp_icmp_eq (tgt := 57) d_mod_daysOf_48 (by decide) (fun c48 => ?_) (fun c48 => ?_)
        · refine rp_bipush (v := 30) d_mod_daysOf_57 (by decide) ?_
          refine rp_goto (tgt := 64) d_mod_daysOf_59 (by decide) ?_
          refine rp_ireturn (ty := .int) d_mod_daysOf_64 rfl rfl ?_
          replace c2 : ¬ m = 2 := fun z => c2 (by rw [z]; rfl)
          replace c36 : ¬ m = 4 := fun z => c36 (by rw [z]; rfl)
          replace c42 : ¬ m = 6 := fun z => c42 (by rw [z]; rfl)
          replace c48 : m = 9 := (nI_eq (b := 9) hm (by decide)).mp c48
          simp [q_do, c2, c36, c42, c48] at k
          exact k
        · refine rp_iload_n (i := 2) d_mod_daysOf_51 rfl rfl ?_
          refine rp_bipush (v := 11) d_mod_daysOf_52 (by decide) ?_
          refine rp_icmp_ne (tgt := 62) d_mod_daysOf_54 (by decide) (fun c54 => ?_) (fun c54 => ?_)
          · refine rp_bipush (v := 31) d_mod_daysOf_62 (by decide) ?_
            refine rp_ireturn (ty := .int) d_mod_daysOf_64 rfl rfl ?_
            replace c2 : ¬ m = 2 := fun z => c2 (by rw [z]; rfl)
            replace c36 : ¬ m = 4 := fun z => c36 (by rw [z]; rfl)
            replace c42 : ¬ m = 6 := fun z => c42 (by rw [z]; rfl)
            replace c48 : ¬ m = 9 := fun z => c48 (by rw [z]; rfl)
            replace c54 : ¬ m = 11 := fun z => c54 (by rw [z]; rfl)
            simp [q_do, c2, c36, c42, c48, c54] at k
            exact k
          · refine rp_bipush (v := 30) d_mod_daysOf_57 (by decide) ?_
            refine rp_goto (tgt := 64) d_mod_daysOf_59 (by decide) ?_
            refine rp_ireturn (ty := .int) d_mod_daysOf_64 rfl rfl ?_
            replace c2 : ¬ m = 2 := fun z => c2 (by rw [z]; rfl)
            replace c36 : ¬ m = 4 := fun z => c36 (by rw [z]; rfl)
            replace c42 : ¬ m = 6 := fun z => c42 (by rw [z]; rfl)
            replace c48 : ¬ m = 9 := fun z => c48 (by rw [z]; rfl)
            replace c54 : m = 11 := (nI_eq (b := 11) hm (by decide)).mp c54
            simp [q_do, c2, c36, c42, c48, c54] at k
            exact k
  · refine rp_iload_n (i := 1) d_mod_daysOf_5 rfl rfl ?_
    refine rp_callS1 d_mod_daysOf_6 q_mod_daysOf_191 (Nat.le_of_ble_eq_true rfl) (Nat.le_of_ble_eq_true rfl) ?_
    refine s_mod_leap rfl hy ?_
    refine rp_if_ne (tgt := 26) d_mod_daysOf_9 (by decide) (fun c9 => ?_) (fun c9 => ?_)
    · refine rp_bipush (v := 29) d_mod_daysOf_26 (by decide) ?_
      refine rp_goto (tgt := 33) d_mod_daysOf_28 (by decide) ?_
      refine rp_ireturn (ty := .int) d_mod_daysOf_33 rfl rfl ?_
      replace c2 : m = 2 := (nI_eq (b := 2) hm (by decide)).mp c2
      replace c9 := cf_b_t c9
      simp [q_do, c2, c9] at k
      exact k
    · refine rp_aload_n (i := 0) d_mod_daysOf_12 rfl rfl ?_
      refine rp_getI d_mod_daysOf_13 f_mod_112 rfl ?_
      refine rp_if_ne (tgt := 31) d_mod_daysOf_16 (by decide) (fun c16 => ?_) (fun c16 => ?_)
      · refine rp_bipush (v := 28) d_mod_daysOf_31 (by decide) ?_
        refine rp_ireturn (ty := .int) d_mod_daysOf_33 rfl rfl ?_
        replace c2 : m = 2 := (nI_eq (b := 2) hm (by decide)).mp c2
        replace c9 := cf_b_f c9
        rw [hc] at c16
        replace c16 := cf_b_t c16
        simp [q_do, c2, c9, c16] at k
        exact k
      · refine rp_iload_n (i := 1) d_mod_daysOf_19 rfl rfl ?_
        refine rp_sipush (v := 1900) d_mod_daysOf_20 (by decide) ?_
        refine rp_icmp_ne (tgt := 31) d_mod_daysOf_23 (by decide) (fun c23 => ?_) (fun c23 => ?_)
        · refine rp_bipush (v := 28) d_mod_daysOf_31 (by decide) ?_
          refine rp_ireturn (ty := .int) d_mod_daysOf_33 rfl rfl ?_
          replace c2 : m = 2 := (nI_eq (b := 2) hm (by decide)).mp c2
          replace c9 := cf_b_f c9
          rw [hc] at c16
          replace c16 := cf_b_f c16
          replace c23 : ¬ y = 1900 := fun z => c23 (by rw [z]; rfl)
          simp [q_do, c2, c9, c16, c23] at k
          exact k
        · refine rp_bipush (v := 29) d_mod_daysOf_26 (by decide) ?_
          refine rp_goto (tgt := 33) d_mod_daysOf_28 (by decide) ?_
          refine rp_ireturn (ty := .int) d_mod_daysOf_33 rfl rfl ?_
          replace c2 : m = 2 := (nI_eq (b := 2) hm (by decide)).mp c2
          replace c9 := cf_b_f c9
          rw [hc] at c16
          replace c16 := cf_b_f c16
          replace c23 : y = 1900 := (nI_eq (b := 1900) hy (by decide)).mp c23
          simp [q_do, c2, c9, c16, c23] at k
          exact k
set_option maxHeartbeats 4000000 in
set_option maxRecDepth 100000 in
theorem s_mod_daysOfYear {h : cf_H} {P : Option Value → cf_H → Prop} {c : Bool} (hc : h.1 19 9 = cf_b c) {x : Int32} {y : Nat} (hx : x = nI y) (hy : y < 2 ^ 31) (k : P (some (.int (nI (q_dy c y)))) h) : RP k_mod_daysOfYear 0 [(0, .ref 19), (1, .int x)] [] h P := by
  refine rp_sipush (v := 337) d_mod_daysOfYear_0 (by decide) ?_
  refine rp_aload_n (i := 0) d_mod_daysOfYear_3 rfl rfl ?_
  refine rp_iload_n (i := 1) d_mod_daysOfYear_4 rfl rfl ?_
  refine rp_iconst (v := 2) d_mod_daysOfYear_5 (by decide) ?_
  refine rp_callV2 d_mod_daysOfYear_6 q_mod_daysOfYear_194 (Or.inl ⟨_, _, _, rfl, rfl⟩) (Nat.le_of_ble_eq_true rfl) (Nat.le_of_ble_eq_true rfl) ?_
  refine s_mod_daysOf (m := 2) hc hx rfl hy (by decide) ?_
  refine rp_iadd d_mod_daysOfYear_9 ?_
  refine rp_ireturn (ty := .int) d_mod_daysOfYear_10 rfl rfl ?_
  rw [show (337 : Int32) + nI (q_do c y 2) = nI (q_dy c y) from nI_add 337 _]
  exact k
set_option maxHeartbeats 4000000 in
set_option maxRecDepth 100000 in
theorem s_mod_firstYear {h : cf_H} {P : Option Value → cf_H → Prop} {c : Bool} (hc : h.1 19 9 = cf_b c) (k : P (some (.int (nI (q_fy c)))) h) : RP k_mod_firstYear 0 [(0, .ref 19)] [] h P := by
  refine rp_aload_n (i := 0) d_mod_firstYear_0 rfl rfl ?_
  refine rp_getI d_mod_firstYear_1 f_mod_112 rfl ?_
  refine rp_if_eq (tgt := 13) d_mod_firstYear_4 (by decide) (fun c4 => ?_) (fun c4 => ?_)
  · refine rp_sipush (v := 1900) d_mod_firstYear_13 (by decide) ?_
    refine rp_ireturn (ty := .int) d_mod_firstYear_16 rfl rfl ?_
    rw [hc] at c4
    replace c4 := cf_b_f c4
    subst c4
    exact k
  · refine rp_sipush (v := 1904) d_mod_firstYear_7 (by decide) ?_
    refine rp_goto (tgt := 16) d_mod_firstYear_10 (by decide) ?_
    refine rp_ireturn (ty := .int) d_mod_firstYear_16 rfl rfl ?_
    rw [hc] at c4
    replace c4 := cf_b_t c4
    subst c4
    exact k
set_option maxHeartbeats 4000000 in
set_option maxRecDepth 100000 in
theorem s_mod_firstSerial {h : cf_H} {P : Option Value → cf_H → Prop} {c : Bool} (hc : h.1 19 9 = cf_b c) (k : P (some (.int (nI (k_lo c)))) h) : RP k_mod_firstSerial 0 [(0, .ref 19)] [] h P := by
  refine rp_aload_n (i := 0) d_mod_firstSerial_0 rfl rfl ?_
  refine rp_getI d_mod_firstSerial_1 f_mod_112 rfl ?_
  refine rp_if_eq (tgt := 11) d_mod_firstSerial_4 (by decide) (fun c4 => ?_) (fun c4 => ?_)
  · refine rp_iconst (v := 1) d_mod_firstSerial_11 (by decide) ?_
    refine rp_ireturn (ty := .int) d_mod_firstSerial_12 rfl rfl ?_
    rw [hc] at c4
    replace c4 := cf_b_f c4
    subst c4
    exact k
  · refine rp_iconst (v := 0) d_mod_firstSerial_7 (by decide) ?_
    refine rp_goto (tgt := 12) d_mod_firstSerial_8 (by decide) ?_
    refine rp_ireturn (ty := .int) d_mod_firstSerial_12 rfl rfl ?_
    rw [hc] at c4
    replace c4 := cf_b_t c4
    subst c4
    exact k
set_option maxHeartbeats 4000000 in
set_option maxRecDepth 100000 in
theorem l_mod_lastSerial {h : cf_H} {P : Option Value → cf_H → Prop} {c : Bool} (hc : h.1 19 9 = cf_b c) (k : P (some (.int (nI (k_hi c)))) h) : ∀ (r y : Nat), y + r = 10000 → q_fy c ≤ y → RP k_mod_lastSerial 10 [(0, .ref 19), (1, .int (nI (k_lo c + q_S c y))), (2, .int (nI y))] [] h P := by
  intro r
  induction r with
  | zero =>
    intro y e hy
    have e : y = 10000 := e
    subst e
    refine rp_iload_n (i := 2) d_mod_lastSerial_10 rfl rfl ?_
    refine rp_sipush (v := 9999) d_mod_lastSerial_11 (by decide) ?_
    refine rp_icmp_gt (tgt := 31) d_mod_lastSerial_14 (by decide) (fun c14 => ?_) (fun c14 => ?_)
    · refine rp_iload_n (i := 1) d_mod_lastSerial_31 rfl rfl ?_
      refine rp_iconst (v := 1) d_mod_lastSerial_32 (by decide) ?_
      refine rp_isub d_mod_lastSerial_33 ?_
      refine rp_ireturn (ty := .int) d_mod_lastSerial_34 rfl rfl ?_
      rw [show nI (k_lo c + q_S c 10000) - 1 = nI (k_lo c + q_S c 10000 - 1) from pk_sub (b := 1) (by rw [q_S_hi]; omega), q_S_hi]
      exact k
    · exact absurd (by decide) c14
  | succ r ih =>
    intro y e hy
    refine rp_iload_n (i := 2) d_mod_lastSerial_10 rfl rfl ?_
    refine rp_sipush (v := 9999) d_mod_lastSerial_11 (by decide) ?_
    refine rp_icmp_gt (tgt := 31) d_mod_lastSerial_14 (by decide) (fun c14 => ?_) (fun c14 => ?_)
    · exact absurd c14 (nI_nlt (a := 9999) (b := y) (by omega) (by decide))
    · refine rp_iload_n (i := 1) d_mod_lastSerial_17 rfl rfl ?_
      refine rp_aload_n (i := 0) d_mod_lastSerial_18 rfl rfl ?_
      refine rp_iload_n (i := 2) d_mod_lastSerial_19 rfl rfl ?_
      refine rp_callV1 d_mod_lastSerial_20 q_mod_lastSerial_203 (Or.inl ⟨_, _, _, rfl, rfl⟩) (Nat.le_of_ble_eq_true rfl) (Nat.le_of_ble_eq_true rfl) ?_
      refine s_mod_daysOfYear hc rfl (by omega) ?_
      refine rp_iadd d_mod_lastSerial_23 ?_
      refine rp_istore_n (i := 1) d_mod_lastSerial_24 rfl rfl (Nat.le_of_ble_eq_true rfl) ?_
      refine rp_iinc (i := 2) (y := 1) d_mod_lastSerial_25 rfl (by decide) rfl (Nat.le_of_ble_eq_true rfl) ?_
      refine rp_goto (tgt := 10) d_mod_lastSerial_28 (by decide) ?_
      rw [nI_add, Nat.add_assoc, ← q_S_S hy]
      refine rp_lv [(0, .ref 19), (1, .int (nI (k_lo c + q_S c (y + 1)))), (2, .int (nI (y + 1)))] (by simp only [← nI_1]; rfl) ?_
      exact ih (y + 1) (by omega) (by omega)
set_option maxHeartbeats 4000000 in
set_option maxRecDepth 100000 in
theorem s_mod_lastSerial {h : cf_H} {P : Option Value → cf_H → Prop} {c : Bool} (hc : h.1 19 9 = cf_b c) (k : P (some (.int (nI (k_hi c)))) h) : RP k_mod_lastSerial 0 [(0, .ref 19)] [] h P := by
  refine rp_aload_n (i := 0) d_mod_lastSerial_0 rfl rfl ?_
  refine rp_callV0 d_mod_lastSerial_1 q_mod_lastSerial_197 (Or.inl ⟨_, _, _, rfl, rfl⟩) (Nat.le_of_ble_eq_true rfl) (Nat.le_of_ble_eq_true rfl) ?_
  refine s_mod_firstSerial hc ?_
  refine rp_istore_n (i := 1) d_mod_lastSerial_4 rfl rfl (Nat.le_of_ble_eq_true rfl) ?_
  refine rp_aload_n (i := 0) d_mod_lastSerial_5 rfl rfl ?_
  refine rp_callV0 d_mod_lastSerial_6 q_mod_lastSerial_200 (Or.inl ⟨_, _, _, rfl, rfl⟩) (Nat.le_of_ble_eq_true rfl) (Nat.le_of_ble_eq_true rfl) ?_
  refine s_mod_firstYear hc ?_
  refine rp_istore_n (i := 2) d_mod_lastSerial_9 rfl rfl (Nat.le_of_ble_eq_true rfl) ?_
  refine rp_lv [(0, .ref 19), (1, .int (nI (k_lo c + q_S c (q_fy c)))), (2, .int (nI (q_fy c)))] (by rw [q_S_fy]; rfl) ?_
  exact l_mod_lastSerial hc k (10000 - q_fy c) (q_fy c) (by cases c <;> rfl) (Nat.le_refl _)
set_option maxHeartbeats 4000000 in
set_option maxRecDepth 100000 in
theorem l_mod_dateM {h : cf_H} {P : Option Value → cf_H → Prop} {c : Bool} (hc : h.1 19 9 = cf_b c) {p : Int32} {s y m dd : Nat} (hq : q_day c s y m dd) (k : P (some (.int (if p = 0 then nI y else if p = 1 then nI m else nI dd))) h) : ∀ (r M l : Nat), M + r = m → 1 ≤ M → l + 1 + q_cum c y M = q_cum c y m + dd → RP k_mod_date 95 [(0, .ref 19), (2, .int p), (3, .int (nI l)), (4, .int (nI y)), (5, .int (nI M))] [] h P := by
  obtain ⟨q1, q2, q3, q4, q5, q6, q7⟩ := hq
  have hd := q_do_le c y m
  intro r
  induction r with
  | zero =>
    intro M l e h1 hl
    have e : M = m := e
    subst e
    refine rp_iload_n (i := 3) d_mod_date_95 rfl rfl ?_
    refine rp_aload_n (i := 0) d_mod_date_96 rfl rfl ?_
    refine rp_iload (i := 4) d_mod_date_97 rfl ?_
    refine rp_iload (i := 5) d_mod_date_99 rfl ?_
    refine rp_callV2 d_mod_date_101 q_mod_date_194 (Or.inl ⟨_, _, _, rfl, rfl⟩) (Nat.le_of_ble_eq_true rfl) (Nat.le_of_ble_eq_true rfl) ?_
    refine s_mod_daysOf hc rfl rfl (by omega) (by omega) ?_
    refine rp_icmp_lt (tgt := 124) d_mod_date_104 (by decide) (fun c104 => ?_) (fun c104 => ?_)
    · refine rp_iload_n (i := 2) d_mod_date_124 rfl rfl ?_
      refine rp_if_ne (tgt := 133) d_mod_date_125 (by decide) (fun c125 => ?_) (fun c125 => ?_)
      · refine rp_iload_n (i := 2) d_mod_date_133 rfl rfl ?_
        refine rp_iconst (v := 1) d_mod_date_134 (by decide) ?_
        refine rp_icmp_ne (tgt := 143) d_mod_date_135 (by decide) (fun c135 => ?_) (fun c135 => ?_)
        · refine rp_iload_n (i := 3) d_mod_date_143 rfl rfl ?_
          refine rp_iconst (v := 1) d_mod_date_144 (by decide) ?_
          refine rp_iadd d_mod_date_145 ?_
          refine rp_ireturn (ty := .int) d_mod_date_146 rfl rfl ?_
          rw [if_neg c125, if_neg c135] at k
          rw [nI_1, show l + 1 = dd by omega]
          exact k
        · refine rp_iload (i := 5) d_mod_date_138 rfl ?_
          refine rp_goto (tgt := 146) d_mod_date_140 (by decide) ?_
          refine rp_ireturn (ty := .int) d_mod_date_146 rfl rfl ?_
          rw [if_neg c125, if_pos c135] at k
          exact k
      · refine rp_iload (i := 4) d_mod_date_128 rfl ?_
        refine rp_goto (tgt := 146) d_mod_date_130 (by decide) ?_
        refine rp_ireturn (ty := .int) d_mod_date_146 rfl rfl ?_
        replace c125 : p = 0 := c125
        rw [if_pos c125] at k
        exact k
    · exact absurd (nI_lt (by omega) (by omega)) c104
  | succ r ih =>
    intro M l e h1 hl
    have hdM := q_do_le c y M
    have hmn := q_cum_mono (c := c) (y := y) (a := M + 1) (b := m) (by omega)
    have hS := q_cum_S (c := c) (y := y) h1
    have h13 := q_cum_13 c y
    have hm13 := q_cum_mono (c := c) (y := y) (a := m) (b := 13) (by omega)
    have hyy : q_dy c y ≤ 400 := by unfold q_dy; have := q_do_le c y 2; omega
    refine rp_iload_n (i := 3) d_mod_date_95 rfl rfl ?_
    refine rp_aload_n (i := 0) d_mod_date_96 rfl rfl ?_
    refine rp_iload (i := 4) d_mod_date_97 rfl ?_
    refine rp_iload (i := 5) d_mod_date_99 rfl ?_
    refine rp_callV2 d_mod_date_101 q_mod_date_194 (Or.inl ⟨_, _, _, rfl, rfl⟩) (Nat.le_of_ble_eq_true rfl) (Nat.le_of_ble_eq_true rfl) ?_
    refine s_mod_daysOf hc rfl rfl (by omega) (by omega) ?_
    refine rp_icmp_lt (tgt := 124) d_mod_date_104 (by decide) (fun c104 => ?_) (fun c104 => ?_)
    · exact absurd c104 (nI_nlt (by omega) (by omega))
    · refine rp_iload_n (i := 3) d_mod_date_107 rfl rfl ?_
      refine rp_aload_n (i := 0) d_mod_date_108 rfl rfl ?_
      refine rp_iload (i := 4) d_mod_date_109 rfl ?_
      refine rp_iload (i := 5) d_mod_date_111 rfl ?_
      refine rp_callV2 d_mod_date_113 q_mod_date_194 (Or.inl ⟨_, _, _, rfl, rfl⟩) (Nat.le_of_ble_eq_true rfl) (Nat.le_of_ble_eq_true rfl) ?_
      refine s_mod_daysOf hc rfl rfl (by omega) (by omega) ?_
      refine rp_isub d_mod_date_116 ?_
      rw [pk_sub (by omega)]
      refine rp_istore_n (i := 3) d_mod_date_117 rfl rfl (Nat.le_of_ble_eq_true rfl) ?_
      refine rp_iinc (i := 5) (y := 1) d_mod_date_118 rfl (by decide) rfl (Nat.le_of_ble_eq_true rfl) ?_
      refine rp_goto (tgt := 95) d_mod_date_121 (by decide) ?_
      refine rp_lv [(0, .ref 19), (2, .int p), (3, .int (nI (l - q_do c y M))), (4, .int (nI y)), (5, .int (nI (M + 1)))] (by simp only [← nI_1]; rfl) ?_
      exact ih (M + 1) (l - q_do c y M) (by omega) (by omega) (by omega)
set_option maxHeartbeats 4000000 in
set_option maxRecDepth 100000 in
theorem l_mod_dateY {h : cf_H} {P : Option Value → cf_H → Prop} {c : Bool} (hc : h.1 19 9 = cf_b c) {p : Int32} {s y m dd : Nat} (hq : q_day c s y m dd) (k : P (some (.int (if p = 0 then nI y else if p = 1 then nI m else nI dd))) h) : ∀ (r Y l : Nat), Y + r = y → q_fy c ≤ Y → l + k_lo c + q_S c Y = s → RP k_mod_date 67 [(0, .ref 19), (2, .int p), (3, .int (nI l)), (4, .int (nI Y))] [] h P := by
  have hq' := hq
  obtain ⟨q1, q2, q3, q4, q5, q6, q7⟩ := hq
  have hS10 := q_S_hi c
  have hk : k_hi c ≤ 2958465 := by cases c <;> decide
  intro r
  induction r with
  | zero =>
    intro Y l e h1 hl
    have e : Y = y := e
    subst e
    have hcm := q_cum_mono (c := c) (y := Y) (a := m + 1) (b := 13) (by omega)
    have hcs := q_cum_S (c := c) (y := Y) q3
    have h13 := q_cum_13 c Y
    have hyy : q_dy c Y ≤ 400 := by unfold q_dy; have := q_do_le c Y 2; omega
    have hc1 : q_cum c Y 1 = 0 := rfl
    refine rp_iload_n (i := 3) d_mod_date_67 rfl rfl ?_
    refine rp_aload_n (i := 0) d_mod_date_68 rfl rfl ?_
    refine rp_iload (i := 4) d_mod_date_69 rfl ?_
    refine rp_callV1 d_mod_date_71 q_mod_date_203 (Or.inl ⟨_, _, _, rfl, rfl⟩) (Nat.le_of_ble_eq_true rfl) (Nat.le_of_ble_eq_true rfl) ?_
    refine s_mod_daysOfYear hc rfl (by omega) ?_
    refine rp_icmp_lt (tgt := 92) d_mod_date_74 (by decide) (fun c74 => ?_) (fun c74 => ?_)
    · refine rp_iconst (v := 1) d_mod_date_92 (by decide) ?_
      refine rp_istore (i := 5) d_mod_date_93 rfl (Nat.le_of_ble_eq_true rfl) ?_
      refine rp_lv [(0, .ref 19), (2, .int p), (3, .int (nI l)), (4, .int (nI Y)), (5, .int (nI 1))] rfl ?_
      exact l_mod_dateM hc hq' k (m - 1) 1 l (by omega) (by omega) (by omega)
    · exact absurd (nI_lt (by omega) (by omega)) c74
  | succ r ih =>
    intro Y l e h1 hl
    have hSS := q_S_S (c := c) h1
    have hmn := q_S_mono (c := c) (a := Y + 1) (b := y) (by omega) (by omega)
    have hmx := q_S_mono (c := c) (a := y + 1) (b := 10000) (by omega) (by omega)
    have hsy := q_S_S (c := c) (y := y) (by omega)
    have hcm := q_cum_mono (c := c) (y := y) (a := m + 1) (b := 13) (by omega)
    have hcs := q_cum_S (c := c) (y := y) q3
    have h13 := q_cum_13 c y
    refine rp_iload_n (i := 3) d_mod_date_67 rfl rfl ?_
    refine rp_aload_n (i := 0) d_mod_date_68 rfl rfl ?_
    refine rp_iload (i := 4) d_mod_date_69 rfl ?_
    refine rp_callV1 d_mod_date_71 q_mod_date_203 (Or.inl ⟨_, _, _, rfl, rfl⟩) (Nat.le_of_ble_eq_true rfl) (Nat.le_of_ble_eq_true rfl) ?_
    refine s_mod_daysOfYear hc rfl (by omega) ?_
    refine rp_icmp_lt (tgt := 92) d_mod_date_74 (by decide) (fun c74 => ?_) (fun c74 => ?_)
    · exact absurd c74 (nI_nlt (by omega) (by omega))
    · refine rp_iload_n (i := 3) d_mod_date_77 rfl rfl ?_
      refine rp_aload_n (i := 0) d_mod_date_78 rfl rfl ?_
      refine rp_iload (i := 4) d_mod_date_79 rfl ?_
      refine rp_callV1 d_mod_date_81 q_mod_date_203 (Or.inl ⟨_, _, _, rfl, rfl⟩) (Nat.le_of_ble_eq_true rfl) (Nat.le_of_ble_eq_true rfl) ?_
      refine s_mod_daysOfYear hc rfl (by omega) ?_
      refine rp_isub d_mod_date_84 ?_
      rw [pk_sub (by omega)]
      refine rp_istore_n (i := 3) d_mod_date_85 rfl rfl (Nat.le_of_ble_eq_true rfl) ?_
      refine rp_iinc (i := 4) (y := 1) d_mod_date_86 rfl (by decide) rfl (Nat.le_of_ble_eq_true rfl) ?_
      refine rp_goto (tgt := 67) d_mod_date_89 (by decide) ?_
      refine rp_lv [(0, .ref 19), (2, .int p), (3, .int (nI (l - q_dy c Y))), (4, .int (nI (Y + 1)))] (by simp only [← nI_1]; rfl) ?_
      exact ih (Y + 1) (l - q_dy c Y) (by omega) (by omega) (by omega)
set_option maxHeartbeats 4000000 in
set_option maxRecDepth 100000 in
theorem s_mod_date {h : cf_H} {P : Option Value → cf_H → Prop} {c : Bool} (hc : h.1 19 9 = cf_b c) {x p : Int32} {y m dd : Nat} (hq : ¬ (p < 0 ∨ 3 < p) → ∀ s, x = nI s → k_lo c ≤ s → s ≤ k_hi c → q_day c s y m dd) (k : P (some (.int (q_dt c x p y m dd))) h) : RP k_mod_date 0 [(0, .ref 19), (1, .int x), (2, .int p)] [] h P := by
  refine rp_iload_n (i := 1) d_mod_date_0 rfl rfl ?_
  refine rp_aload_n (i := 0) d_mod_date_1 rfl rfl ?_
  refine rp_callV0 d_mod_date_2 q_mod_date_197 (Or.inl ⟨_, _, _, rfl, rfl⟩) (Nat.le_of_ble_eq_true rfl) (Nat.le_of_ble_eq_true rfl) ?_
  refine s_mod_firstSerial hc ?_
  refine rp_icmp_lt (tgt := 25) d_mod_date_5 (by decide) (fun c5 => ?_) (fun c5 => ?_)
  · refine rp_bipush (v := (-3)) d_mod_date_25 (by decide) ?_
    refine rp_ireturn (ty := .int) d_mod_date_27 rfl rfl ?_
    rw [q_dt, if_pos (Or.inl c5)] at k
    exact k
  · refine rp_iload_n (i := 1) d_mod_date_8 rfl rfl ?_
    refine rp_aload_n (i := 0) d_mod_date_9 rfl rfl ?_
    refine rp_callV0 d_mod_date_10 q_mod_date_206 (Or.inl ⟨_, _, _, rfl, rfl⟩) (Nat.le_of_ble_eq_true rfl) (Nat.le_of_ble_eq_true rfl) ?_
    refine s_mod_lastSerial hc ?_
    refine rp_icmp_gt (tgt := 25) d_mod_date_13 (by decide) (fun c13 => ?_) (fun c13 => ?_)
    · refine rp_bipush (v := (-3)) d_mod_date_25 (by decide) ?_
      refine rp_ireturn (ty := .int) d_mod_date_27 rfl rfl ?_
      rw [q_dt, if_pos (Or.inr (Or.inl c13))] at k
      exact k
    · refine rp_iload_n (i := 2) d_mod_date_16 rfl rfl ?_
      refine rp_if_lt (tgt := 25) d_mod_date_17 (by decide) (fun c17 => ?_) (fun c17 => ?_)
      · refine rp_bipush (v := (-3)) d_mod_date_25 (by decide) ?_
        refine rp_ireturn (ty := .int) d_mod_date_27 rfl rfl ?_
        rw [q_dt, if_pos (Or.inr (Or.inr (Or.inl c17)))] at k
        exact k
      · refine rp_iload_n (i := 2) d_mod_date_20 rfl rfl ?_
        refine rp_iconst (v := 3) d_mod_date_21 (by decide) ?_
        refine rp_icmp_le (tgt := 28) d_mod_date_22 (by decide) (fun c22 => ?_) (fun c22 => ?_)
        · refine rp_iload_n (i := 2) d_mod_date_28 rfl rfl ?_
          refine rp_iconst (v := 3) d_mod_date_29 (by decide) ?_
          refine rp_icmp_ne (tgt := 54) d_mod_date_30 (by decide) (fun c30 => ?_) (fun c30 => ?_)
          · refine rp_iload_n (i := 1) d_mod_date_54 rfl rfl ?_
            refine rp_aload_n (i := 0) d_mod_date_55 rfl rfl ?_
            refine rp_callV0 d_mod_date_56 q_mod_date_197 (Or.inl ⟨_, _, _, rfl, rfl⟩) (Nat.le_of_ble_eq_true rfl) (Nat.le_of_ble_eq_true rfl) ?_
            refine s_mod_firstSerial hc ?_
            refine rp_isub d_mod_date_59 ?_
            refine rp_istore_n (i := 3) d_mod_date_60 rfl rfl (Nat.le_of_ble_eq_true rfl) ?_
            refine rp_aload_n (i := 0) d_mod_date_61 rfl rfl ?_
            refine rp_callV0 d_mod_date_62 q_mod_date_200 (Or.inl ⟨_, _, _, rfl, rfl⟩) (Nat.le_of_ble_eq_true rfl) (Nat.le_of_ble_eq_true rfl) ?_
            refine s_mod_firstYear hc ?_
            refine rp_istore (i := 4) d_mod_date_65 rfl (Nat.le_of_ble_eq_true rfl) ?_
            have hgood : ¬ (x < nI (k_lo c) ∨ nI (k_hi c) < x ∨ p < 0 ∨ 3 < p) := fun z => z.elim c5 (fun z => z.elim c13 (fun z => z.elim c17 (fun z => Int32.not_le.mpr z c22)))
            have hx0 : ¬ x < 0 := fun z => c5 (by cases c with | true => exact z | false => exact Int32.lt_trans z (by decide))
            obtain ⟨s, hs, rfl⟩ := nI_of hx0
            have hlo1 : k_lo c ≤ 1 := by cases c <;> decide
            have hhi1 : k_hi c ≤ 2958465 := by cases c <;> decide
            have s1 : k_lo c ≤ s := Nat.not_lt.mp (fun z => c5 (nI_lt z (by omega)))
            have s2 : s ≤ k_hi c := Nat.not_lt.mp (fun z => c13 (nI_lt z (by omega)))
            rw [q_dt, if_neg hgood, if_neg c30] at k
            refine rp_lv [(0, .ref 19), (2, .int p), (3, .int (nI (s - k_lo c))), (4, .int (nI (q_fy c)))] (by rw [← pk_sub s1]; rfl) ?_
            have hq := hq (fun z => hgood (Or.inr (Or.inr z))) s rfl s1 s2
            exact l_mod_dateY hc hq k (y - q_fy c) (q_fy c) (s - k_lo c) (by have := hq.1; omega) (Nat.le_refl _) (by rw [q_S_fy]; omega)
          · refine rp_iload_n (i := 1) d_mod_date_33 rfl rfl ?_
            refine rp_aload_n (i := 0) d_mod_date_34 rfl rfl ?_
            refine rp_getI d_mod_date_35 f_mod_112 rfl ?_
            have e9 := hc
            rw [hc]
            refine rp_if_eq (tgt := 45) d_mod_date_38 (by decide) (fun c38 => ?_) (fun c38 => ?_)
            · refine rp_bipush (v := 6) d_mod_date_45 (by decide) ?_
              refine rp_iadd d_mod_date_47 ?_
              refine rp_bipush (v := 7) d_mod_date_48 (by decide) ?_
              refine rp_irem d_mod_date_50 (by decide) ?_
              refine rp_iconst (v := 1) d_mod_date_51 (by decide) ?_
              refine rp_iadd d_mod_date_52 ?_
              refine rp_ireturn (ty := .int) d_mod_date_53 rfl rfl ?_
              have hgood : ¬ (x < nI (k_lo c) ∨ nI (k_hi c) < x ∨ p < 0 ∨ 3 < p) := fun z => z.elim c5 (fun z => z.elim c13 (fun z => z.elim c17 (fun z => Int32.not_le.mpr z c22)))
              have hx0 : ¬ x < 0 := fun z => c5 (by cases c with | true => exact z | false => exact Int32.lt_trans z (by decide))
              obtain ⟨s, hs, rfl⟩ := nI_of hx0
              have hlo1 : k_lo c ≤ 1 := by cases c <;> decide
              have hhi1 : k_hi c ≤ 2958465 := by cases c <;> decide
              have s1 : k_lo c ≤ s := Nat.not_lt.mp (fun z => c5 (nI_lt z (by omega)))
              have s2 : s ≤ k_hi c := Nat.not_lt.mp (fun z => c13 (nI_lt z (by omega)))
              rw [q_dt, if_neg hgood, if_pos c30, nI_clamp hs] at k
              replace e9 := cf_b_f c38
              subst e9
              rw [show nI s + 6 = nI (s + 6) from nI_add s 6, show nI (s + 6) - nI (s + 6) / 7 * 7 = nI ((s + 6) % 7) from pk_rem (d := 7) (Nat.lt_of_le_of_lt (Nat.add_le_add_right s2 6) (by decide)) (by decide) (by decide), nI_1, show (s + 6) % 7 + 1 = k_wd false s from by have : 1 ≤ s := s1; rw [k_wd, if_neg (by decide)]; omega]
              exact k
            · refine rp_iconst (v := 5) d_mod_date_41 (by decide) ?_
              refine rp_goto (tgt := 47) d_mod_date_42 (by decide) ?_
              refine rp_iadd d_mod_date_47 ?_
              refine rp_bipush (v := 7) d_mod_date_48 (by decide) ?_
              refine rp_irem d_mod_date_50 (by decide) ?_
              refine rp_iconst (v := 1) d_mod_date_51 (by decide) ?_
              refine rp_iadd d_mod_date_52 ?_
              refine rp_ireturn (ty := .int) d_mod_date_53 rfl rfl ?_
              have hgood : ¬ (x < nI (k_lo c) ∨ nI (k_hi c) < x ∨ p < 0 ∨ 3 < p) := fun z => z.elim c5 (fun z => z.elim c13 (fun z => z.elim c17 (fun z => Int32.not_le.mpr z c22)))
              have hx0 : ¬ x < 0 := fun z => c5 (by cases c with | true => exact z | false => exact Int32.lt_trans z (by decide))
              obtain ⟨s, hs, rfl⟩ := nI_of hx0
              have hlo1 : k_lo c ≤ 1 := by cases c <;> decide
              have hhi1 : k_hi c ≤ 2958465 := by cases c <;> decide
              have s1 : k_lo c ≤ s := Nat.not_lt.mp (fun z => c5 (nI_lt z (by omega)))
              have s2 : s ≤ k_hi c := Nat.not_lt.mp (fun z => c13 (nI_lt z (by omega)))
              rw [q_dt, if_neg hgood, if_pos c30, nI_clamp hs] at k
              replace e9 := cf_b_t c38
              subst e9
              rw [show nI s + 5 = nI (s + 5) from nI_add s 5, show nI (s + 5) - nI (s + 5) / 7 * 7 = nI ((s + 5) % 7) from pk_rem (d := 7) (Nat.lt_of_le_of_lt (Nat.add_le_add_right s2 5) (by decide)) (by decide) (by decide), nI_1]
              exact k
        · refine rp_bipush (v := (-3)) d_mod_date_25 (by decide) ?_
          refine rp_ireturn (ty := .int) d_mod_date_27 rfl rfl ?_
          rw [q_dt, if_pos (Or.inr (Or.inr (Or.inr (Int32.not_le.mp c22))))] at k
          exact k
set_option maxHeartbeats 4000000 in
set_option maxRecDepth 100000 in
theorem l_mod_serM {h : cf_H} {P : Option Value → cf_H → Prop} {c : Bool} (hc : h.1 19 9 = cf_b c) {a b q : Nat} (ha : a ≤ 9999) (hb : b ≤ 12) (k : P (some (.int (nI (q + q_cum c a b)))) h) : ∀ (r M : Nat), M + r = b → 1 ≤ M → RP k_mod_serial 86 [(0, .ref 19), (1, .int (nI a)), (2, .int (nI b)), (4, .int (nI (q + q_cum c a M))), (5, .int (nI M))] [] h P := by
  intro r
  induction r with
  | zero =>
    intro M e h1
    have e : M = b := e
    subst e
    refine rp_iload (i := 5) d_mod_serial_86 rfl ?_
    refine rp_iload_n (i := 2) d_mod_serial_88 rfl rfl ?_
    refine rp_icmp_ge (tgt := 110) d_mod_serial_89 (by decide) (fun c89 => ?_) (fun c89 => ?_)
    · refine rp_iload (i := 4) d_mod_serial_110 rfl ?_
      refine rp_ireturn (ty := .int) d_mod_serial_112 rfl rfl ?_
      exact k
    · exact absurd (nI_le (Nat.le_refl M) (by omega)) c89
  | succ r ih =>
    intro M e h1
    refine rp_iload (i := 5) d_mod_serial_86 rfl ?_
    refine rp_iload_n (i := 2) d_mod_serial_88 rfl rfl ?_
    refine rp_icmp_ge (tgt := 110) d_mod_serial_89 (by decide) (fun c89 => ?_) (fun c89 => ?_)
    · exact absurd c89 (nI_ge (by omega) (by omega))
    · refine rp_iload (i := 4) d_mod_serial_92 rfl ?_
      refine rp_aload_n (i := 0) d_mod_serial_94 rfl rfl ?_
      refine rp_iload_n (i := 1) d_mod_serial_95 rfl rfl ?_
      refine rp_iload (i := 5) d_mod_serial_96 rfl ?_
      refine rp_callV2 d_mod_serial_98 q_mod_serial_194 (Or.inl ⟨_, _, _, rfl, rfl⟩) (Nat.le_of_ble_eq_true rfl) (Nat.le_of_ble_eq_true rfl) ?_
      refine s_mod_daysOf hc rfl rfl (by omega) (by omega) ?_
      refine rp_iadd d_mod_serial_101 ?_
      refine rp_istore (i := 4) d_mod_serial_102 rfl (Nat.le_of_ble_eq_true rfl) ?_
      refine rp_iinc (i := 5) (y := 1) d_mod_serial_104 rfl (by decide) rfl (Nat.le_of_ble_eq_true rfl) ?_
      refine rp_goto (tgt := 86) d_mod_serial_107 (by decide) ?_
      rw [nI_add, Nat.add_assoc, ← q_cum_S h1]
      refine rp_lv [(0, .ref 19), (1, .int (nI a)), (2, .int (nI b)), (4, .int (nI (q + q_cum c a (M + 1)))), (5, .int (nI (M + 1)))] (by simp only [← nI_1]; rfl) ?_
      exact ih (M + 1) (by omega) (by omega)
set_option maxHeartbeats 4000000 in
set_option maxRecDepth 100000 in
theorem l_mod_serY {h : cf_H} {P : Option Value → cf_H → Prop} {c : Bool} (hc : h.1 19 9 = cf_b c) {a b q : Nat} (ha : a ≤ 9999) (hb1 : 1 ≤ b) (hb : b ≤ 12) (k : P (some (.int (nI (q + q_S c a + q_cum c a b)))) h) : ∀ (r Y : Nat), Y + r = a → q_fy c ≤ Y → RP k_mod_serial 60 [(0, .ref 19), (1, .int (nI a)), (2, .int (nI b)), (4, .int (nI (q + q_S c Y))), (5, .int (nI Y))] [] h P := by
  intro r
  induction r with
  | zero =>
    intro Y e h1
    have e : Y = a := e
    subst e
    refine rp_iload (i := 5) d_mod_serial_60 rfl ?_
    refine rp_iload_n (i := 1) d_mod_serial_62 rfl rfl ?_
    refine rp_icmp_ge (tgt := 83) d_mod_serial_63 (by decide) (fun c63 => ?_) (fun c63 => ?_)
    · refine rp_iconst (v := 1) d_mod_serial_83 (by decide) ?_
      refine rp_istore (i := 5) d_mod_serial_84 rfl (Nat.le_of_ble_eq_true rfl) ?_
      refine rp_lv [(0, .ref 19), (1, .int (nI Y)), (2, .int (nI b)), (4, .int (nI (q + q_S c Y + q_cum c Y 1))), (5, .int (nI 1))] rfl ?_
      exact l_mod_serM hc ha hb k (b - 1) 1 (by omega) (by omega)
    · exact absurd (nI_le (Nat.le_refl Y) (by omega)) c63
  | succ r ih =>
    intro Y e h1
    refine rp_iload (i := 5) d_mod_serial_60 rfl ?_
    refine rp_iload_n (i := 1) d_mod_serial_62 rfl rfl ?_
    refine rp_icmp_ge (tgt := 83) d_mod_serial_63 (by decide) (fun c63 => ?_) (fun c63 => ?_)
    · exact absurd c63 (nI_ge (by omega) (by omega))
    · refine rp_iload (i := 4) d_mod_serial_66 rfl ?_
      refine rp_aload_n (i := 0) d_mod_serial_68 rfl rfl ?_
      refine rp_iload (i := 5) d_mod_serial_69 rfl ?_
      refine rp_callV1 d_mod_serial_71 q_mod_serial_203 (Or.inl ⟨_, _, _, rfl, rfl⟩) (Nat.le_of_ble_eq_true rfl) (Nat.le_of_ble_eq_true rfl) ?_
      refine s_mod_daysOfYear hc rfl (by omega) ?_
      refine rp_iadd d_mod_serial_74 ?_
      refine rp_istore (i := 4) d_mod_serial_75 rfl (Nat.le_of_ble_eq_true rfl) ?_
      refine rp_iinc (i := 5) (y := 1) d_mod_serial_77 rfl (by decide) rfl (Nat.le_of_ble_eq_true rfl) ?_
      refine rp_goto (tgt := 60) d_mod_serial_80 (by decide) ?_
      rw [nI_add, Nat.add_assoc, ← q_S_S h1]
      refine rp_lv [(0, .ref 19), (1, .int (nI a)), (2, .int (nI b)), (4, .int (nI (q + q_S c (Y + 1)))), (5, .int (nI (Y + 1)))] (by simp only [← nI_1]; rfl) ?_
      exact ih (Y + 1) (by omega) (by omega)
set_option maxHeartbeats 4000000 in
set_option maxRecDepth 100000 in
theorem s_mod_serial {h : cf_H} {P : Option Value → cf_H → Prop} {c : Bool} (hc : h.1 19 9 = cf_b c) {x y z : Int32} (k : P (some (.int (q_ser c x y z))) h) : RP k_mod_serial 0 [(0, .ref 19), (1, .int x), (2, .int y), (3, .int z)] [] h P := by
  refine rp_iload_n (i := 1) d_mod_serial_0 rfl rfl ?_
  refine rp_aload_n (i := 0) d_mod_serial_1 rfl rfl ?_
  refine rp_callV0 d_mod_serial_2 q_mod_serial_200 (Or.inl ⟨_, _, _, rfl, rfl⟩) (Nat.le_of_ble_eq_true rfl) (Nat.le_of_ble_eq_true rfl) ?_
  refine s_mod_firstYear hc ?_
  refine rp_icmp_lt (tgt := 41) d_mod_serial_5 (by decide) (fun c5 => ?_) (fun c5 => ?_)
  · refine rp_bipush (v := (-3)) d_mod_serial_41 (by decide) ?_
    refine rp_ireturn (ty := .int) d_mod_serial_43 rfl rfl ?_
    rw [q_ser, if_pos (Or.inl c5)] at k
    exact k
  · refine rp_iload_n (i := 1) d_mod_serial_8 rfl rfl ?_
    refine rp_sipush (v := 9999) d_mod_serial_9 (by decide) ?_
    refine rp_icmp_gt (tgt := 41) d_mod_serial_12 (by decide) (fun c12 => ?_) (fun c12 => ?_)
    · refine rp_bipush (v := (-3)) d_mod_serial_41 (by decide) ?_
      refine rp_ireturn (ty := .int) d_mod_serial_43 rfl rfl ?_
      rw [q_ser, if_pos (Or.inr (Or.inl c12))] at k
      exact k
    · refine rp_iload_n (i := 2) d_mod_serial_15 rfl rfl ?_
      refine rp_iconst (v := 1) d_mod_serial_16 (by decide) ?_
      refine rp_icmp_lt (tgt := 41) d_mod_serial_17 (by decide) (fun c17 => ?_) (fun c17 => ?_)
      · refine rp_bipush (v := (-3)) d_mod_serial_41 (by decide) ?_
        refine rp_ireturn (ty := .int) d_mod_serial_43 rfl rfl ?_
        rw [q_ser, if_pos (Or.inr (Or.inr (Or.inl c17)))] at k
        exact k
      · refine rp_iload_n (i := 2) d_mod_serial_20 rfl rfl ?_
        refine rp_bipush (v := 12) d_mod_serial_21 (by decide) ?_
        refine rp_icmp_gt (tgt := 41) d_mod_serial_23 (by decide) (fun c23 => ?_) (fun c23 => ?_)
        · refine rp_bipush (v := (-3)) d_mod_serial_41 (by decide) ?_
          refine rp_ireturn (ty := .int) d_mod_serial_43 rfl rfl ?_
          rw [q_ser, if_pos (Or.inr (Or.inr (Or.inr (Or.inl c23))))] at k
          exact k
        · refine rp_iload_n (i := 3) d_mod_serial_26 rfl rfl ?_
          refine rp_iconst (v := 1) d_mod_serial_27 (by decide) ?_
          refine rp_icmp_lt (tgt := 41) d_mod_serial_28 (by decide) (fun c28 => ?_) (fun c28 => ?_)
          · refine rp_bipush (v := (-3)) d_mod_serial_41 (by decide) ?_
            refine rp_ireturn (ty := .int) d_mod_serial_43 rfl rfl ?_
            rw [q_ser, if_pos (Or.inr (Or.inr (Or.inr (Or.inr (Or.inl c28)))))] at k
            exact k
          · refine rp_iload_n (i := 3) d_mod_serial_31 rfl rfl ?_
            refine rp_aload_n (i := 0) d_mod_serial_32 rfl rfl ?_
            refine rp_iload_n (i := 1) d_mod_serial_33 rfl rfl ?_
            refine rp_iload_n (i := 2) d_mod_serial_34 rfl rfl ?_
            refine rp_callV2 d_mod_serial_35 q_mod_serial_194 (Or.inl ⟨_, _, _, rfl, rfl⟩) (Nat.le_of_ble_eq_true rfl) (Nat.le_of_ble_eq_true rfl) ?_
            have hfy : 1900 ≤ q_fy c := by cases c <;> decide
            have hfy2 : q_fy c ≤ 1904 := by cases c <;> decide
            have hx0 : ¬ x < 0 := fun z => c5 (Int32.lt_of_lt_of_le z (nI_pos' (n := q_fy c) (by omega)))
            obtain ⟨a, ha, rfl⟩ := nI_of hx0
            have hy0 : ¬ y < 0 := fun z => c17 (Int32.lt_trans z (by decide))
            obtain ⟨b, hb, rfl⟩ := nI_of hy0
            have a1 : q_fy c ≤ a := Nat.not_lt.mp (fun z => c5 (nI_lt z (by omega)))
            have a2 : a ≤ 9999 := Nat.not_lt.mp (fun z => c12 (nI_lt (a := 9999) z (by omega)))
            have b1 : 1 ≤ b := Nat.not_lt.mp (fun z => c17 (nI_lt (b := 1) z (by decide)))
            have b2 : b ≤ 12 := Nat.not_lt.mp (fun z => c23 (nI_lt (a := 12) z (by omega)))
            refine s_mod_daysOf hc rfl rfl ha hb ?_
            refine rp_icmp_le (tgt := 44) d_mod_serial_38 (by decide) (fun c38 => ?_) (fun c38 => ?_)
            · refine rp_aload_n (i := 0) d_mod_serial_44 rfl rfl ?_
              refine rp_callV0 d_mod_serial_45 q_mod_serial_197 (Or.inl ⟨_, _, _, rfl, rfl⟩) (Nat.le_of_ble_eq_true rfl) (Nat.le_of_ble_eq_true rfl) ?_
              have hz0 : ¬ z < 0 := fun w => c28 (Int32.lt_trans w (by decide))
              obtain ⟨d, hd, rfl⟩ := nI_of hz0
              have d1 : 1 ≤ d := Nat.not_lt.mp (fun w => c28 (nI_lt (b := 1) w (by decide)))
              refine s_mod_firstSerial hc ?_
              refine rp_iload_n (i := 3) d_mod_serial_48 rfl rfl ?_
              refine rp_iadd d_mod_serial_49 ?_
              refine rp_iconst (v := 1) d_mod_serial_50 (by decide) ?_
              refine rp_isub d_mod_serial_51 ?_
              refine rp_istore (i := 4) d_mod_serial_52 rfl (Nat.le_of_ble_eq_true rfl) ?_
              refine rp_aload_n (i := 0) d_mod_serial_54 rfl rfl ?_
              refine rp_callV0 d_mod_serial_55 q_mod_serial_200 (Or.inl ⟨_, _, _, rfl, rfl⟩) (Nat.le_of_ble_eq_true rfl) (Nat.le_of_ble_eq_true rfl) ?_
              refine s_mod_firstYear hc ?_
              refine rp_istore (i := 5) d_mod_serial_58 rfl (Nat.le_of_ble_eq_true rfl) ?_
              have hg : ¬ (nI a < nI (q_fy c) ∨ 9999 < nI a ∨ nI b < 1 ∨ 12 < nI b ∨ nI d < 1 ∨ nI (q_do c (nI a).toNatClampNeg (nI b).toNatClampNeg) < nI d) := fun w => w.elim c5 (fun w => w.elim c12 (fun w => w.elim c17 (fun w => w.elim c23 (fun w => w.elim c28 (fun w => by rw [nI_clamp ha, nI_clamp hb] at w; exact Int32.not_le.mpr w c38)))))
              rw [q_ser, if_neg hg, nI_clamp ha, nI_clamp hb, nI_clamp hd] at k
              refine rp_lv [(0, .ref 19), (1, .int (nI a)), (2, .int (nI b)), (4, .int (nI (k_lo c + d - 1 + q_S c (q_fy c)))), (5, .int (nI (q_fy c)))] (by rw [q_S_fy, Nat.add_zero, nI_add, show nI (k_lo c + d) - 1 = nI (k_lo c + d - 1) from pk_sub (b := 1) (by omega)]; rfl) ?_
              exact l_mod_serY hc a2 b1 b2 k (a - q_fy c) (q_fy c) (by omega) (Nat.le_refl _)
            · refine rp_bipush (v := (-3)) d_mod_serial_41 (by decide) ?_
              refine rp_ireturn (ty := .int) d_mod_serial_43 rfl rfl ?_
              rw [q_ser, if_pos (Or.inr (Or.inr (Or.inr (Or.inr (Or.inr (by rw [nI_clamp ha, nI_clamp hb]; exact Int32.not_le.mp c38))))))] at k
              exact k
set_option maxHeartbeats 4000000 in
set_option maxRecDepth 100000 in
theorem l_cal_serM {h : cf_H} {P : Option Value → cf_H → Prop} {a b q : Nat} (ha : a ≤ 9999) (hb : b ≤ 12) (k : RP k_cal_serialOf 125 [(0, .ref 12), (5, .int (nI (q + k_cum a b)))] [] h P) : ∀ (r M : Nat), M + r = b → 1 ≤ M → RP k_cal_serialOf 102 [(0, .ref 12), (1, .int (nI a)), (2, .int (nI b)), (5, .int (nI (q + k_cum a M))), (6, .int (nI M))] [] h P := by
  intro r
  induction r with
  | zero =>
    intro M e h1
    have e : M = b := e
    subst e
    refine rp_iload (i := 6) d_cal_serialOf_102 rfl ?_
    refine rp_iload_n (i := 2) d_cal_serialOf_104 rfl rfl ?_
    refine rp_icmp_ge (tgt := 125) d_cal_serialOf_105 (by decide) (fun c105 => ?_) (fun c105 => ?_)
    · refine rp_lv [(0, .ref 12), (5, .int (nI (q + k_cum a M)))] rfl ?_
      exact k
    · exact absurd (nI_le (Nat.le_refl M) (by omega)) c105
  | succ r ih =>
    intro M e h1
    refine rp_iload (i := 6) d_cal_serialOf_102 rfl ?_
    refine rp_iload_n (i := 2) d_cal_serialOf_104 rfl rfl ?_
    refine rp_icmp_ge (tgt := 125) d_cal_serialOf_105 (by decide) (fun c105 => ?_) (fun c105 => ?_)
    · exact absurd c105 (nI_ge (by omega) (by omega))
    · refine rp_iload (i := 5) d_cal_serialOf_108 rfl ?_
      refine rp_iload_n (i := 1) d_cal_serialOf_110 rfl rfl ?_
      refine rp_iload (i := 6) d_cal_serialOf_111 rfl ?_
      refine rp_callS2 d_cal_serialOf_113 q_cal_serialOf_42 (Nat.le_of_ble_eq_true rfl) (Nat.le_of_ble_eq_true rfl) ?_
      refine s_cal_monthLength rfl rfl (by omega) h1 (by omega) ?_
      refine rp_iadd d_cal_serialOf_116 ?_
      refine rp_istore (i := 5) d_cal_serialOf_117 rfl (Nat.le_of_ble_eq_true rfl) ?_
      refine rp_iinc (i := 6) (y := 1) d_cal_serialOf_119 rfl (by decide) rfl (Nat.le_of_ble_eq_true rfl) ?_
      refine rp_goto (tgt := 102) d_cal_serialOf_122 (by decide) ?_
      rw [nI_add, Nat.add_assoc, show k_cum a M + k_ml a M = k_cum a (M + 1) from rfl]
      refine rp_lv [(0, .ref 12), (1, .int (nI a)), (2, .int (nI b)), (5, .int (nI (q + k_cum a (M + 1)))), (6, .int (nI (M + 1)))] (by simp only [← nI_1]; rfl) ?_
      exact ih (M + 1) (by omega) (by omega)
theorem q_ser_p {a b d : Nat} (h1 : 1900 ≤ a) (hb1 : 1 ≤ b) (hb2 : b ≤ 12) (hd1 : 1 ≤ d) (hd2 : d ≤ k_ml a b) : (if k_db a - k_db 1900 + d - 1 + k_cum a b + 1 < 60 then k_db a - k_db 1900 + d - 1 + k_cum a b + 1 else k_db a - k_db 1900 + d - 1 + k_cum a b + 2) = k_lo false + d - 1 + q_S false a + q_cum false a b := by
  rw [q_cum_ml b (by omega)]
  unfold q_S
  show _ = 1 + d - 1 + (k_db a - k_db 1900 + (if false = false ∧ 1900 < a then 1 else 0)) + (k_cum a b + (if false = false ∧ a = 1900 ∧ 3 ≤ b then 1 else 0))
  by_cases ha : a = 1900
  · have hc3 : k_cum 1900 1 = 0 ∧ k_cum 1900 2 = 31 ∧ k_cum 1900 3 = 59 ∧ k_ml 1900 1 = 31 ∧ k_ml 1900 2 = 28 := by decide
    subst ha
    rw [Nat.sub_self]
    rw [if_neg (c := false = false ∧ 1900 < 1900) (by decide)]
    by_cases hm3 : 3 ≤ b
    · have : k_cum 1900 3 ≤ k_cum 1900 b := by
        have := q_cum_mono (c := true) (y := 1900) hm3
        rw [q_cum_ml _ (by omega), q_cum_ml _ (by omega)] at this
        simpa using this
      rw [if_neg (by omega), if_pos ⟨rfl, rfl, hm3⟩]; omega
    · have : b = 1 ∨ b = 2 := by omega
      rw [if_neg (c := false = false ∧ 1900 = 1900 ∧ 3 ≤ b) (fun z => hm3 z.2.2)]
      rcases this with e | e <;> subst e <;> rw [if_pos (by omega)] <;> omega
  · have h59 : k_db 1901 = k_db 1900 + 365 := by decide
    have hmo := k_db_mono (a := 1901) (b := a) (by omega) (by omega)
    generalize k_db 1901 = C at *
    generalize k_db 1900 = B at *
    generalize k_db a = A at *
    rw [if_neg (c := A - B + d - 1 + k_cum a b + 1 < 60) (by omega), if_pos (c := false = false ∧ 1900 < a) ⟨rfl, by omega⟩, if_neg (c := false = false ∧ a = 1900 ∧ 3 ≤ b) (fun z => ha z.2.1)]; omega
theorem q_ser_p4 {a b d : Nat} (hb2 : b ≤ 12) (hd1 : 1 ≤ d) : k_db a - k_db 1904 + d - 1 + k_cum a b = k_lo true + d - 1 + q_S true a + q_cum true a b := by
  rw [q_cum_ml b (by omega)]
  unfold q_S
  rw [if_neg (fun z => absurd z.1 (by decide)), if_neg (fun z => absurd z.1 (by decide))]
  show _ = 0 + d - 1 + (k_db a - k_db 1904 + 0) + (k_cum a b + 0)
  omega

set_option maxHeartbeats 4000000 in
set_option maxRecDepth 100000 in
theorem s_cal_serialOf {h : cf_H} {P : Option Value → cf_H → Prop} {c : Bool} (hc : h.1 12 0 = cf_b c) {x y z : Int32} (k : P (some (.int (q_ser c x y z))) h) : RP k_cal_serialOf 0 [(0, .ref 12), (1, .int x), (2, .int y), (3, .int z)] [] h P := by
  cases c with
  | true =>
    refine rp_aload_n (i := 0) d_cal_serialOf_0 rfl rfl ?_
    refine rp_getI d_cal_serialOf_1 f_cal_9 rfl ?_
    refine rp_if_eq (tgt := 13) d_cal_serialOf_4 (by decide) (fun c4 => ?_) (fun c4 => ?_)
    · exact absurd (hc.symm.trans c4) (by decide)
    · refine rp_sipush (v := 1904) d_cal_serialOf_7 (by decide) ?_
      refine rp_goto (tgt := 16) d_cal_serialOf_10 (by decide) ?_
      refine rp_istore (i := 4) d_cal_serialOf_16 rfl (Nat.le_of_ble_eq_true rfl) ?_
      refine rp_iload_n (i := 1) d_cal_serialOf_18 rfl rfl ?_
      refine rp_iload (i := 4) d_cal_serialOf_19 rfl ?_
      refine rp_icmp_lt (tgt := 42) d_cal_serialOf_21 (by decide) (fun c21 => ?_) (fun c21 => ?_)
      · refine rp_bipush (v := (-3)) d_cal_serialOf_42 (by decide) ?_
        refine rp_ireturn (ty := .int) d_cal_serialOf_44 rfl rfl ?_
        rw [q_ser, if_pos (Or.inl (show x < nI (q_fy true) from c21))] at k
        exact k
      · refine rp_iload_n (i := 1) d_cal_serialOf_24 rfl rfl ?_
        refine rp_sipush (v := 9999) d_cal_serialOf_25 (by decide) ?_
        refine rp_icmp_gt (tgt := 42) d_cal_serialOf_28 (by decide) (fun c28 => ?_) (fun c28 => ?_)
        · refine rp_bipush (v := (-3)) d_cal_serialOf_42 (by decide) ?_
          refine rp_ireturn (ty := .int) d_cal_serialOf_44 rfl rfl ?_
          rw [q_ser, if_pos (Or.inr (Or.inl c28))] at k
          exact k
        · refine rp_iload_n (i := 2) d_cal_serialOf_31 rfl rfl ?_
          refine rp_iconst (v := 1) d_cal_serialOf_32 (by decide) ?_
          refine rp_icmp_lt (tgt := 42) d_cal_serialOf_33 (by decide) (fun c33 => ?_) (fun c33 => ?_)
          · refine rp_bipush (v := (-3)) d_cal_serialOf_42 (by decide) ?_
            refine rp_ireturn (ty := .int) d_cal_serialOf_44 rfl rfl ?_
            rw [q_ser, if_pos (Or.inr (Or.inr (Or.inl c33)))] at k
            exact k
          · refine rp_iload_n (i := 2) d_cal_serialOf_36 rfl rfl ?_
            refine rp_bipush (v := 12) d_cal_serialOf_37 (by decide) ?_
            refine rp_icmp_le (tgt := 45) d_cal_serialOf_39 (by decide) (fun c39 => ?_) (fun c39 => ?_)
            · refine rp_iload_n (i := 1) d_cal_serialOf_45 rfl rfl ?_
              refine rp_sipush (v := 1900) d_cal_serialOf_46 (by decide) ?_
              refine rp_icmp_ne (tgt := 66) d_cal_serialOf_49 (by decide) (fun c49 => ?_) (fun c49 => ?_)
              · refine rp_iload_n (i := 3) d_cal_serialOf_66 rfl rfl ?_
                refine rp_iconst (v := 1) d_cal_serialOf_67 (by decide) ?_
                refine rp_icmp_lt (tgt := 80) d_cal_serialOf_68 (by decide) (fun c68 => ?_) (fun c68 => ?_)
                · refine rp_bipush (v := (-3)) d_cal_serialOf_80 (by decide) ?_
                  refine rp_ireturn (ty := .int) d_cal_serialOf_82 rfl rfl ?_
                  rw [q_ser, if_pos (Or.inr (Or.inr (Or.inr (Or.inr (Or.inl c68)))))] at k
                  exact k
                · refine rp_iload_n (i := 3) d_cal_serialOf_71 rfl rfl ?_
                  refine rp_iload_n (i := 1) d_cal_serialOf_72 rfl rfl ?_
                  refine rp_iload_n (i := 2) d_cal_serialOf_73 rfl rfl ?_
                  refine rp_callS2 d_cal_serialOf_74 q_cal_serialOf_42 (Nat.le_of_ble_eq_true rfl) (Nat.le_of_ble_eq_true rfl) ?_
                  have c21 : ¬ x < nI (q_fy true) := c21
                  have hfy : 1900 ≤ q_fy true := by decide
                  have hfy2 : q_fy true ≤ 1904 := by decide
                  have hx0 : ¬ x < 0 := fun z => c21 (Int32.lt_of_lt_of_le z (nI_pos' (n := q_fy true) (by omega)))
                  obtain ⟨a, ha, rfl⟩ := nI_of hx0
                  have hy0 : ¬ y < 0 := fun z => c33 (Int32.lt_trans z (by decide))
                  obtain ⟨b, hb, rfl⟩ := nI_of hy0
                  have a1 : q_fy true ≤ a := Nat.not_lt.mp (fun z => c21 (nI_lt z (by omega)))
                  have a2 : a ≤ 9999 := Nat.not_lt.mp (fun z => c28 (nI_lt (a := 9999) z (by omega)))
                  have b1 : 1 ≤ b := Nat.not_lt.mp (fun z => c33 (nI_lt (b := 1) z (by decide)))
                  have b2 : b ≤ 12 := Nat.not_lt.mp (fun z => Int32.not_le.mpr (nI_lt (a := 12) z (by omega)) c39)
                  have hz0 : ¬ z < 0 := fun w => c68 (Int32.lt_trans w (by decide))
                  obtain ⟨d, hd, rfl⟩ := nI_of hz0
                  have d1 : 1 ≤ d := Nat.not_lt.mp (fun w => c68 (nI_lt (b := 1) w (by decide)))
                  have hml := k_ml_le (y := a) (m := b) (by omega)
                  have hqd := q_do_le true a b
                  have hdo := q_do_ml (c := true) (y := a) b1 b2
                  refine s_cal_monthLength rfl rfl (by omega) b1 b2 ?_
                  refine rp_icmp_le (tgt := 83) d_cal_serialOf_77 (by decide) (fun c77 => ?_) (fun c77 => ?_)
                  · refine rp_iload_n (i := 1) d_cal_serialOf_83 rfl rfl ?_
                    refine rp_callS1 d_cal_serialOf_84 q_cal_serialOf_25 (Nat.le_of_ble_eq_true rfl) (Nat.le_of_ble_eq_true rfl) ?_
                    replace c77 : d ≤ k_ml a b := (nI_leI hd (by omega)).mp c77
                    refine s_cal_daysBeforeYear rfl (by omega) (by omega) ?_
                    refine rp_iload (i := 4) d_cal_serialOf_87 rfl ?_
                    refine rp_callS1 d_cal_serialOf_89 q_cal_serialOf_25 (Nat.le_of_ble_eq_true rfl) (Nat.le_of_ble_eq_true rfl) ?_
                    refine s_cal_daysBeforeYear (y := q_fy true) rfl (by decide) (by decide) ?_
                    refine rp_isub d_cal_serialOf_92 ?_
                    refine rp_iload_n (i := 3) d_cal_serialOf_93 rfl rfl ?_
                    refine rp_iadd d_cal_serialOf_94 ?_
                    refine rp_iconst (v := 1) d_cal_serialOf_95 (by decide) ?_
                    refine rp_isub d_cal_serialOf_96 ?_
                    refine rp_istore (i := 5) d_cal_serialOf_97 rfl (Nat.le_of_ble_eq_true rfl) ?_
                    refine rp_iconst (v := 1) d_cal_serialOf_99 (by decide) ?_
                    refine rp_istore (i := 6) d_cal_serialOf_100 rfl (Nat.le_of_ble_eq_true rfl) ?_
                    have hmo := k_db_mono (a := q_fy true) (b := a) (by decide) a1
                    have hg : ¬ (nI a < nI (q_fy true) ∨ 9999 < nI a ∨ nI b < 1 ∨ 12 < nI b ∨ nI d < 1 ∨ nI (q_do true (nI a).toNatClampNeg (nI b).toNatClampNeg) < nI d) := fun w => w.elim c21 (fun w => w.elim c28 (fun w => w.elim c33 (fun w => w.elim (fun w => Int32.not_le.mpr w c39) (fun w => w.elim c68 (fun w => by rw [nI_clamp ha, nI_clamp hb] at w; exact absurd (nI_le (show d ≤ q_do true a b by omega) (by omega)) (Int32.not_le.mpr w))))))
                    rw [q_ser, if_neg hg, nI_clamp ha, nI_clamp hb, nI_clamp hd] at k
                    have hval : nI (k_db a) - nI (k_db (q_fy true)) + nI d - 1 = nI (k_db a - k_db (q_fy true) + d - 1 + k_cum a 1) := by
                      rw [show k_cum a 1 = 0 from by unfold k_cum; unfold k_cum k_ml; simp [k_mm], Nat.add_zero, pk_sub hmo, nI_add]; exact pk_sub (b := 1) (by omega)
                    refine rp_lv [(0, .ref 12), (1, .int (nI a)), (2, .int (nI b)), (5, .int (nI (k_db a - k_db (q_fy true) + d - 1 + k_cum a 1))), (6, .int (nI 1))] (by rw [← hval]; rfl) ?_
                    refine l_cal_serM a2 b2 ?_ (b - 1) 1 (by omega) (by omega)
                    refine rp_aload_n (i := 0) d_cal_serialOf_125 rfl rfl ?_
                    refine rp_getI d_cal_serialOf_126 f_cal_9 rfl ?_
                    refine rp_if_eq (tgt := 135) d_cal_serialOf_129 (by decide) (fun c129 => ?_) (fun c129 => ?_)
                    · exact absurd (hc.symm.trans c129) (by decide)
                    · refine rp_iload (i := 5) d_cal_serialOf_132 rfl ?_
                      refine rp_ireturn (ty := .int) d_cal_serialOf_134 rfl rfl ?_
                      rw [← q_ser_p4 b2 d1] at k
                      exact k
                  · refine rp_bipush (v := (-3)) d_cal_serialOf_80 (by decide) ?_
                    refine rp_ireturn (ty := .int) d_cal_serialOf_82 rfl rfl ?_
                    have hne : ¬ (a = 1900 ∧ b = 2 ∧ d = 29) := fun z => c49 (by rw [z.1]; rfl)
                    replace c77 : ¬ d ≤ k_ml a b := fun z => c77 (nI_le z (by omega))
                    have hlt : q_do true a b < d := by
                      rw [hdo]
                      simp; omega
                    rw [q_ser, if_pos (Or.inr (Or.inr (Or.inr (Or.inr (Or.inr (by rw [nI_clamp ha, nI_clamp hb]; exact nI_lt hlt hd))))))] at k
                    exact k
              · refine rp_iload_n (i := 2) d_cal_serialOf_52 rfl rfl ?_
                refine rp_iconst (v := 2) d_cal_serialOf_53 (by decide) ?_
                refine rp_icmp_ne (tgt := 66) d_cal_serialOf_54 (by decide) (fun c54 => ?_) (fun c54 => ?_)
                · refine rp_iload_n (i := 3) d_cal_serialOf_66 rfl rfl ?_
                  refine rp_iconst (v := 1) d_cal_serialOf_67 (by decide) ?_
                  refine rp_icmp_lt (tgt := 80) d_cal_serialOf_68 (by decide) (fun c68 => ?_) (fun c68 => ?_)
                  · refine rp_bipush (v := (-3)) d_cal_serialOf_80 (by decide) ?_
                    refine rp_ireturn (ty := .int) d_cal_serialOf_82 rfl rfl ?_
                    rw [q_ser, if_pos (Or.inr (Or.inr (Or.inr (Or.inr (Or.inl c68)))))] at k
                    exact k
                  · refine rp_iload_n (i := 3) d_cal_serialOf_71 rfl rfl ?_
                    refine rp_iload_n (i := 1) d_cal_serialOf_72 rfl rfl ?_
                    refine rp_iload_n (i := 2) d_cal_serialOf_73 rfl rfl ?_
                    refine rp_callS2 d_cal_serialOf_74 q_cal_serialOf_42 (Nat.le_of_ble_eq_true rfl) (Nat.le_of_ble_eq_true rfl) ?_
                    have c21 : ¬ x < nI (q_fy true) := c21
                    have hfy : 1900 ≤ q_fy true := by decide
                    have hfy2 : q_fy true ≤ 1904 := by decide
                    have hx0 : ¬ x < 0 := fun z => c21 (Int32.lt_of_lt_of_le z (nI_pos' (n := q_fy true) (by omega)))
                    obtain ⟨a, ha, rfl⟩ := nI_of hx0
                    have hy0 : ¬ y < 0 := fun z => c33 (Int32.lt_trans z (by decide))
                    obtain ⟨b, hb, rfl⟩ := nI_of hy0
                    have a1 : q_fy true ≤ a := Nat.not_lt.mp (fun z => c21 (nI_lt z (by omega)))
                    have a2 : a ≤ 9999 := Nat.not_lt.mp (fun z => c28 (nI_lt (a := 9999) z (by omega)))
                    have b1 : 1 ≤ b := Nat.not_lt.mp (fun z => c33 (nI_lt (b := 1) z (by decide)))
                    have b2 : b ≤ 12 := Nat.not_lt.mp (fun z => Int32.not_le.mpr (nI_lt (a := 12) z (by omega)) c39)
                    have hz0 : ¬ z < 0 := fun w => c68 (Int32.lt_trans w (by decide))
                    obtain ⟨d, hd, rfl⟩ := nI_of hz0
                    have d1 : 1 ≤ d := Nat.not_lt.mp (fun w => c68 (nI_lt (b := 1) w (by decide)))
                    have hml := k_ml_le (y := a) (m := b) (by omega)
                    have hqd := q_do_le true a b
                    have hdo := q_do_ml (c := true) (y := a) b1 b2
                    refine s_cal_monthLength rfl rfl (by omega) b1 b2 ?_
                    refine rp_icmp_le (tgt := 83) d_cal_serialOf_77 (by decide) (fun c77 => ?_) (fun c77 => ?_)
                    · refine rp_iload_n (i := 1) d_cal_serialOf_83 rfl rfl ?_
                      refine rp_callS1 d_cal_serialOf_84 q_cal_serialOf_25 (Nat.le_of_ble_eq_true rfl) (Nat.le_of_ble_eq_true rfl) ?_
                      replace c77 : d ≤ k_ml a b := (nI_leI hd (by omega)).mp c77
                      refine s_cal_daysBeforeYear rfl (by omega) (by omega) ?_
                      refine rp_iload (i := 4) d_cal_serialOf_87 rfl ?_
                      refine rp_callS1 d_cal_serialOf_89 q_cal_serialOf_25 (Nat.le_of_ble_eq_true rfl) (Nat.le_of_ble_eq_true rfl) ?_
                      refine s_cal_daysBeforeYear (y := q_fy true) rfl (by decide) (by decide) ?_
                      refine rp_isub d_cal_serialOf_92 ?_
                      refine rp_iload_n (i := 3) d_cal_serialOf_93 rfl rfl ?_
                      refine rp_iadd d_cal_serialOf_94 ?_
                      refine rp_iconst (v := 1) d_cal_serialOf_95 (by decide) ?_
                      refine rp_isub d_cal_serialOf_96 ?_
                      refine rp_istore (i := 5) d_cal_serialOf_97 rfl (Nat.le_of_ble_eq_true rfl) ?_
                      refine rp_iconst (v := 1) d_cal_serialOf_99 (by decide) ?_
                      refine rp_istore (i := 6) d_cal_serialOf_100 rfl (Nat.le_of_ble_eq_true rfl) ?_
                      have hmo := k_db_mono (a := q_fy true) (b := a) (by decide) a1
                      have hg : ¬ (nI a < nI (q_fy true) ∨ 9999 < nI a ∨ nI b < 1 ∨ 12 < nI b ∨ nI d < 1 ∨ nI (q_do true (nI a).toNatClampNeg (nI b).toNatClampNeg) < nI d) := fun w => w.elim c21 (fun w => w.elim c28 (fun w => w.elim c33 (fun w => w.elim (fun w => Int32.not_le.mpr w c39) (fun w => w.elim c68 (fun w => by rw [nI_clamp ha, nI_clamp hb] at w; exact absurd (nI_le (show d ≤ q_do true a b by omega) (by omega)) (Int32.not_le.mpr w))))))
                      rw [q_ser, if_neg hg, nI_clamp ha, nI_clamp hb, nI_clamp hd] at k
                      have hval : nI (k_db a) - nI (k_db (q_fy true)) + nI d - 1 = nI (k_db a - k_db (q_fy true) + d - 1 + k_cum a 1) := by
                        rw [show k_cum a 1 = 0 from by unfold k_cum; unfold k_cum k_ml; simp [k_mm], Nat.add_zero, pk_sub hmo, nI_add]; exact pk_sub (b := 1) (by omega)
                      refine rp_lv [(0, .ref 12), (1, .int (nI a)), (2, .int (nI b)), (5, .int (nI (k_db a - k_db (q_fy true) + d - 1 + k_cum a 1))), (6, .int (nI 1))] (by rw [← hval]; rfl) ?_
                      refine l_cal_serM a2 b2 ?_ (b - 1) 1 (by omega) (by omega)
                      refine rp_aload_n (i := 0) d_cal_serialOf_125 rfl rfl ?_
                      refine rp_getI d_cal_serialOf_126 f_cal_9 rfl ?_
                      refine rp_if_eq (tgt := 135) d_cal_serialOf_129 (by decide) (fun c129 => ?_) (fun c129 => ?_)
                      · exact absurd (hc.symm.trans c129) (by decide)
                      · refine rp_iload (i := 5) d_cal_serialOf_132 rfl ?_
                        refine rp_ireturn (ty := .int) d_cal_serialOf_134 rfl rfl ?_
                        rw [← q_ser_p4 b2 d1] at k
                        exact k
                    · refine rp_bipush (v := (-3)) d_cal_serialOf_80 (by decide) ?_
                      refine rp_ireturn (ty := .int) d_cal_serialOf_82 rfl rfl ?_
                      have hne : ¬ (a = 1900 ∧ b = 2 ∧ d = 29) := fun z => c54 (by rw [z.2.1]; rfl)
                      replace c77 : ¬ d ≤ k_ml a b := fun z => c77 (nI_le z (by omega))
                      have hlt : q_do true a b < d := by
                        rw [hdo]
                        simp; omega
                      rw [q_ser, if_pos (Or.inr (Or.inr (Or.inr (Or.inr (Or.inr (by rw [nI_clamp ha, nI_clamp hb]; exact nI_lt hlt hd))))))] at k
                      exact k
                · refine rp_iload_n (i := 3) d_cal_serialOf_57 rfl rfl ?_
                  refine rp_bipush (v := 29) d_cal_serialOf_58 (by decide) ?_
                  refine rp_icmp_ne (tgt := 66) d_cal_serialOf_60 (by decide) (fun c60 => ?_) (fun c60 => ?_)
                  · refine rp_iload_n (i := 3) d_cal_serialOf_66 rfl rfl ?_
                    refine rp_iconst (v := 1) d_cal_serialOf_67 (by decide) ?_
                    refine rp_icmp_lt (tgt := 80) d_cal_serialOf_68 (by decide) (fun c68 => ?_) (fun c68 => ?_)
                    · refine rp_bipush (v := (-3)) d_cal_serialOf_80 (by decide) ?_
                      refine rp_ireturn (ty := .int) d_cal_serialOf_82 rfl rfl ?_
                      rw [q_ser, if_pos (Or.inr (Or.inr (Or.inr (Or.inr (Or.inl c68)))))] at k
                      exact k
                    · refine rp_iload_n (i := 3) d_cal_serialOf_71 rfl rfl ?_
                      refine rp_iload_n (i := 1) d_cal_serialOf_72 rfl rfl ?_
                      refine rp_iload_n (i := 2) d_cal_serialOf_73 rfl rfl ?_
                      refine rp_callS2 d_cal_serialOf_74 q_cal_serialOf_42 (Nat.le_of_ble_eq_true rfl) (Nat.le_of_ble_eq_true rfl) ?_
                      have c21 : ¬ x < nI (q_fy true) := c21
                      have hfy : 1900 ≤ q_fy true := by decide
                      have hfy2 : q_fy true ≤ 1904 := by decide
                      have hx0 : ¬ x < 0 := fun z => c21 (Int32.lt_of_lt_of_le z (nI_pos' (n := q_fy true) (by omega)))
                      obtain ⟨a, ha, rfl⟩ := nI_of hx0
                      have hy0 : ¬ y < 0 := fun z => c33 (Int32.lt_trans z (by decide))
                      obtain ⟨b, hb, rfl⟩ := nI_of hy0
                      have a1 : q_fy true ≤ a := Nat.not_lt.mp (fun z => c21 (nI_lt z (by omega)))
                      have a2 : a ≤ 9999 := Nat.not_lt.mp (fun z => c28 (nI_lt (a := 9999) z (by omega)))
                      have b1 : 1 ≤ b := Nat.not_lt.mp (fun z => c33 (nI_lt (b := 1) z (by decide)))
                      have b2 : b ≤ 12 := Nat.not_lt.mp (fun z => Int32.not_le.mpr (nI_lt (a := 12) z (by omega)) c39)
                      have hz0 : ¬ z < 0 := fun w => c68 (Int32.lt_trans w (by decide))
                      obtain ⟨d, hd, rfl⟩ := nI_of hz0
                      have d1 : 1 ≤ d := Nat.not_lt.mp (fun w => c68 (nI_lt (b := 1) w (by decide)))
                      have hml := k_ml_le (y := a) (m := b) (by omega)
                      have hqd := q_do_le true a b
                      have hdo := q_do_ml (c := true) (y := a) b1 b2
                      refine s_cal_monthLength rfl rfl (by omega) b1 b2 ?_
                      refine rp_icmp_le (tgt := 83) d_cal_serialOf_77 (by decide) (fun c77 => ?_) (fun c77 => ?_)
                      · refine rp_iload_n (i := 1) d_cal_serialOf_83 rfl rfl ?_
                        refine rp_callS1 d_cal_serialOf_84 q_cal_serialOf_25 (Nat.le_of_ble_eq_true rfl) (Nat.le_of_ble_eq_true rfl) ?_
                        replace c77 : d ≤ k_ml a b := (nI_leI hd (by omega)).mp c77
                        refine s_cal_daysBeforeYear rfl (by omega) (by omega) ?_
                        refine rp_iload (i := 4) d_cal_serialOf_87 rfl ?_
                        refine rp_callS1 d_cal_serialOf_89 q_cal_serialOf_25 (Nat.le_of_ble_eq_true rfl) (Nat.le_of_ble_eq_true rfl) ?_
                        refine s_cal_daysBeforeYear (y := q_fy true) rfl (by decide) (by decide) ?_
                        refine rp_isub d_cal_serialOf_92 ?_
                        refine rp_iload_n (i := 3) d_cal_serialOf_93 rfl rfl ?_
                        refine rp_iadd d_cal_serialOf_94 ?_
                        refine rp_iconst (v := 1) d_cal_serialOf_95 (by decide) ?_
                        refine rp_isub d_cal_serialOf_96 ?_
                        refine rp_istore (i := 5) d_cal_serialOf_97 rfl (Nat.le_of_ble_eq_true rfl) ?_
                        refine rp_iconst (v := 1) d_cal_serialOf_99 (by decide) ?_
                        refine rp_istore (i := 6) d_cal_serialOf_100 rfl (Nat.le_of_ble_eq_true rfl) ?_
                        have hmo := k_db_mono (a := q_fy true) (b := a) (by decide) a1
                        have hg : ¬ (nI a < nI (q_fy true) ∨ 9999 < nI a ∨ nI b < 1 ∨ 12 < nI b ∨ nI d < 1 ∨ nI (q_do true (nI a).toNatClampNeg (nI b).toNatClampNeg) < nI d) := fun w => w.elim c21 (fun w => w.elim c28 (fun w => w.elim c33 (fun w => w.elim (fun w => Int32.not_le.mpr w c39) (fun w => w.elim c68 (fun w => by rw [nI_clamp ha, nI_clamp hb] at w; exact absurd (nI_le (show d ≤ q_do true a b by omega) (by omega)) (Int32.not_le.mpr w))))))
                        rw [q_ser, if_neg hg, nI_clamp ha, nI_clamp hb, nI_clamp hd] at k
                        have hval : nI (k_db a) - nI (k_db (q_fy true)) + nI d - 1 = nI (k_db a - k_db (q_fy true) + d - 1 + k_cum a 1) := by
                          rw [show k_cum a 1 = 0 from by unfold k_cum; unfold k_cum k_ml; simp [k_mm], Nat.add_zero, pk_sub hmo, nI_add]; exact pk_sub (b := 1) (by omega)
                        refine rp_lv [(0, .ref 12), (1, .int (nI a)), (2, .int (nI b)), (5, .int (nI (k_db a - k_db (q_fy true) + d - 1 + k_cum a 1))), (6, .int (nI 1))] (by rw [← hval]; rfl) ?_
                        refine l_cal_serM a2 b2 ?_ (b - 1) 1 (by omega) (by omega)
                        refine rp_aload_n (i := 0) d_cal_serialOf_125 rfl rfl ?_
                        refine rp_getI d_cal_serialOf_126 f_cal_9 rfl ?_
                        refine rp_if_eq (tgt := 135) d_cal_serialOf_129 (by decide) (fun c129 => ?_) (fun c129 => ?_)
                        · exact absurd (hc.symm.trans c129) (by decide)
                        · refine rp_iload (i := 5) d_cal_serialOf_132 rfl ?_
                          refine rp_ireturn (ty := .int) d_cal_serialOf_134 rfl rfl ?_
                          rw [← q_ser_p4 b2 d1] at k
                          exact k
                      · refine rp_bipush (v := (-3)) d_cal_serialOf_80 (by decide) ?_
                        refine rp_ireturn (ty := .int) d_cal_serialOf_82 rfl rfl ?_
                        have hne : ¬ (a = 1900 ∧ b = 2 ∧ d = 29) := fun z => c60 (by rw [z.2.2]; rfl)
                        replace c77 : ¬ d ≤ k_ml a b := fun z => c77 (nI_le z (by omega))
                        have hlt : q_do true a b < d := by
                          rw [hdo]
                          simp; omega
                        rw [q_ser, if_pos (Or.inr (Or.inr (Or.inr (Or.inr (Or.inr (by rw [nI_clamp ha, nI_clamp hb]; exact nI_lt hlt hd))))))] at k
                        exact k
                  · refine rp_bipush (v := 60) d_cal_serialOf_63 (by decide) ?_
                    refine rp_ireturn (ty := .int) d_cal_serialOf_65 rfl rfl ?_
                    subst c49; subst c54; subst c60
                    exact absurd (by decide) c21
            · refine rp_bipush (v := (-3)) d_cal_serialOf_42 (by decide) ?_
              refine rp_ireturn (ty := .int) d_cal_serialOf_44 rfl rfl ?_
              rw [q_ser, if_pos (Or.inr (Or.inr (Or.inr (Or.inl (Int32.not_le.mp c39)))))] at k
              exact k
  | false =>
    refine rp_aload_n (i := 0) d_cal_serialOf_0 rfl rfl ?_
    refine rp_getI d_cal_serialOf_1 f_cal_9 rfl ?_
    refine rp_if_eq (tgt := 13) d_cal_serialOf_4 (by decide) (fun c4 => ?_) (fun c4 => ?_)
    · refine rp_sipush (v := 1900) d_cal_serialOf_13 (by decide) ?_
      refine rp_istore (i := 4) d_cal_serialOf_16 rfl (Nat.le_of_ble_eq_true rfl) ?_
      refine rp_iload_n (i := 1) d_cal_serialOf_18 rfl rfl ?_
      refine rp_iload (i := 4) d_cal_serialOf_19 rfl ?_
      refine rp_icmp_lt (tgt := 42) d_cal_serialOf_21 (by decide) (fun c21 => ?_) (fun c21 => ?_)
      · refine rp_bipush (v := (-3)) d_cal_serialOf_42 (by decide) ?_
        refine rp_ireturn (ty := .int) d_cal_serialOf_44 rfl rfl ?_
        rw [q_ser, if_pos (Or.inl (show x < nI (q_fy false) from c21))] at k
        exact k
      · refine rp_iload_n (i := 1) d_cal_serialOf_24 rfl rfl ?_
        refine rp_sipush (v := 9999) d_cal_serialOf_25 (by decide) ?_
        refine rp_icmp_gt (tgt := 42) d_cal_serialOf_28 (by decide) (fun c28 => ?_) (fun c28 => ?_)
        · refine rp_bipush (v := (-3)) d_cal_serialOf_42 (by decide) ?_
          refine rp_ireturn (ty := .int) d_cal_serialOf_44 rfl rfl ?_
          rw [q_ser, if_pos (Or.inr (Or.inl c28))] at k
          exact k
        · refine rp_iload_n (i := 2) d_cal_serialOf_31 rfl rfl ?_
          refine rp_iconst (v := 1) d_cal_serialOf_32 (by decide) ?_
          refine rp_icmp_lt (tgt := 42) d_cal_serialOf_33 (by decide) (fun c33 => ?_) (fun c33 => ?_)
          · refine rp_bipush (v := (-3)) d_cal_serialOf_42 (by decide) ?_
            refine rp_ireturn (ty := .int) d_cal_serialOf_44 rfl rfl ?_
            rw [q_ser, if_pos (Or.inr (Or.inr (Or.inl c33)))] at k
            exact k
          · refine rp_iload_n (i := 2) d_cal_serialOf_36 rfl rfl ?_
            refine rp_bipush (v := 12) d_cal_serialOf_37 (by decide) ?_
            refine rp_icmp_le (tgt := 45) d_cal_serialOf_39 (by decide) (fun c39 => ?_) (fun c39 => ?_)
            · refine rp_iload_n (i := 1) d_cal_serialOf_45 rfl rfl ?_
              refine rp_sipush (v := 1900) d_cal_serialOf_46 (by decide) ?_
              refine rp_icmp_ne (tgt := 66) d_cal_serialOf_49 (by decide) (fun c49 => ?_) (fun c49 => ?_)
              · refine rp_iload_n (i := 3) d_cal_serialOf_66 rfl rfl ?_
                refine rp_iconst (v := 1) d_cal_serialOf_67 (by decide) ?_
                refine rp_icmp_lt (tgt := 80) d_cal_serialOf_68 (by decide) (fun c68 => ?_) (fun c68 => ?_)
                · refine rp_bipush (v := (-3)) d_cal_serialOf_80 (by decide) ?_
                  refine rp_ireturn (ty := .int) d_cal_serialOf_82 rfl rfl ?_
                  rw [q_ser, if_pos (Or.inr (Or.inr (Or.inr (Or.inr (Or.inl c68)))))] at k
                  exact k
                · refine rp_iload_n (i := 3) d_cal_serialOf_71 rfl rfl ?_
                  refine rp_iload_n (i := 1) d_cal_serialOf_72 rfl rfl ?_
                  refine rp_iload_n (i := 2) d_cal_serialOf_73 rfl rfl ?_
                  refine rp_callS2 d_cal_serialOf_74 q_cal_serialOf_42 (Nat.le_of_ble_eq_true rfl) (Nat.le_of_ble_eq_true rfl) ?_
                  have c21 : ¬ x < nI (q_fy false) := c21
                  have hfy : 1900 ≤ q_fy false := by decide
                  have hfy2 : q_fy false ≤ 1904 := by decide
                  have hx0 : ¬ x < 0 := fun z => c21 (Int32.lt_of_lt_of_le z (nI_pos' (n := q_fy false) (by omega)))
                  obtain ⟨a, ha, rfl⟩ := nI_of hx0
                  have hy0 : ¬ y < 0 := fun z => c33 (Int32.lt_trans z (by decide))
                  obtain ⟨b, hb, rfl⟩ := nI_of hy0
                  have a1 : q_fy false ≤ a := Nat.not_lt.mp (fun z => c21 (nI_lt z (by omega)))
                  have a2 : a ≤ 9999 := Nat.not_lt.mp (fun z => c28 (nI_lt (a := 9999) z (by omega)))
                  have b1 : 1 ≤ b := Nat.not_lt.mp (fun z => c33 (nI_lt (b := 1) z (by decide)))
                  have b2 : b ≤ 12 := Nat.not_lt.mp (fun z => Int32.not_le.mpr (nI_lt (a := 12) z (by omega)) c39)
                  have hz0 : ¬ z < 0 := fun w => c68 (Int32.lt_trans w (by decide))
                  obtain ⟨d, hd, rfl⟩ := nI_of hz0
                  have d1 : 1 ≤ d := Nat.not_lt.mp (fun w => c68 (nI_lt (b := 1) w (by decide)))
                  have hml := k_ml_le (y := a) (m := b) (by omega)
                  have hqd := q_do_le false a b
                  have hdo := q_do_ml (c := false) (y := a) b1 b2
                  refine s_cal_monthLength rfl rfl (by omega) b1 b2 ?_
                  refine rp_icmp_le (tgt := 83) d_cal_serialOf_77 (by decide) (fun c77 => ?_) (fun c77 => ?_)
                  · refine rp_iload_n (i := 1) d_cal_serialOf_83 rfl rfl ?_
                    refine rp_callS1 d_cal_serialOf_84 q_cal_serialOf_25 (Nat.le_of_ble_eq_true rfl) (Nat.le_of_ble_eq_true rfl) ?_
                    replace c77 : d ≤ k_ml a b := (nI_leI hd (by omega)).mp c77
                    refine s_cal_daysBeforeYear rfl (by omega) (by omega) ?_
                    refine rp_iload (i := 4) d_cal_serialOf_87 rfl ?_
                    refine rp_callS1 d_cal_serialOf_89 q_cal_serialOf_25 (Nat.le_of_ble_eq_true rfl) (Nat.le_of_ble_eq_true rfl) ?_
                    refine s_cal_daysBeforeYear (y := q_fy false) rfl (by decide) (by decide) ?_
                    refine rp_isub d_cal_serialOf_92 ?_
                    refine rp_iload_n (i := 3) d_cal_serialOf_93 rfl rfl ?_
                    refine rp_iadd d_cal_serialOf_94 ?_
                    refine rp_iconst (v := 1) d_cal_serialOf_95 (by decide) ?_
                    refine rp_isub d_cal_serialOf_96 ?_
                    refine rp_istore (i := 5) d_cal_serialOf_97 rfl (Nat.le_of_ble_eq_true rfl) ?_
                    refine rp_iconst (v := 1) d_cal_serialOf_99 (by decide) ?_
                    refine rp_istore (i := 6) d_cal_serialOf_100 rfl (Nat.le_of_ble_eq_true rfl) ?_
                    have hmo := k_db_mono (a := q_fy false) (b := a) (by decide) a1
                    have hg : ¬ (nI a < nI (q_fy false) ∨ 9999 < nI a ∨ nI b < 1 ∨ 12 < nI b ∨ nI d < 1 ∨ nI (q_do false (nI a).toNatClampNeg (nI b).toNatClampNeg) < nI d) := fun w => w.elim c21 (fun w => w.elim c28 (fun w => w.elim c33 (fun w => w.elim (fun w => Int32.not_le.mpr w c39) (fun w => w.elim c68 (fun w => by rw [nI_clamp ha, nI_clamp hb] at w; exact absurd (nI_le (show d ≤ q_do false a b by omega) (by omega)) (Int32.not_le.mpr w))))))
                    rw [q_ser, if_neg hg, nI_clamp ha, nI_clamp hb, nI_clamp hd] at k
                    have hval : nI (k_db a) - nI (k_db (q_fy false)) + nI d - 1 = nI (k_db a - k_db (q_fy false) + d - 1 + k_cum a 1) := by
                      rw [show k_cum a 1 = 0 from by unfold k_cum; unfold k_cum k_ml; simp [k_mm], Nat.add_zero, pk_sub hmo, nI_add]; exact pk_sub (b := 1) (by omega)
                    refine rp_lv [(0, .ref 12), (1, .int (nI a)), (2, .int (nI b)), (5, .int (nI (k_db a - k_db (q_fy false) + d - 1 + k_cum a 1))), (6, .int (nI 1))] (by rw [← hval]; rfl) ?_
                    refine l_cal_serM a2 b2 ?_ (b - 1) 1 (by omega) (by omega)
                    refine rp_aload_n (i := 0) d_cal_serialOf_125 rfl rfl ?_
                    refine rp_getI d_cal_serialOf_126 f_cal_9 rfl ?_
                    refine rp_if_eq (tgt := 135) d_cal_serialOf_129 (by decide) (fun c129 => ?_) (fun c129 => ?_)
                    · refine rp_iload (i := 5) d_cal_serialOf_135 rfl ?_
                      refine rp_iconst (v := 1) d_cal_serialOf_137 (by decide) ?_
                      refine rp_iadd d_cal_serialOf_138 ?_
                      refine rp_bipush (v := 60) d_cal_serialOf_139 (by decide) ?_
                      have e1 : nI (k_db a - k_db (q_fy false) + d - 1 + k_cum a b) + 1 = nI (k_db a - k_db 1900 + d - 1 + k_cum a b + 1) := nI_1 _
                      have e2 : nI (k_db a - k_db (q_fy false) + d - 1 + k_cum a b) + 2 = nI (k_db a - k_db 1900 + d - 1 + k_cum a b + 2) := nI_add _ 2
                      have hbg : k_db a - k_db 1900 + d - 1 + k_cum a b + 1 < 2 ^ 31 := by
                        have hx := k_db_mono (a := a) (b := 10000) (by omega) (by omega)
                        have hy : k_db 10000 ≤ 2 ^ 24 := by decide
                        have hk := q_cum_mono (c := true) (y := a) (a := b) (b := 13) (by omega)
                        rw [q_cum_13, q_cum_ml b (by omega)] at hk
                        have : q_dy true a ≤ 400 := by unfold q_dy; have := q_do_le true a 2; omega
                        omega
                      rw [← q_ser_p a1 b1 b2 d1 c77] at k
                      refine rp_icmp_ge (tgt := 151) d_cal_serialOf_141 (by decide) (fun c141 => ?_) (fun c141 => ?_)
                      · refine rp_iload (i := 5) d_cal_serialOf_151 rfl ?_
                        refine rp_iconst (v := 2) d_cal_serialOf_153 (by decide) ?_
                        refine rp_iadd d_cal_serialOf_154 ?_
                        refine rp_ireturn (ty := .int) d_cal_serialOf_155 rfl rfl ?_
                        rw [e1] at c141
                        replace c141 := (nI_leI (a := 60) (by decide) hbg).mp c141
                        rw [if_neg (by omega)] at k
                        rw [e2]
                        exact k
                      · refine rp_iload (i := 5) d_cal_serialOf_144 rfl ?_
                        refine rp_iconst (v := 1) d_cal_serialOf_146 (by decide) ?_
                        refine rp_iadd d_cal_serialOf_147 ?_
                        refine rp_goto (tgt := 155) d_cal_serialOf_148 (by decide) ?_
                        refine rp_ireturn (ty := .int) d_cal_serialOf_155 rfl rfl ?_
                        rw [e1] at c141
                        replace c141 : ¬ 60 ≤ k_db a - k_db 1900 + d - 1 + k_cum a b + 1 := fun z => c141 (nI_le (a := 60) z hbg)
                        rw [if_pos (by omega)] at k
                        rw [e1]
                        exact k
                    · exact absurd hc c129
                  · refine rp_bipush (v := (-3)) d_cal_serialOf_80 (by decide) ?_
                    refine rp_ireturn (ty := .int) d_cal_serialOf_82 rfl rfl ?_
                    have hne : ¬ (a = 1900 ∧ b = 2 ∧ d = 29) := fun z => c49 (by rw [z.1]; rfl)
                    replace c77 : ¬ d ≤ k_ml a b := fun z => c77 (nI_le z (by omega))
                    have hlt : q_do false a b < d := by
                      rw [hdo]
                      by_cases w : a = 1900 ∧ b = 2
                      · have : k_ml a b = 28 := by rw [w.1, w.2]; decide
                        rw [if_pos ⟨rfl, w.1, w.2⟩]; omega
                      · rw [if_neg (fun z => w z.2)]; omega
                    rw [q_ser, if_pos (Or.inr (Or.inr (Or.inr (Or.inr (Or.inr (by rw [nI_clamp ha, nI_clamp hb]; exact nI_lt hlt hd))))))] at k
                    exact k
              · refine rp_iload_n (i := 2) d_cal_serialOf_52 rfl rfl ?_
                refine rp_iconst (v := 2) d_cal_serialOf_53 (by decide) ?_
                refine rp_icmp_ne (tgt := 66) d_cal_serialOf_54 (by decide) (fun c54 => ?_) (fun c54 => ?_)
                · refine rp_iload_n (i := 3) d_cal_serialOf_66 rfl rfl ?_
                  refine rp_iconst (v := 1) d_cal_serialOf_67 (by decide) ?_
                  refine rp_icmp_lt (tgt := 80) d_cal_serialOf_68 (by decide) (fun c68 => ?_) (fun c68 => ?_)
                  · refine rp_bipush (v := (-3)) d_cal_serialOf_80 (by decide) ?_
                    refine rp_ireturn (ty := .int) d_cal_serialOf_82 rfl rfl ?_
                    rw [q_ser, if_pos (Or.inr (Or.inr (Or.inr (Or.inr (Or.inl c68)))))] at k
                    exact k
                  · refine rp_iload_n (i := 3) d_cal_serialOf_71 rfl rfl ?_
                    refine rp_iload_n (i := 1) d_cal_serialOf_72 rfl rfl ?_
                    refine rp_iload_n (i := 2) d_cal_serialOf_73 rfl rfl ?_
                    refine rp_callS2 d_cal_serialOf_74 q_cal_serialOf_42 (Nat.le_of_ble_eq_true rfl) (Nat.le_of_ble_eq_true rfl) ?_
                    have c21 : ¬ x < nI (q_fy false) := c21
                    have hfy : 1900 ≤ q_fy false := by decide
                    have hfy2 : q_fy false ≤ 1904 := by decide
                    have hx0 : ¬ x < 0 := fun z => c21 (Int32.lt_of_lt_of_le z (nI_pos' (n := q_fy false) (by omega)))
                    obtain ⟨a, ha, rfl⟩ := nI_of hx0
                    have hy0 : ¬ y < 0 := fun z => c33 (Int32.lt_trans z (by decide))
                    obtain ⟨b, hb, rfl⟩ := nI_of hy0
                    have a1 : q_fy false ≤ a := Nat.not_lt.mp (fun z => c21 (nI_lt z (by omega)))
                    have a2 : a ≤ 9999 := Nat.not_lt.mp (fun z => c28 (nI_lt (a := 9999) z (by omega)))
                    have b1 : 1 ≤ b := Nat.not_lt.mp (fun z => c33 (nI_lt (b := 1) z (by decide)))
                    have b2 : b ≤ 12 := Nat.not_lt.mp (fun z => Int32.not_le.mpr (nI_lt (a := 12) z (by omega)) c39)
                    have hz0 : ¬ z < 0 := fun w => c68 (Int32.lt_trans w (by decide))
                    obtain ⟨d, hd, rfl⟩ := nI_of hz0
                    have d1 : 1 ≤ d := Nat.not_lt.mp (fun w => c68 (nI_lt (b := 1) w (by decide)))
                    have hml := k_ml_le (y := a) (m := b) (by omega)
                    have hqd := q_do_le false a b
                    have hdo := q_do_ml (c := false) (y := a) b1 b2
                    refine s_cal_monthLength rfl rfl (by omega) b1 b2 ?_
                    refine rp_icmp_le (tgt := 83) d_cal_serialOf_77 (by decide) (fun c77 => ?_) (fun c77 => ?_)
                    · refine rp_iload_n (i := 1) d_cal_serialOf_83 rfl rfl ?_
                      refine rp_callS1 d_cal_serialOf_84 q_cal_serialOf_25 (Nat.le_of_ble_eq_true rfl) (Nat.le_of_ble_eq_true rfl) ?_
                      replace c77 : d ≤ k_ml a b := (nI_leI hd (by omega)).mp c77
                      refine s_cal_daysBeforeYear rfl (by omega) (by omega) ?_
                      refine rp_iload (i := 4) d_cal_serialOf_87 rfl ?_
                      refine rp_callS1 d_cal_serialOf_89 q_cal_serialOf_25 (Nat.le_of_ble_eq_true rfl) (Nat.le_of_ble_eq_true rfl) ?_
                      refine s_cal_daysBeforeYear (y := q_fy false) rfl (by decide) (by decide) ?_
                      refine rp_isub d_cal_serialOf_92 ?_
                      refine rp_iload_n (i := 3) d_cal_serialOf_93 rfl rfl ?_
                      refine rp_iadd d_cal_serialOf_94 ?_
                      refine rp_iconst (v := 1) d_cal_serialOf_95 (by decide) ?_
                      refine rp_isub d_cal_serialOf_96 ?_
                      refine rp_istore (i := 5) d_cal_serialOf_97 rfl (Nat.le_of_ble_eq_true rfl) ?_
                      refine rp_iconst (v := 1) d_cal_serialOf_99 (by decide) ?_
                      refine rp_istore (i := 6) d_cal_serialOf_100 rfl (Nat.le_of_ble_eq_true rfl) ?_
                      have hmo := k_db_mono (a := q_fy false) (b := a) (by decide) a1
                      have hg : ¬ (nI a < nI (q_fy false) ∨ 9999 < nI a ∨ nI b < 1 ∨ 12 < nI b ∨ nI d < 1 ∨ nI (q_do false (nI a).toNatClampNeg (nI b).toNatClampNeg) < nI d) := fun w => w.elim c21 (fun w => w.elim c28 (fun w => w.elim c33 (fun w => w.elim (fun w => Int32.not_le.mpr w c39) (fun w => w.elim c68 (fun w => by rw [nI_clamp ha, nI_clamp hb] at w; exact absurd (nI_le (show d ≤ q_do false a b by omega) (by omega)) (Int32.not_le.mpr w))))))
                      rw [q_ser, if_neg hg, nI_clamp ha, nI_clamp hb, nI_clamp hd] at k
                      have hval : nI (k_db a) - nI (k_db (q_fy false)) + nI d - 1 = nI (k_db a - k_db (q_fy false) + d - 1 + k_cum a 1) := by
                        rw [show k_cum a 1 = 0 from by unfold k_cum; unfold k_cum k_ml; simp [k_mm], Nat.add_zero, pk_sub hmo, nI_add]; exact pk_sub (b := 1) (by omega)
                      refine rp_lv [(0, .ref 12), (1, .int (nI a)), (2, .int (nI b)), (5, .int (nI (k_db a - k_db (q_fy false) + d - 1 + k_cum a 1))), (6, .int (nI 1))] (by rw [← hval]; rfl) ?_
                      refine l_cal_serM a2 b2 ?_ (b - 1) 1 (by omega) (by omega)
                      refine rp_aload_n (i := 0) d_cal_serialOf_125 rfl rfl ?_
                      refine rp_getI d_cal_serialOf_126 f_cal_9 rfl ?_
                      refine rp_if_eq (tgt := 135) d_cal_serialOf_129 (by decide) (fun c129 => ?_) (fun c129 => ?_)
                      · refine rp_iload (i := 5) d_cal_serialOf_135 rfl ?_
                        refine rp_iconst (v := 1) d_cal_serialOf_137 (by decide) ?_
                        refine rp_iadd d_cal_serialOf_138 ?_
                        refine rp_bipush (v := 60) d_cal_serialOf_139 (by decide) ?_
                        have e1 : nI (k_db a - k_db (q_fy false) + d - 1 + k_cum a b) + 1 = nI (k_db a - k_db 1900 + d - 1 + k_cum a b + 1) := nI_1 _
                        have e2 : nI (k_db a - k_db (q_fy false) + d - 1 + k_cum a b) + 2 = nI (k_db a - k_db 1900 + d - 1 + k_cum a b + 2) := nI_add _ 2
                        have hbg : k_db a - k_db 1900 + d - 1 + k_cum a b + 1 < 2 ^ 31 := by
                          have hx := k_db_mono (a := a) (b := 10000) (by omega) (by omega)
                          have hy : k_db 10000 ≤ 2 ^ 24 := by decide
                          have hk := q_cum_mono (c := true) (y := a) (a := b) (b := 13) (by omega)
                          rw [q_cum_13, q_cum_ml b (by omega)] at hk
                          have : q_dy true a ≤ 400 := by unfold q_dy; have := q_do_le true a 2; omega
                          omega
                        rw [← q_ser_p a1 b1 b2 d1 c77] at k
                        refine rp_icmp_ge (tgt := 151) d_cal_serialOf_141 (by decide) (fun c141 => ?_) (fun c141 => ?_)
                        · refine rp_iload (i := 5) d_cal_serialOf_151 rfl ?_
                          refine rp_iconst (v := 2) d_cal_serialOf_153 (by decide) ?_
                          refine rp_iadd d_cal_serialOf_154 ?_
                          refine rp_ireturn (ty := .int) d_cal_serialOf_155 rfl rfl ?_
                          rw [e1] at c141
                          replace c141 := (nI_leI (a := 60) (by decide) hbg).mp c141
                          rw [if_neg (by omega)] at k
                          rw [e2]
                          exact k
                        · refine rp_iload (i := 5) d_cal_serialOf_144 rfl ?_
                          refine rp_iconst (v := 1) d_cal_serialOf_146 (by decide) ?_
                          refine rp_iadd d_cal_serialOf_147 ?_
                          refine rp_goto (tgt := 155) d_cal_serialOf_148 (by decide) ?_
                          refine rp_ireturn (ty := .int) d_cal_serialOf_155 rfl rfl ?_
                          rw [e1] at c141
                          replace c141 : ¬ 60 ≤ k_db a - k_db 1900 + d - 1 + k_cum a b + 1 := fun z => c141 (nI_le (a := 60) z hbg)
                          rw [if_pos (by omega)] at k
                          rw [e1]
                          exact k
                      · exact absurd hc c129
                    · refine rp_bipush (v := (-3)) d_cal_serialOf_80 (by decide) ?_
                      refine rp_ireturn (ty := .int) d_cal_serialOf_82 rfl rfl ?_
                      have hne : ¬ (a = 1900 ∧ b = 2 ∧ d = 29) := fun z => c54 (by rw [z.2.1]; rfl)
                      replace c77 : ¬ d ≤ k_ml a b := fun z => c77 (nI_le z (by omega))
                      have hlt : q_do false a b < d := by
                        rw [hdo]
                        by_cases w : a = 1900 ∧ b = 2
                        · have : k_ml a b = 28 := by rw [w.1, w.2]; decide
                          rw [if_pos ⟨rfl, w.1, w.2⟩]; omega
                        · rw [if_neg (fun z => w z.2)]; omega
                      rw [q_ser, if_pos (Or.inr (Or.inr (Or.inr (Or.inr (Or.inr (by rw [nI_clamp ha, nI_clamp hb]; exact nI_lt hlt hd))))))] at k
                      exact k
                · refine rp_iload_n (i := 3) d_cal_serialOf_57 rfl rfl ?_
                  refine rp_bipush (v := 29) d_cal_serialOf_58 (by decide) ?_
                  refine rp_icmp_ne (tgt := 66) d_cal_serialOf_60 (by decide) (fun c60 => ?_) (fun c60 => ?_)
                  · refine rp_iload_n (i := 3) d_cal_serialOf_66 rfl rfl ?_
                    refine rp_iconst (v := 1) d_cal_serialOf_67 (by decide) ?_
                    refine rp_icmp_lt (tgt := 80) d_cal_serialOf_68 (by decide) (fun c68 => ?_) (fun c68 => ?_)
                    · refine rp_bipush (v := (-3)) d_cal_serialOf_80 (by decide) ?_
                      refine rp_ireturn (ty := .int) d_cal_serialOf_82 rfl rfl ?_
                      rw [q_ser, if_pos (Or.inr (Or.inr (Or.inr (Or.inr (Or.inl c68)))))] at k
                      exact k
                    · refine rp_iload_n (i := 3) d_cal_serialOf_71 rfl rfl ?_
                      refine rp_iload_n (i := 1) d_cal_serialOf_72 rfl rfl ?_
                      refine rp_iload_n (i := 2) d_cal_serialOf_73 rfl rfl ?_
                      refine rp_callS2 d_cal_serialOf_74 q_cal_serialOf_42 (Nat.le_of_ble_eq_true rfl) (Nat.le_of_ble_eq_true rfl) ?_
                      have c21 : ¬ x < nI (q_fy false) := c21
                      have hfy : 1900 ≤ q_fy false := by decide
                      have hfy2 : q_fy false ≤ 1904 := by decide
                      have hx0 : ¬ x < 0 := fun z => c21 (Int32.lt_of_lt_of_le z (nI_pos' (n := q_fy false) (by omega)))
                      obtain ⟨a, ha, rfl⟩ := nI_of hx0
                      have hy0 : ¬ y < 0 := fun z => c33 (Int32.lt_trans z (by decide))
                      obtain ⟨b, hb, rfl⟩ := nI_of hy0
                      have a1 : q_fy false ≤ a := Nat.not_lt.mp (fun z => c21 (nI_lt z (by omega)))
                      have a2 : a ≤ 9999 := Nat.not_lt.mp (fun z => c28 (nI_lt (a := 9999) z (by omega)))
                      have b1 : 1 ≤ b := Nat.not_lt.mp (fun z => c33 (nI_lt (b := 1) z (by decide)))
                      have b2 : b ≤ 12 := Nat.not_lt.mp (fun z => Int32.not_le.mpr (nI_lt (a := 12) z (by omega)) c39)
                      have hz0 : ¬ z < 0 := fun w => c68 (Int32.lt_trans w (by decide))
                      obtain ⟨d, hd, rfl⟩ := nI_of hz0
                      have d1 : 1 ≤ d := Nat.not_lt.mp (fun w => c68 (nI_lt (b := 1) w (by decide)))
                      have hml := k_ml_le (y := a) (m := b) (by omega)
                      have hqd := q_do_le false a b
                      have hdo := q_do_ml (c := false) (y := a) b1 b2
                      refine s_cal_monthLength rfl rfl (by omega) b1 b2 ?_
                      refine rp_icmp_le (tgt := 83) d_cal_serialOf_77 (by decide) (fun c77 => ?_) (fun c77 => ?_)
                      · refine rp_iload_n (i := 1) d_cal_serialOf_83 rfl rfl ?_
                        refine rp_callS1 d_cal_serialOf_84 q_cal_serialOf_25 (Nat.le_of_ble_eq_true rfl) (Nat.le_of_ble_eq_true rfl) ?_
                        replace c77 : d ≤ k_ml a b := (nI_leI hd (by omega)).mp c77
                        refine s_cal_daysBeforeYear rfl (by omega) (by omega) ?_
                        refine rp_iload (i := 4) d_cal_serialOf_87 rfl ?_
                        refine rp_callS1 d_cal_serialOf_89 q_cal_serialOf_25 (Nat.le_of_ble_eq_true rfl) (Nat.le_of_ble_eq_true rfl) ?_
                        refine s_cal_daysBeforeYear (y := q_fy false) rfl (by decide) (by decide) ?_
                        refine rp_isub d_cal_serialOf_92 ?_
                        refine rp_iload_n (i := 3) d_cal_serialOf_93 rfl rfl ?_
                        refine rp_iadd d_cal_serialOf_94 ?_
                        refine rp_iconst (v := 1) d_cal_serialOf_95 (by decide) ?_
                        refine rp_isub d_cal_serialOf_96 ?_
                        refine rp_istore (i := 5) d_cal_serialOf_97 rfl (Nat.le_of_ble_eq_true rfl) ?_
                        refine rp_iconst (v := 1) d_cal_serialOf_99 (by decide) ?_
                        refine rp_istore (i := 6) d_cal_serialOf_100 rfl (Nat.le_of_ble_eq_true rfl) ?_
                        have hmo := k_db_mono (a := q_fy false) (b := a) (by decide) a1
                        have hg : ¬ (nI a < nI (q_fy false) ∨ 9999 < nI a ∨ nI b < 1 ∨ 12 < nI b ∨ nI d < 1 ∨ nI (q_do false (nI a).toNatClampNeg (nI b).toNatClampNeg) < nI d) := fun w => w.elim c21 (fun w => w.elim c28 (fun w => w.elim c33 (fun w => w.elim (fun w => Int32.not_le.mpr w c39) (fun w => w.elim c68 (fun w => by rw [nI_clamp ha, nI_clamp hb] at w; exact absurd (nI_le (show d ≤ q_do false a b by omega) (by omega)) (Int32.not_le.mpr w))))))
                        rw [q_ser, if_neg hg, nI_clamp ha, nI_clamp hb, nI_clamp hd] at k
                        have hval : nI (k_db a) - nI (k_db (q_fy false)) + nI d - 1 = nI (k_db a - k_db (q_fy false) + d - 1 + k_cum a 1) := by
                          rw [show k_cum a 1 = 0 from by unfold k_cum; unfold k_cum k_ml; simp [k_mm], Nat.add_zero, pk_sub hmo, nI_add]; exact pk_sub (b := 1) (by omega)
                        refine rp_lv [(0, .ref 12), (1, .int (nI a)), (2, .int (nI b)), (5, .int (nI (k_db a - k_db (q_fy false) + d - 1 + k_cum a 1))), (6, .int (nI 1))] (by rw [← hval]; rfl) ?_
                        refine l_cal_serM a2 b2 ?_ (b - 1) 1 (by omega) (by omega)
                        refine rp_aload_n (i := 0) d_cal_serialOf_125 rfl rfl ?_
                        refine rp_getI d_cal_serialOf_126 f_cal_9 rfl ?_
                        refine rp_if_eq (tgt := 135) d_cal_serialOf_129 (by decide) (fun c129 => ?_) (fun c129 => ?_)
                        · refine rp_iload (i := 5) d_cal_serialOf_135 rfl ?_
                          refine rp_iconst (v := 1) d_cal_serialOf_137 (by decide) ?_
                          refine rp_iadd d_cal_serialOf_138 ?_
                          refine rp_bipush (v := 60) d_cal_serialOf_139 (by decide) ?_
                          have e1 : nI (k_db a - k_db (q_fy false) + d - 1 + k_cum a b) + 1 = nI (k_db a - k_db 1900 + d - 1 + k_cum a b + 1) := nI_1 _
                          have e2 : nI (k_db a - k_db (q_fy false) + d - 1 + k_cum a b) + 2 = nI (k_db a - k_db 1900 + d - 1 + k_cum a b + 2) := nI_add _ 2
                          have hbg : k_db a - k_db 1900 + d - 1 + k_cum a b + 1 < 2 ^ 31 := by
                            have hx := k_db_mono (a := a) (b := 10000) (by omega) (by omega)
                            have hy : k_db 10000 ≤ 2 ^ 24 := by decide
                            have hk := q_cum_mono (c := true) (y := a) (a := b) (b := 13) (by omega)
                            rw [q_cum_13, q_cum_ml b (by omega)] at hk
                            have : q_dy true a ≤ 400 := by unfold q_dy; have := q_do_le true a 2; omega
                            omega
                          rw [← q_ser_p a1 b1 b2 d1 c77] at k
                          refine rp_icmp_ge (tgt := 151) d_cal_serialOf_141 (by decide) (fun c141 => ?_) (fun c141 => ?_)
                          · refine rp_iload (i := 5) d_cal_serialOf_151 rfl ?_
                            refine rp_iconst (v := 2) d_cal_serialOf_153 (by decide) ?_
                            refine rp_iadd d_cal_serialOf_154 ?_
                            refine rp_ireturn (ty := .int) d_cal_serialOf_155 rfl rfl ?_
                            rw [e1] at c141
                            replace c141 := (nI_leI (a := 60) (by decide) hbg).mp c141
                            rw [if_neg (by omega)] at k
                            rw [e2]
                            exact k
                          · refine rp_iload (i := 5) d_cal_serialOf_144 rfl ?_
                            refine rp_iconst (v := 1) d_cal_serialOf_146 (by decide) ?_
                            refine rp_iadd d_cal_serialOf_147 ?_
                            refine rp_goto (tgt := 155) d_cal_serialOf_148 (by decide) ?_
                            refine rp_ireturn (ty := .int) d_cal_serialOf_155 rfl rfl ?_
                            rw [e1] at c141
                            replace c141 : ¬ 60 ≤ k_db a - k_db 1900 + d - 1 + k_cum a b + 1 := fun z => c141 (nI_le (a := 60) z hbg)
                            rw [if_pos (by omega)] at k
                            rw [e1]
                            exact k
                        · exact absurd hc c129
                      · refine rp_bipush (v := (-3)) d_cal_serialOf_80 (by decide) ?_
                        refine rp_ireturn (ty := .int) d_cal_serialOf_82 rfl rfl ?_
                        have hne : ¬ (a = 1900 ∧ b = 2 ∧ d = 29) := fun z => c60 (by rw [z.2.2]; rfl)
                        replace c77 : ¬ d ≤ k_ml a b := fun z => c77 (nI_le z (by omega))
                        have hlt : q_do false a b < d := by
                          rw [hdo]
                          by_cases w : a = 1900 ∧ b = 2
                          · have : k_ml a b = 28 := by rw [w.1, w.2]; decide
                            rw [if_pos ⟨rfl, w.1, w.2⟩]; omega
                          · rw [if_neg (fun z => w z.2)]; omega
                        rw [q_ser, if_pos (Or.inr (Or.inr (Or.inr (Or.inr (Or.inr (by rw [nI_clamp ha, nI_clamp hb]; exact nI_lt hlt hd))))))] at k
                        exact k
                  · refine rp_bipush (v := 60) d_cal_serialOf_63 (by decide) ?_
                    refine rp_ireturn (ty := .int) d_cal_serialOf_65 rfl rfl ?_
                    subst c49; subst c54; subst c60
                    rw [q_ser, if_neg (by decide), show (k_lo false + (29 : Int32).toNatClampNeg - 1 + q_S false (1900 : Int32).toNatClampNeg + q_cum false (1900 : Int32).toNatClampNeg (2 : Int32).toNatClampNeg) = 60 from by decide] at k
                    exact k
            · refine rp_bipush (v := (-3)) d_cal_serialOf_42 (by decide) ?_
              refine rp_ireturn (ty := .int) d_cal_serialOf_44 rfl rfl ?_
              rw [q_ser, if_pos (Or.inr (Or.inr (Or.inr (Or.inl (Int32.not_le.mp c39)))))] at k
              exact k
    · exact absurd hc c4
set_option maxHeartbeats 4000000 in
set_option maxRecDepth 100000 in
theorem s_fmt_serial {h : cf_H} {P : Option Value → cf_H → Prop} (hR : cf_ok h) {c : Bool} (hc : h.1 12 0 = cf_b c) {x y z : Int32} (k : P (some (.int (q_ser c x y z))) h) : RP k_fmt_serial 0 [(0, .ref 0), (1, .int x), (2, .int y), (3, .int z)] [] h P := by
  refine rp_aload_n (i := 0) d_fmt_serial_0 rfl rfl ?_
  refine rp_getR d_fmt_serial_1 f_fmt_50 rfl (hR _ _ _ rfl) ?_
  refine rp_iload_n (i := 1) d_fmt_serial_4 rfl rfl ?_
  refine rp_iload_n (i := 2) d_fmt_serial_5 rfl rfl ?_
  refine rp_iload_n (i := 3) d_fmt_serial_6 rfl rfl ?_
  refine rp_callV3 d_fmt_serial_7 q_fmt_serial_141 (Or.inl ⟨_, _, _, rfl, rfl⟩) (Nat.le_of_ble_eq_true rfl) (Nat.le_of_ble_eq_true rfl) ?_
  refine s_cal_serialOf hc ?_
  refine rp_ireturn (ty := .int) d_fmt_serial_10 rfl rfl ?_
  exact k
set_option maxHeartbeats 4000000 in
set_option maxRecDepth 100000 in
theorem s_fmt_date {h : cf_H} {P : Option Value → cf_H → Prop} (hR : cf_ok h) {c : Bool} (hc : h.1 12 0 = cf_b c) {x p : Int32} (k : ∀ h' y m dd, (¬ (p < 0 ∨ 3 < p) → ∀ s, x = nI s → k_lo c ≤ s → s ≤ k_hi c → q_day c s y m dd) → k_fr h h' → P (some (.int (q_dt c x p y m dd))) h') : RP k_fmt_date 0 [(0, .ref 0), (1, .int x), (2, .int p)] [] h P := by
  have kp : (p < 0 ∨ 3 < p) → P (some (.int (-3))) h := fun z => by
    have := k h 0 0 0 (fun w => absurd z w) (k_fr.rf h)
    rw [q_dt, if_pos (Or.inr (Or.inr z))] at this; exact this
  have kx : (x < nI (k_lo c) ∨ nI (k_hi c) < x) → P (some (.int (-3))) h := fun z => by
    have := k h 0 0 0 (fun _ s e s1 s2 => by
      subst e
      have hhi1 : k_hi c ≤ 2958465 := by cases c <;> decide
      exact absurd z (fun z => z.elim (nI_nlt s1 (by omega)) (nI_nlt s2 (by omega)))) (k_fr.rf h)
    rw [q_dt, if_pos (z.elim Or.inl (fun z => Or.inr (Or.inl z)))] at this; exact this
  by_cases hp : p < 0 ∨ 3 < p
  · have kp := kp hp
    refine rp_iload_n (i := 2) d_fmt_date_0 rfl rfl ?_
    refine rp_if_lt (tgt := 20) d_fmt_date_1 (by decide) (fun c1 => ?_) (fun c1 => ?_)
    · refine rp_bipush (v := (-3)) d_fmt_date_20 (by decide) ?_
      refine rp_ireturn (ty := .int) d_fmt_date_22 rfl rfl ?_
      exact kp
    · refine rp_iload_n (i := 2) d_fmt_date_4 rfl rfl ?_
      refine rp_iconst (v := 3) d_fmt_date_5 (by decide) ?_
      refine rp_icmp_gt (tgt := 20) d_fmt_date_6 (by decide) (fun c6 => ?_) (fun c6 => ?_)
      · refine rp_bipush (v := (-3)) d_fmt_date_20 (by decide) ?_
        refine rp_ireturn (ty := .int) d_fmt_date_22 rfl rfl ?_
        exact kp
      · refine rp_aload_n (i := 0) d_fmt_date_9 rfl rfl ?_
        refine rp_getR d_fmt_date_10 f_fmt_50 rfl (hR _ _ _ rfl) ?_
        refine rp_iload_n (i := 1) d_fmt_date_13 rfl rfl ?_
        refine rp_callV1 d_fmt_date_14 q_fmt_date_125 (Or.inl ⟨_, _, _, rfl, rfl⟩) (Nat.le_of_ble_eq_true rfl) (Nat.le_of_ble_eq_true rfl) ?_
        exact absurd hp (fun z => z.elim c1 c6)
  · have c1 : ¬ p < 0 := fun z => hp (Or.inl z)
    have c6 : ¬ 3 < p := fun z => hp (Or.inr z)
    refine rp_iload_n (i := 2) d_fmt_date_0 rfl rfl ?_
    refine rp_if_lt (tgt := 20) d_fmt_date_1 (by decide) (fun c1 => ?_) (fun c1 => ?_)
    · exact absurd c1 (fun z => hp (Or.inl z))
    · refine rp_iload_n (i := 2) d_fmt_date_4 rfl rfl ?_
      refine rp_iconst (v := 3) d_fmt_date_5 (by decide) ?_
      refine rp_icmp_gt (tgt := 20) d_fmt_date_6 (by decide) (fun c6 => ?_) (fun c6 => ?_)
      · exact absurd c6 (fun z => hp (Or.inr z))
      · refine rp_aload_n (i := 0) d_fmt_date_9 rfl rfl ?_
        refine rp_getR d_fmt_date_10 f_fmt_50 rfl (hR _ _ _ rfl) ?_
        refine rp_iload_n (i := 1) d_fmt_date_13 rfl rfl ?_
        refine rp_callV1 d_fmt_date_14 q_fmt_date_125 (Or.inl ⟨_, _, _, rfl, rfl⟩) (Nat.le_of_ble_eq_true rfl) (Nat.le_of_ble_eq_true rfl) ?_
        refine s_cal_findDay hc (fun z => ?_) (fun h2 s y m dd e s1 s2 q H w f => ?_)
        · refine rp_if_ne (tgt := 23) d_fmt_date_17 (by decide) (fun c17 => ?_) (fun c17 => ?_)
          · exact absurd (by decide) c17
          · refine rp_bipush (v := (-3)) d_fmt_date_20 (by decide) ?_
            refine rp_ireturn (ty := .int) d_fmt_date_22 rfl rfl ?_
            exact kx z
        · subst e
          have hhi1 : k_hi c ≤ 2958465 := by cases c <;> decide
          have hR2 : cf_ok h2 := fun o k q e => by rw [show h2.2.2.1 = h.2.2.1 from by rw [f.2]]; exact hR o k q e
          have hgood : ¬ (nI s < nI (k_lo c) ∨ nI (k_hi c) < nI s ∨ p < 0 ∨ 3 < p) := fun z => z.elim (nI_nlt s1 (by omega)) (fun z => z.elim (nI_nlt s2 (by omega)) hp)
          have K := k h2 y m dd (fun _ s2' e e1 e2 => by rw [nI_eq (by omega) (by omega)] at e; subst e; exact k_day_q s1 q) f
          rw [q_dt, if_neg hgood, nI_clamp (by omega)] at K
          refine rp_if_ne (tgt := 23) d_fmt_date_17 (by decide) (fun c17 => ?_) (fun c17 => ?_)
          · refine rp_iload_n (i := 2) d_fmt_date_23 rfl rfl ?_
            refine rp_if_ne (tgt := 35) d_fmt_date_24 (by decide) (fun c24 => ?_) (fun c24 => ?_)
            · refine rp_iload_n (i := 2) d_fmt_date_35 rfl rfl ?_
              refine rp_iconst (v := 1) d_fmt_date_36 (by decide) ?_
              refine rp_icmp_ne (tgt := 48) d_fmt_date_37 (by decide) (fun c37 => ?_) (fun c37 => ?_)
              · refine rp_iload_n (i := 2) d_fmt_date_48 rfl rfl ?_
                refine rp_iconst (v := 2) d_fmt_date_49 (by decide) ?_
                refine rp_icmp_ne (tgt := 63) d_fmt_date_50 (by decide) (fun c50 => ?_) (fun c50 => ?_)
                · refine rp_aload_n (i := 0) d_fmt_date_63 rfl rfl ?_
                  refine rp_getR d_fmt_date_64 f_fmt_50 rfl (hR2 _ _ _ rfl) ?_
                  refine rp_getI d_fmt_date_67 f_fmt_138 rfl ?_
                  refine rp_ireturn (ty := .int) d_fmt_date_70 rfl rfl ?_
                  have p3 : p = 3 := by
                    obtain ⟨j, hj, rfl⟩ := nI_of2 (M := 3) (n := 3) rfl c1 (Int32.not_lt.mp c6)
                    have hj4 : j = 0 ∨ j = 1 ∨ j = 2 ∨ j = 3 := by omega
                    rcases hj4 with z | z | z | z <;> subst z
                    · exact absurd rfl c24
                    · exact absurd rfl c37
                    · exact absurd rfl c50
                    · rfl
                  rw [if_pos p3] at K
                  rw [w]
                  exact K
                · refine rp_aload_n (i := 0) d_fmt_date_53 rfl rfl ?_
                  refine rp_getR d_fmt_date_54 f_fmt_50 rfl (hR2 _ _ _ rfl) ?_
                  refine rp_getI d_fmt_date_57 f_fmt_135 rfl ?_
                  refine rp_goto (tgt := 70) d_fmt_date_60 (by decide) ?_
                  refine rp_ireturn (ty := .int) d_fmt_date_70 rfl rfl ?_
                  rw [if_neg (by rw [c50]; decide), if_neg c24, if_neg c37] at K
                  rw [H.2.2]
                  exact K
              · refine rp_aload_n (i := 0) d_fmt_date_40 rfl rfl ?_
                refine rp_getR d_fmt_date_41 f_fmt_50 rfl (hR2 _ _ _ rfl) ?_
                refine rp_getI d_fmt_date_44 f_fmt_132 rfl ?_
                refine rp_ireturn (ty := .int) d_fmt_date_47 rfl rfl ?_
                rw [if_neg (by rw [c37]; decide), if_neg c24, if_pos c37] at K
                rw [H.2.1]
                exact K
            · refine rp_aload_n (i := 0) d_fmt_date_27 rfl rfl ?_
              refine rp_getR d_fmt_date_28 f_fmt_50 rfl (hR2 _ _ _ rfl) ?_
              refine rp_getI d_fmt_date_31 f_fmt_129 rfl ?_
              refine rp_ireturn (ty := .int) d_fmt_date_34 rfl rfl ?_
              rw [if_neg (by rw [c24]; decide), if_pos c24] at K
              rw [H.1]
              exact K
          · exact absurd c17 (by decide)
