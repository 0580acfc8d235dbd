/-! THE CLASS: Calendar.setDate, findDay -/
def k_D (n y m dd : Nat) : Prop := 1900 ≤ y ∧ y ≤ 9999 ∧ 1 ≤ m ∧ m ≤ 12 ∧ 1 ≤ dd ∧ k_db y ≤ n ∧ n < k_db (y + 1) ∧ n + 1 = k_db y + k_cum y m + dd ∧ (m = 12 ∨ dd ≤ k_ml y m)
def k_day (c : Bool) (s y m dd : Nat) : Prop := if c = true then k_D (k_db 1904 + s) y m dd else if s = 60 then y = 1900 ∧ m = 2 ∧ dd = 29 else k_D (k_db 1900 + s - (if s < 60 then 1 else 2)) y m dd
def k_wd (c : Bool) (s : Nat) : Nat := if c = true then (s + 5) % 7 + 1 else (s - 1) % 7 + 1
def k_lo (c : Bool) : Nat := bif c then 0 else 1
def k_hi (c : Bool) : Nat := bif c then 2957003 else 2958465
/-- the calendar holds a day -/
def k_H (h : cf_H) (y m dd : Nat) : Prop := h.1 12 1 = nI y ∧ h.1 12 2 = nI m ∧ h.1 12 3 = nI dd
theorem k_db_lt {y d : Nat} (hd : d < k_db 10000) (h : k_db y ≤ d) : k_db y < 2 ^ 24 := Nat.lt_of_le_of_lt h (Nat.lt_of_lt_of_le hd (by decide))

set_option maxHeartbeats 4000000 in
set_option maxRecDepth 100000 in
theorem l_cal_setDate {h0 : cf_H} {P : Option Value → cf_H → Prop} {n y : Nat} (hy1 : 1900 ≤ y) (hy2 : y ≤ 9999) (hn1 : k_db y ≤ n) (hn2 : n < k_db (y + 1)) (hn3 : n < 2 ^ 24) (k : ∀ h' m dd, k_D n y m dd → k_H h' y m dd → k_fr h0 h' → h'.1 12 4 = h0.1 12 4 → P none h') : ∀ (r m l : Nat) (h : cf_H), m + r = 12 → 1 ≤ m → n = k_db y + k_cum y m + l → h.1 12 1 = nI y → h.1 12 2 = nI m → k_fr h0 h → h.1 12 4 = h0.1 12 4 → RP k_cal_setDate 23 [(0, .ref 12), (2, .int (nI l))] [] h P := by
  intro r
  induction r with
  | zero =>
    intro m l h e h1 hn f1 f2 hf f4
    have e : m = 12 := e
    refine rp_aload_n (i := 0) d_cal_setDate_23 rfl rfl ?_
    refine rp_getI d_cal_setDate_24 f_cal_36 rfl ?_
    refine rp_bipush (v := 12) d_cal_setDate_27 (by decide) ?_
    refine rp_icmp_ge (tgt := 74) d_cal_setDate_29 (by decide) (fun c29 => ?_) (fun c29 => ?_)
    · refine rp_aload_n (i := 0) d_cal_setDate_74 rfl rfl ?_
      refine rp_iload_n (i := 2) d_cal_setDate_75 rfl rfl ?_
      refine rp_iconst (v := 1) d_cal_setDate_76 (by decide) ?_
      refine rp_iadd d_cal_setDate_77 ?_
      refine rp_putI d_cal_setDate_78 f_cal_39 rfl rfl rfl ?_
      refine rp_return d_cal_setDate_81 rfl ?_
      refine k _ m (l + 1) ⟨hy1, hy2, h1, by omega, by omega, hn1, hn2, by omega, Or.inl e⟩ ⟨by rw [cf_pI_k (by decide)]; exact f1, by rw [cf_pI_k (by decide)]; exact f2, by rw [cf_pI_s, nI_1]⟩ (hf.pI (by simp) _) (by rw [cf_pI_k (by decide)]; exact f4)
    · exact absurd (by rw [f2, e]; decide) c29
  | succ r ih =>
    intro m l h e h1 hn f1 f2 hf f4
    have hml := k_ml_le (y := y) (m := m) (by omega)
    refine rp_aload_n (i := 0) d_cal_setDate_23 rfl rfl ?_
    refine rp_getI d_cal_setDate_24 f_cal_36 rfl ?_
    refine rp_bipush (v := 12) d_cal_setDate_27 (by decide) ?_
    refine rp_icmp_ge (tgt := 74) d_cal_setDate_29 (by decide) (fun c29 => ?_) (fun c29 => ?_)
    · exact absurd c29 (by rw [f2]; exact nI_ge (b := 12) (by omega) (by decide))
    · refine rp_iload_n (i := 2) d_cal_setDate_32 rfl rfl ?_
      refine rp_aload_n (i := 0) d_cal_setDate_33 rfl rfl ?_
      refine rp_getI d_cal_setDate_34 f_cal_33 rfl ?_
      refine rp_aload_n (i := 0) d_cal_setDate_37 rfl rfl ?_
      refine rp_getI d_cal_setDate_38 f_cal_36 rfl ?_
      refine rp_callS2 d_cal_setDate_41 q_cal_setDate_42 (Nat.le_of_ble_eq_true rfl) (Nat.le_of_ble_eq_true rfl) ?_
      refine s_cal_monthLength f1 f2 (by omega) h1 (by omega) ?_
      refine rp_icmp_lt (tgt := 74) d_cal_setDate_44 (by decide) (fun c44 => ?_) (fun c44 => ?_)
      · refine rp_aload_n (i := 0) d_cal_setDate_74 rfl rfl ?_
        refine rp_iload_n (i := 2) d_cal_setDate_75 rfl rfl ?_
        refine rp_iconst (v := 1) d_cal_setDate_76 (by decide) ?_
        refine rp_iadd d_cal_setDate_77 ?_
        refine rp_putI d_cal_setDate_78 f_cal_39 rfl rfl rfl ?_
        refine rp_return d_cal_setDate_81 rfl ?_
        rw [nI_ltI (by omega) (by omega)] at c44
        refine k _ m (l + 1) ⟨hy1, hy2, h1, by omega, by omega, hn1, hn2, by omega, Or.inr (by omega)⟩ ⟨by rw [cf_pI_k (by decide)]; exact f1, by rw [cf_pI_k (by decide)]; exact f2, by rw [cf_pI_s, nI_1]⟩ (hf.pI (by simp) _) (by rw [cf_pI_k (by decide)]; exact f4)
      · refine rp_iload_n (i := 2) d_cal_setDate_47 rfl rfl ?_
        refine rp_aload_n (i := 0) d_cal_setDate_48 rfl rfl ?_
        refine rp_getI d_cal_setDate_49 f_cal_33 rfl ?_
        refine rp_aload_n (i := 0) d_cal_setDate_52 rfl rfl ?_
        refine rp_getI d_cal_setDate_53 f_cal_36 rfl ?_
        refine rp_callS2 d_cal_setDate_56 q_cal_setDate_42 (Nat.le_of_ble_eq_true rfl) (Nat.le_of_ble_eq_true rfl) ?_
        refine s_cal_monthLength f1 f2 (by omega) h1 (by omega) ?_
        refine rp_isub d_cal_setDate_59 ?_
        refine rp_istore_n (i := 2) d_cal_setDate_60 rfl rfl (Nat.le_of_ble_eq_true rfl) ?_
        refine rp_aload_n (i := 0) d_cal_setDate_61 rfl rfl ?_
        refine rp_dup d_cal_setDate_62 rfl ?_
        refine rp_getI d_cal_setDate_63 f_cal_36 rfl ?_
        refine rp_iconst (v := 1) d_cal_setDate_66 (by decide) ?_
        refine rp_iadd d_cal_setDate_67 ?_
        refine rp_putI d_cal_setDate_68 f_cal_36 rfl rfl rfl ?_
        refine rp_goto (tgt := 23) d_cal_setDate_71 (by decide) ?_
        rw [nI_ltI (by omega) (by omega)] at c44
        refine rp_lv [(0, .ref 12), (2, .int (nI (l - k_ml y m)))] (by rw [← pk_sub (by omega)]; rfl) ?_
        exact ih (m + 1) (l - k_ml y m) _ (by omega) (by omega) (by rw [k_cum]; omega) (by rw [cf_pI_k (by decide)]; exact f1) (by rw [cf_pI_s, f2, nI_1]) (hf.pI (by simp) _) (by rw [cf_pI_k (by decide)]; exact f4)
set_option maxHeartbeats 4000000 in
set_option maxRecDepth 100000 in
theorem s_cal_setDate {h : cf_H} {P : Option Value → cf_H → Prop} {x : Int32} {n : Nat} (hx : x = nI n) (hd1 : k_db 1900 ≤ n) (hd2 : n < k_db 10000) (k : ∀ h' y m dd, k_D n y m dd → k_H h' y m dd → k_fr h h' → h'.1 12 4 = h.1 12 4 → P none h') : RP k_cal_setDate 0 [(0, .ref 12), (1, .int x)] [] h P := by
  subst hx
  have hn3 : n < 2 ^ 24 := Nat.lt_of_lt_of_le hd2 (by decide)
  refine rp_aload_n (i := 0) d_cal_setDate_0 rfl rfl ?_
  refine rp_iload_n (i := 1) d_cal_setDate_1 rfl rfl ?_
  refine rp_callS1 d_cal_setDate_2 q_cal_setDate_46 (Nat.le_of_ble_eq_true rfl) (Nat.le_of_ble_eq_true rfl) ?_
  refine s_cal_yearOf rfl hd1 hd2 (fun y y1 y2 y3 y4 => ?_)
  refine rp_putI d_cal_setDate_5 f_cal_33 rfl rfl rfl ?_
  have f1 : (cf_pI h 12 1 (nI y)).1 12 1 = nI y := cf_pI_s
  have hf : k_fr h (cf_pI h 12 1 (nI y)) := (k_fr.rf h).pI (by simp) _
  have f4 : (cf_pI h 12 1 (nI y)).1 12 4 = h.1 12 4 := cf_pI_k (by decide)
  generalize cf_pI h 12 1 (nI y) = h1 at f1 hf f4 ⊢
  refine rp_iload_n (i := 1) d_cal_setDate_8 rfl rfl ?_
  refine rp_aload_n (i := 0) d_cal_setDate_9 rfl rfl ?_
  refine rp_getI d_cal_setDate_10 f_cal_33 rfl ?_
  refine rp_callS1 d_cal_setDate_13 q_cal_setDate_25 (Nat.le_of_ble_eq_true rfl) (Nat.le_of_ble_eq_true rfl) ?_
  refine s_cal_daysBeforeYear f1 (by omega) (by omega) ?_
  refine rp_isub d_cal_setDate_16 ?_
  rw [pk_sub y3]
  refine rp_istore_n (i := 2) d_cal_setDate_17 rfl rfl (Nat.le_of_ble_eq_true rfl) ?_
  refine rp_aload_n (i := 0) d_cal_setDate_18 rfl rfl ?_
  refine rp_iconst (v := 1) d_cal_setDate_19 (by decide) ?_
  refine rp_putI d_cal_setDate_20 f_cal_36 rfl rfl rfl ?_
  refine rp_lv [(0, .ref 12), (2, .int (nI (n - k_db y)))] rfl ?_
  exact l_cal_setDate y1 y2 y3 y4 hn3 (fun h' m dd => k h' y m dd) 11 1 (n - k_db y) _ rfl (by decide) (by rw [show k_cum y 1 = 0 from by unfold k_cum; unfold k_cum k_ml; simp [k_mm]]; omega) (by rw [cf_pI_k (by decide)]; exact f1) cf_pI_s (hf.pI (by simp) _) (by rw [cf_pI_k (by decide)]; exact f4)
set_option maxHeartbeats 4000000 in
set_option maxRecDepth 100000 in
theorem s_cal_lastSerial {h : cf_H} {P : Option Value → cf_H → Prop} {c : Bool} (hc : h.1 12 0 = cf_b c) (k : P (some (.int (nI (k_hi c)))) h) : RP k_cal_lastSerial 0 [(0, .ref 12)] [] h P := by
  cases c with
  | true =>
    refine rp_aload_n (i := 0) d_cal_lastSerial_0 rfl rfl ?_
    refine rp_getI d_cal_lastSerial_1 f_cal_9 rfl ?_
    refine rp_if_eq (tgt := 12) d_cal_lastSerial_4 (by decide) (fun c4 => ?_) (fun c4 => ?_)
    · exact absurd (hc.symm.trans c4) (by decide)
    · refine rp_ldc (v := 2957003) d_cal_lastSerial_7 l_cal_15 ?_
      refine rp_goto (tgt := 14) d_cal_lastSerial_9 (by decide) ?_
      refine rp_ireturn (ty := .int) d_cal_lastSerial_14 rfl rfl ?_
      exact k
  | false =>
    refine rp_aload_n (i := 0) d_cal_lastSerial_0 rfl rfl ?_
    refine rp_getI d_cal_lastSerial_1 f_cal_9 rfl ?_
    refine rp_if_eq (tgt := 12) d_cal_lastSerial_4 (by decide) (fun c4 => ?_) (fun c4 => ?_)
    · refine rp_ldc (v := 2958465) d_cal_lastSerial_12 l_cal_16 ?_
      refine rp_ireturn (ty := .int) d_cal_lastSerial_14 rfl rfl ?_
      exact k
    · exact absurd hc c4
set_option maxHeartbeats 4000000 in
set_option maxRecDepth 100000 in
theorem s_cal_findDay {h : cf_H} {P : Option Value → cf_H → Prop} {x : Int32} {c : Bool} (hc : h.1 12 0 = cf_b c) (k0 : x < nI (k_lo c) ∨ nI (k_hi c) < x → P (some (.int 0)) h) (k1 : ∀ h' s y m dd, x = nI s → k_lo c ≤ s → s ≤ k_hi c → k_day c s y m dd → k_H h' y m dd → h'.1 12 4 = nI (k_wd c s) → k_fr h h' → P (some (.int 1)) h') : RP k_cal_findDay 0 [(0, .ref 12), (1, .int x)] [] h P := by
  cases c with
  | true =>
    by_cases hlo : x < nI (k_lo true)
    · have k0 := k0 (Or.inl hlo)
      refine rp_iload_n (i := 1) d_cal_findDay_0 rfl rfl ?_
      refine rp_aload_n (i := 0) d_cal_findDay_1 rfl rfl ?_
      refine rp_getI d_cal_findDay_2 f_cal_9 rfl ?_
      refine rp_if_eq (tgt := 12) d_cal_findDay_5 (by decide) (fun c5 => ?_) (fun c5 => ?_)
      · exact absurd (hc.symm.trans c5) (by decide)
      · refine rp_iconst (v := 0) d_cal_findDay_8 (by decide) ?_
        refine rp_goto (tgt := 13) d_cal_findDay_9 (by decide) ?_
        refine rp_icmp_lt (tgt := 24) d_cal_findDay_13 (by decide) (fun c13 => ?_) (fun c13 => ?_)
        · refine rp_iconst (v := 0) d_cal_findDay_24 (by decide) ?_
          refine rp_ireturn (ty := .boolean) d_cal_findDay_25 rfl (by first | rfl | decide | assumption) ?_
          exact k0
        · exact absurd hlo c13
    · by_cases hhi : nI (k_hi true) < x
      · have k0 := k0 (Or.inr hhi)
        refine rp_iload_n (i := 1) d_cal_findDay_0 rfl rfl ?_
        refine rp_aload_n (i := 0) d_cal_findDay_1 rfl rfl ?_
        refine rp_getI d_cal_findDay_2 f_cal_9 rfl ?_
        refine rp_if_eq (tgt := 12) d_cal_findDay_5 (by decide) (fun c5 => ?_) (fun c5 => ?_)
        · exact absurd (hc.symm.trans c5) (by decide)
        · refine rp_iconst (v := 0) d_cal_findDay_8 (by decide) ?_
          refine rp_goto (tgt := 13) d_cal_findDay_9 (by decide) ?_
          refine rp_icmp_lt (tgt := 24) d_cal_findDay_13 (by decide) (fun c13 => ?_) (fun c13 => ?_)
          · exact absurd c13 hlo
          · refine rp_iload_n (i := 1) d_cal_findDay_16 rfl rfl ?_
            refine rp_aload_n (i := 0) d_cal_findDay_17 rfl rfl ?_
            refine rp_callV0 d_cal_findDay_18 q_cal_findDay_17 (Or.inl ⟨_, _, _, rfl, rfl⟩) (Nat.le_of_ble_eq_true rfl) (Nat.le_of_ble_eq_true rfl) ?_
            refine s_cal_lastSerial hc ?_
            refine rp_icmp_le (tgt := 26) d_cal_findDay_21 (by decide) (fun c21 => ?_) (fun c21 => ?_)
            · exact absurd hhi (Int32.not_lt.mpr c21)
            · refine rp_iconst (v := 0) d_cal_findDay_24 (by decide) ?_
              refine rp_ireturn (ty := .boolean) d_cal_findDay_25 rfl (by first | rfl | decide | assumption) ?_
              exact k0
      · have hx0 : ¬ x < 0 := fun z => hlo (by first | exact z | exact Int32.lt_trans z (by decide))
        obtain ⟨s, hs, rfl⟩ := nI_of hx0
        have s1 : k_lo true ≤ s := Nat.not_lt.mp (fun z => hlo (nI_lt z (by decide)))
        have s2 : s ≤ k_hi true := Nat.not_lt.mp (fun z => hhi (nI_lt z (by omega)))
        refine rp_iload_n (i := 1) d_cal_findDay_0 rfl rfl ?_
        refine rp_aload_n (i := 0) d_cal_findDay_1 rfl rfl ?_
        refine rp_getI d_cal_findDay_2 f_cal_9 rfl ?_
        refine rp_if_eq (tgt := 12) d_cal_findDay_5 (by decide) (fun c5 => ?_) (fun c5 => ?_)
        · exact absurd (hc.symm.trans c5) (by decide)
        · refine rp_iconst (v := 0) d_cal_findDay_8 (by decide) ?_
          refine rp_goto (tgt := 13) d_cal_findDay_9 (by decide) ?_
          refine rp_icmp_lt (tgt := 24) d_cal_findDay_13 (by decide) (fun c13 => ?_) (fun c13 => ?_)
          · exact absurd c13 hlo
          · refine rp_iload_n (i := 1) d_cal_findDay_16 rfl rfl ?_
            refine rp_aload_n (i := 0) d_cal_findDay_17 rfl rfl ?_
            refine rp_callV0 d_cal_findDay_18 q_cal_findDay_17 (Or.inl ⟨_, _, _, rfl, rfl⟩) (Nat.le_of_ble_eq_true rfl) (Nat.le_of_ble_eq_true rfl) ?_
            refine s_cal_lastSerial hc ?_
            refine rp_icmp_le (tgt := 26) d_cal_findDay_21 (by decide) (fun c21 => ?_) (fun c21 => ?_)
            · refine rp_aload_n (i := 0) d_cal_findDay_26 rfl rfl ?_
              refine rp_getI d_cal_findDay_27 f_cal_9 rfl ?_
              refine rp_if_eq (tgt := 59) d_cal_findDay_30 (by decide) (fun c30 => ?_) (fun c30 => ?_)
              · exact absurd (hc.symm.trans c30) (by decide)
              · refine rp_aload_n (i := 0) d_cal_findDay_33 rfl rfl ?_
                refine rp_iload_n (i := 1) d_cal_findDay_34 rfl rfl ?_
                refine rp_iconst (v := 5) d_cal_findDay_35 (by decide) ?_
                refine rp_iadd d_cal_findDay_36 ?_
                refine rp_bipush (v := 7) d_cal_findDay_37 (by decide) ?_
                rw [show nI s + 5 = nI (s + 5) from nI_add s 5]
                refine rp_irem d_cal_findDay_39 (by decide) ?_
                rw [show nI (s + 5) - nI (s + 5) / 7 * 7 = nI ((s + 5) % 7) from pk_rem (d := 7) (Nat.lt_of_le_of_lt (Nat.add_le_add_right s2 5) (by decide)) (by decide) (by decide)]
                refine rp_iconst (v := 1) d_cal_findDay_40 (by decide) ?_
                refine rp_iadd d_cal_findDay_41 ?_
                refine rp_putI d_cal_findDay_42 f_cal_21 rfl rfl rfl ?_
                rw [nI_1]
                have w4 : (cf_pI h 12 4 (nI ((s + 5) % 7 + 1))).1 12 4 = nI (k_wd true s) := cf_pI_s
                have wf : k_fr h (cf_pI h 12 4 (nI ((s + 5) % 7 + 1))) := (k_fr.rf h).pI (by simp) _
                generalize cf_pI h 12 4 (nI ((s + 5) % 7 + 1)) = h1 at w4 wf ⊢
                refine rp_aload_n (i := 0) d_cal_findDay_45 rfl rfl ?_
                refine rp_sipush (v := 1904) d_cal_findDay_46 (by decide) ?_
                refine rp_callS1 d_cal_findDay_49 q_cal_findDay_25 (Nat.le_of_ble_eq_true rfl) (Nat.le_of_ble_eq_true rfl) ?_
                refine s_cal_daysBeforeYear (y := 1904) rfl (by decide) (by decide) ?_
                refine rp_iload_n (i := 1) d_cal_findDay_52 rfl rfl ?_
                refine rp_iadd d_cal_findDay_53 ?_
                refine rp_callV1 d_cal_findDay_54 q_cal_findDay_29 (Or.inl ⟨_, _, _, rfl, rfl⟩) (Nat.le_of_ble_eq_true rfl) (Nat.le_of_ble_eq_true rfl) ?_
                have s2' : s ≤ 2957003 := s2
                refine s_cal_setDate (n := k_db 1904 + s) (nI_add _ _) (by have z : k_db 1900 ≤ k_db 1904 := (by decide); omega) (by have z : k_db 10000 = k_db 1904 + 2957004 := (by decide); omega) (fun h' y m dd z1 z2 z3 z4 => ?_)
                refine rp_iconst (v := 1) d_cal_findDay_57 (by decide) ?_
                refine rp_ireturn (ty := .boolean) d_cal_findDay_58 rfl (by first | rfl | decide | assumption) ?_
                exact k1 h' s y m dd rfl s1 s2 (by rw [k_day, if_pos rfl]; exact z1) z2 (z4.trans w4) ⟨fun o k e => (z3.1 o k e).trans (wf.1 o k e), z3.2.trans wf.2⟩
            · exact absurd (Int32.not_lt.mp hhi) c21
  | false =>
    by_cases hlo : x < nI (k_lo false)
    · have k0 := k0 (Or.inl hlo)
      refine rp_iload_n (i := 1) d_cal_findDay_0 rfl rfl ?_
      refine rp_aload_n (i := 0) d_cal_findDay_1 rfl rfl ?_
      refine rp_getI d_cal_findDay_2 f_cal_9 rfl ?_
      refine rp_if_eq (tgt := 12) d_cal_findDay_5 (by decide) (fun c5 => ?_) (fun c5 => ?_)
      · refine rp_iconst (v := 1) d_cal_findDay_12 (by decide) ?_
        refine rp_icmp_lt (tgt := 24) d_cal_findDay_13 (by decide) (fun c13 => ?_) (fun c13 => ?_)
        · refine rp_iconst (v := 0) d_cal_findDay_24 (by decide) ?_
          refine rp_ireturn (ty := .boolean) d_cal_findDay_25 rfl (by first | rfl | decide | assumption) ?_
          exact k0
        · exact absurd hlo c13
      · exact absurd hc c5
    · by_cases hhi : nI (k_hi false) < x
      · have k0 := k0 (Or.inr hhi)
        refine rp_iload_n (i := 1) d_cal_findDay_0 rfl rfl ?_
        refine rp_aload_n (i := 0) d_cal_findDay_1 rfl rfl ?_
        refine rp_getI d_cal_findDay_2 f_cal_9 rfl ?_
        refine rp_if_eq (tgt := 12) d_cal_findDay_5 (by decide) (fun c5 => ?_) (fun c5 => ?_)
        · refine rp_iconst (v := 1) d_cal_findDay_12 (by decide) ?_
          refine rp_icmp_lt (tgt := 24) d_cal_findDay_13 (by decide) (fun c13 => ?_) (fun c13 => ?_)
          · exact absurd c13 hlo
          · refine rp_iload_n (i := 1) d_cal_findDay_16 rfl rfl ?_
            refine rp_aload_n (i := 0) d_cal_findDay_17 rfl rfl ?_
            refine rp_callV0 d_cal_findDay_18 q_cal_findDay_17 (Or.inl ⟨_, _, _, rfl, rfl⟩) (Nat.le_of_ble_eq_true rfl) (Nat.le_of_ble_eq_true rfl) ?_
            refine s_cal_lastSerial hc ?_
            refine rp_icmp_le (tgt := 26) d_cal_findDay_21 (by decide) (fun c21 => ?_) (fun c21 => ?_)
            · exact absurd hhi (Int32.not_lt.mpr c21)
            · refine rp_iconst (v := 0) d_cal_findDay_24 (by decide) ?_
              refine rp_ireturn (ty := .boolean) d_cal_findDay_25 rfl (by first | rfl | decide | assumption) ?_
              exact k0
        · exact absurd hc c5
      · have hx0 : ¬ x < 0 := fun z => hlo (by first | exact z | exact Int32.lt_trans z (by decide))
        obtain ⟨s, hs, rfl⟩ := nI_of hx0
        have s1 : k_lo false ≤ s := Nat.not_lt.mp (fun z => hlo (nI_lt z (by decide)))
        have s2 : s ≤ k_hi false := Nat.not_lt.mp (fun z => hhi (nI_lt z (by omega)))
        refine rp_iload_n (i := 1) d_cal_findDay_0 rfl rfl ?_
        refine rp_aload_n (i := 0) d_cal_findDay_1 rfl rfl ?_
        refine rp_getI d_cal_findDay_2 f_cal_9 rfl ?_
        refine rp_if_eq (tgt := 12) d_cal_findDay_5 (by decide) (fun c5 => ?_) (fun c5 => ?_)
        · refine rp_iconst (v := 1) d_cal_findDay_12 (by decide) ?_
          refine rp_icmp_lt (tgt := 24) d_cal_findDay_13 (by decide) (fun c13 => ?_) (fun c13 => ?_)
          · exact absurd c13 hlo
          · refine rp_iload_n (i := 1) d_cal_findDay_16 rfl rfl ?_
            refine rp_aload_n (i := 0) d_cal_findDay_17 rfl rfl ?_
            refine rp_callV0 d_cal_findDay_18 q_cal_findDay_17 (Or.inl ⟨_, _, _, rfl, rfl⟩) (Nat.le_of_ble_eq_true rfl) (Nat.le_of_ble_eq_true rfl) ?_
            refine s_cal_lastSerial hc ?_
            refine rp_icmp_le (tgt := 26) d_cal_findDay_21 (by decide) (fun c21 => ?_) (fun c21 => ?_)
            · refine rp_aload_n (i := 0) d_cal_findDay_26 rfl rfl ?_
              refine rp_getI d_cal_findDay_27 f_cal_9 rfl ?_
              refine rp_if_eq (tgt := 59) d_cal_findDay_30 (by decide) (fun c30 => ?_) (fun c30 => ?_)
              · refine rp_aload_n (i := 0) d_cal_findDay_59 rfl rfl ?_
                refine rp_iload_n (i := 1) d_cal_findDay_60 rfl rfl ?_
                refine rp_iconst (v := 1) d_cal_findDay_61 (by decide) ?_
                refine rp_isub d_cal_findDay_62 ?_
                refine rp_bipush (v := 7) d_cal_findDay_63 (by decide) ?_
                rw [show nI s - 1 = nI (s - 1) from pk_sub (b := 1) s1]
                refine rp_irem d_cal_findDay_65 (by decide) ?_
                rw [show nI (s - 1) - nI (s - 1) / 7 * 7 = nI ((s - 1) % 7) from pk_rem (d := 7) (by omega) (by decide) (by decide)]
                refine rp_iconst (v := 1) d_cal_findDay_66 (by decide) ?_
                refine rp_iadd d_cal_findDay_67 ?_
                refine rp_putI d_cal_findDay_68 f_cal_21 rfl rfl rfl ?_
                rw [nI_1]
                have w4 : (cf_pI h 12 4 (nI ((s - 1) % 7 + 1))).1 12 4 = nI (k_wd false s) := cf_pI_s
                have wf : k_fr h (cf_pI h 12 4 (nI ((s - 1) % 7 + 1))) := (k_fr.rf h).pI (by simp) _
                generalize cf_pI h 12 4 (nI ((s - 1) % 7 + 1)) = h1 at w4 wf ⊢
                refine rp_iload_n (i := 1) d_cal_findDay_71 rfl rfl ?_
                refine rp_bipush (v := 60) d_cal_findDay_72 (by decide) ?_
                refine rp_icmp_ne (tgt := 98) d_cal_findDay_74 (by decide) (fun c74 => ?_) (fun c74 => ?_)
                · refine rp_aload_n (i := 0) d_cal_findDay_98 rfl rfl ?_
                  refine rp_sipush (v := 1900) d_cal_findDay_99 (by decide) ?_
                  refine rp_callS1 d_cal_findDay_102 q_cal_findDay_25 (Nat.le_of_ble_eq_true rfl) (Nat.le_of_ble_eq_true rfl) ?_
                  refine s_cal_daysBeforeYear (y := 1900) rfl (by decide) (by decide) ?_
                  refine rp_iload_n (i := 1) d_cal_findDay_105 rfl rfl ?_
                  refine rp_iadd d_cal_findDay_106 ?_
                  refine rp_iload_n (i := 1) d_cal_findDay_107 rfl rfl ?_
                  refine rp_bipush (v := 60) d_cal_findDay_108 (by decide) ?_
                  refine rp_icmp_ge (tgt := 117) d_cal_findDay_110 (by decide) (fun c110 => ?_) (fun c110 => ?_)
                  · refine rp_iconst (v := 2) d_cal_findDay_117 (by decide) ?_
                    refine rp_isub d_cal_findDay_118 ?_
                    refine rp_callV1 d_cal_findDay_119 q_cal_findDay_29 (Or.inl ⟨_, _, _, rfl, rfl⟩) (Nat.le_of_ble_eq_true rfl) (Nat.le_of_ble_eq_true rfl) ?_
                    have s2' : s ≤ 2958465 := s2
                    have s1' : 1 ≤ s := s1
                    have q74 : ¬ s = 60 := fun z => c74 (by rw [z]; rfl)
                    have q110 : 60 ≤ s := (nI_leI (a := 60) (by decide) (by omega)).mp c110
                    refine s_cal_setDate (n := k_db 1900 + s - 2) (by rw [nI_add]; exact pk_sub (b := 2) (by omega)) (by omega) (by have z : k_db 10000 = k_db 1900 + 2958464 := (by decide); omega) (fun h' y m dd z1 z2 z3 z4 => ?_)
                    have hday : k_day false s y m dd := by rw [k_day, if_neg (by decide), if_neg q74, if_neg (by omega)]; exact z1
                    refine rp_iconst (v := 1) d_cal_findDay_122 (by decide) ?_
                    refine rp_ireturn (ty := .boolean) d_cal_findDay_123 rfl (by first | rfl | decide | assumption) ?_
                    exact k1 h' s y m dd rfl s1 s2 hday z2 (z4.trans w4) ⟨fun o k e => (z3.1 o k e).trans (wf.1 o k e), z3.2.trans wf.2⟩
                  · refine rp_iconst (v := 1) d_cal_findDay_113 (by decide) ?_
                    refine rp_goto (tgt := 118) d_cal_findDay_114 (by decide) ?_
                    refine rp_isub d_cal_findDay_118 ?_
                    refine rp_callV1 d_cal_findDay_119 q_cal_findDay_29 (Or.inl ⟨_, _, _, rfl, rfl⟩) (Nat.le_of_ble_eq_true rfl) (Nat.le_of_ble_eq_true rfl) ?_
                    have s2' : s ≤ 2958465 := s2
                    have s1' : 1 ≤ s := s1
                    have q74 : ¬ s = 60 := fun z => c74 (by rw [z]; rfl)
                    have q110 : s < 60 := Nat.not_le.mp (fun z => c110 (nI_le (a := 60) z (by omega)))
                    refine s_cal_setDate (n := k_db 1900 + s - 1) (by rw [nI_add]; exact pk_sub (b := 1) (by omega)) (by omega) (by have z : k_db 10000 = k_db 1900 + 2958464 := (by decide); omega) (fun h' y m dd z1 z2 z3 z4 => ?_)
                    have hday : k_day false s y m dd := by rw [k_day, if_neg (by decide), if_neg q74, if_pos (by omega)]; exact z1
                    refine rp_iconst (v := 1) d_cal_findDay_122 (by decide) ?_
                    refine rp_ireturn (ty := .boolean) d_cal_findDay_123 rfl (by first | rfl | decide | assumption) ?_
                    exact k1 h' s y m dd rfl s1 s2 hday z2 (z4.trans w4) ⟨fun o k e => (z3.1 o k e).trans (wf.1 o k e), z3.2.trans wf.2⟩
                · refine rp_aload_n (i := 0) d_cal_findDay_77 rfl rfl ?_
                  refine rp_sipush (v := 1900) d_cal_findDay_78 (by decide) ?_
                  refine rp_putI d_cal_findDay_81 f_cal_33 rfl rfl rfl ?_
                  refine rp_aload_n (i := 0) d_cal_findDay_84 rfl rfl ?_
                  refine rp_iconst (v := 2) d_cal_findDay_85 (by decide) ?_
                  refine rp_putI d_cal_findDay_86 f_cal_36 rfl rfl rfl ?_
                  refine rp_aload_n (i := 0) d_cal_findDay_89 rfl rfl ?_
                  refine rp_bipush (v := 29) d_cal_findDay_90 (by decide) ?_
                  refine rp_putI d_cal_findDay_92 f_cal_39 rfl rfl rfl ?_
                  refine rp_goto (tgt := 122) d_cal_findDay_95 (by decide) ?_
                  refine rp_iconst (v := 1) d_cal_findDay_122 (by decide) ?_
                  refine rp_ireturn (ty := .boolean) d_cal_findDay_123 rfl (by first | rfl | decide | assumption) ?_
                  have q74 : s = 60 := (nI_eq (b := 60) (by omega) (by decide)).mp c74
                  refine k1 _ s 1900 2 29 rfl s1 s2 (by rw [k_day, if_neg (by decide), if_pos q74]; exact ⟨rfl, rfl, rfl⟩) ⟨by rw [cf_pI_k (by decide), cf_pI_k (by decide), cf_pI_s]; rfl, by rw [cf_pI_k (by decide), cf_pI_s]; rfl, cf_pI_s⟩ (by rw [cf_pI_k (by decide), cf_pI_k (by decide), cf_pI_k (by decide)]; exact w4) (((wf.pI (by simp) _).pI (by simp) _).pI (by simp) _)
              · exact absurd hc c30
            · exact absurd (Int32.not_lt.mp hhi) c21
        · exact absurd hc c5
