/-! THE CLASS: Section -/
def s_fr (o : Nat) (h0 h : cf_H) : Prop := (∀ x k, x ≠ o → h.1 x k = h0.1 x k) ∧ (∀ x k, x ≠ o → h.2.1 x k = h0.2.1 x k) ∧ h.2.2.1 = h0.2.2.1 ∧ (∀ x, x ≠ 4 → h.2.2.2 x = h0.2.2.2 x)
def s_B (h0 h : cf_H) (o : Nat) (XS : List r_K) (a b : Nat) : Prop := (9 ≤ o ∧ o ≤ 11) ∧ x_B h XS ∧ h.1 o 0 = nI a ∧ h.1 o 1 = nI b ∧ a ≤ b ∧ b ≤ XS.length ∧ s_fr o h0 h
theorem s_ho {o : Nat} (h : 9 ≤ o ∧ o ≤ 11) : cf_shl[o]? = some (.inl 5) := by
  rcases (show o = 9 ∨ o = 10 ∨ o = 11 by omega) with rfl | rfl | rfl <;> rfl
theorem s_fr.pI {o : Nat} {h0 h : cf_H} (f : s_fr o h0 h) (k : Nat) (x : Int32) : s_fr o h0 (cf_pI h o k x) := ⟨fun y j e => by rw [cf_pI_o e]; exact f.1 y j e, f.2.1, f.2.2.1, f.2.2.2⟩
theorem s_fr.pJ {o : Nat} {h0 h : cf_H} (f : s_fr o h0 h) (k : Nat) (x : Int64) : s_fr o h0 (cf_pJ h o k x) := ⟨f.1, fun y j e => by rw [cf_pJ_o e]; exact f.2.1 y j e, f.2.2.1, f.2.2.2⟩
theorem x_B.pI {h : cf_H} {XS : List r_K} (b : x_B h XS) {o k : Nat} (ho : o ≠ 2) (x : Int32) : x_B (cf_pI h o k x) XS := ⟨b.1, ⟨by rw [cf_pI_o (fun z => ho z.symm)]; exact b.2.1.1, b.2.1.2⟩, b.2.2⟩
theorem x_B.pJ {h : cf_H} {XS : List r_K} (b : x_B h XS) {o k : Nat} (x : Int64) : x_B (cf_pJ h o k x) XS := b
theorem s_B.pI {h0 h : cf_H} {o : Nat} {XS : List r_K} {a b : Nat} (B : s_B h0 h o XS a b) {k : Nat} (hk : 2 ≤ k) (x : Int32) : s_B h0 (cf_pI h o k x) o XS a b := by
  obtain ⟨h1, h2, h3, h4, h5, h6, h7⟩ := B
  exact ⟨h1, h2.pI (by omega) x, by rw [cf_pI_k (by omega)]; exact h3, by rw [cf_pI_k (by omega)]; exact h4, h5, h6, h7.pI k x⟩
theorem s_B.pJ {h0 h : cf_H} {o : Nat} {XS : List r_K} {a b : Nat} (B : s_B h0 h o XS a b) {k : Nat} (x : Int64) : s_B h0 (cf_pJ h o k x) o XS a b := by
  obtain ⟨h1, h2, h3, h4, h5, h6, h7⟩ := B
  exact ⟨h1, h2.pJ x, h3, h4, h5, h6, h7.pJ k x⟩
/-- commas, told apart: grouped, and how many scale -/
def c_cms (ty : Nat → Int32) (ok : Bool) (fp L : Nat) : Nat → Nat → Bool → Nat → Option (Bool × Nat)
  | _, 0, g, sc => some (g, sc)
  | i, n + 1, g, sc => if ty i = 4 then (bif ok then (if fp < i ∧ i + 1 < L then c_cms ty ok fp L (i + 1) n true sc else if i = L + sc then c_cms ty ok fp L (i + 1) n g (sc + 1) else none) else none) else c_cms ty ok fp L (i + 1) n g sc
theorem cf_lst_ge (p : Nat → Bool) (a : Nat) : ∀ n, a ≤ cf_lst p a n ∧ cf_lst p a n ≤ a + n := by
  intro n
  induction n with
  | zero => exact ⟨Nat.le_refl _, Nat.le_refl _⟩
  | succ n ih =>
    unfold cf_lst
    cases p (a + n) with
    | true => simp only [cond_true]; omega
    | false => simp only [cond_false]; omega

set_option maxHeartbeats 4000000 in
set_option maxRecDepth 100000 in
theorem s_sec_hasExponent {h : cf_H} {P : Option Value → cf_H → Prop} {o : Nat} (ho9 : 9 ≤ o ∧ o ≤ 11) (k : P (some (.int (cf_b (!decide (h.1 o 1 ≤ h.1 o 6))))) h) : RP k_sec_hasExponent 0 [(0, .ref o)] [] h P := by
  have ho := s_ho ho9
  refine rp_aload_n (i := 0) d_sec_hasExponent_0 rfl rfl ?_
  refine rp_getI d_sec_hasExponent_1 f_sec_56 ho ?_
  refine rp_aload_n (i := 0) d_sec_hasExponent_4 rfl rfl ?_
  refine rp_getI d_sec_hasExponent_5 f_sec_18 ho ?_
  refine rp_icmp_ge (tgt := 15) d_sec_hasExponent_8 (by decide) (fun c8 => ?_) (fun c8 => ?_)
  · refine rp_iconst (v := 0) d_sec_hasExponent_15 (by decide) ?_
    refine rp_ireturn (ty := .boolean) d_sec_hasExponent_16 rfl (by first | rfl | decide | assumption) ?_
    simpa [cf_b, c8] using k
  · refine rp_iconst (v := 1) d_sec_hasExponent_11 (by decide) ?_
    refine rp_goto (tgt := 16) d_sec_hasExponent_12 (by decide) ?_
    refine rp_ireturn (ty := .boolean) d_sec_hasExponent_16 rfl (by first | rfl | decide | assumption) ?_
    simpa [cf_b, c8] using k
set_option maxHeartbeats 4000000 in
set_option maxRecDepth 100000 in
theorem s_sec_hasCondition {h : cf_H} {P : Option Value → cf_H → Prop} {o : Nat} (ho9 : 9 ≤ o ∧ o ≤ 11) (k : P (some (.int (cf_b (!decide (h.1 o 3 = 0))))) h) : RP k_sec_hasCondition 0 [(0, .ref o)] [] h P := by
  have ho := s_ho ho9
  refine rp_aload_n (i := 0) d_sec_hasCondition_0 rfl rfl ?_
  refine rp_getI d_sec_hasCondition_1 f_sec_45 ho ?_
  refine rp_if_eq (tgt := 11) d_sec_hasCondition_4 (by decide) (fun c4 => ?_) (fun c4 => ?_)
  · refine rp_iconst (v := 0) d_sec_hasCondition_11 (by decide) ?_
    refine rp_ireturn (ty := .boolean) d_sec_hasCondition_12 rfl (by first | rfl | decide | assumption) ?_
    simpa [cf_b, c4] using k
  · refine rp_iconst (v := 1) d_sec_hasCondition_7 (by decide) ?_
    refine rp_goto (tgt := 12) d_sec_hasCondition_8 (by decide) ?_
    refine rp_ireturn (ty := .boolean) d_sec_hasCondition_12 rfl (by first | rfl | decide | assumption) ?_
    simpa [cf_b, c4] using k
set_option maxHeartbeats 4000000 in
set_option maxRecDepth 100000 in
theorem l_sec_countFields {h0 h : cf_H} {P : Option Value → cf_H → Prop} {o : Nat} {XS : List r_K} {a b : Nat} (B : s_B h0 h o XS a b) : ∀ (n i q : Nat), i + n = b → (k : P (some (.int (nI (q + cf_cnt (x_fd XS) i n)))) h) → RP k_sec_countFields 7 [(0, .ref o), (1, .ref 2), (2, .int (nI q)), (3, .int (nI i))] [] h P := by
  obtain ⟨ho9, hB, ha, hb, hab, hbl, hfr⟩ := id B
  have ho := s_ho ho9
  have h40 := hB.2.2
  have hR := hB.1
  intro n
  induction n with
  | zero =>
    intro i q e k
    have e : i = b := e
    subst e
    refine rp_iload_n (i := 3) d_sec_countFields_7 rfl rfl ?_
    refine rp_aload_n (i := 0) d_sec_countFields_8 rfl rfl ?_
    refine rp_getI d_sec_countFields_9 f_sec_18 ho ?_
    refine rp_icmp_ge (tgt := 32) d_sec_countFields_12 (by decide) (fun c12 => ?_) (fun c12 => ?_)
    · refine rp_iload_n (i := 2) d_sec_countFields_32 rfl rfl ?_
      refine rp_ireturn (ty := .int) d_sec_countFields_33 rfl rfl ?_
      exact k
    · exact absurd (by rw [hb]; exact nI_le (Nat.le_refl _) (by omega)) c12
  | succ n ih =>
    intro i q e k
    refine rp_iload_n (i := 3) d_sec_countFields_7 rfl rfl ?_
    refine rp_aload_n (i := 0) d_sec_countFields_8 rfl rfl ?_
    refine rp_getI d_sec_countFields_9 f_sec_18 ho ?_
    refine rp_icmp_ge (tgt := 32) d_sec_countFields_12 (by decide) (fun c12 => ?_) (fun c12 => ?_)
    · exact absurd c12 (by rw [hb]; exact nI_ge (by omega) (by omega))
    · refine rp_aload_n (i := 1) d_sec_countFields_15 rfl rfl ?_
      refine rp_iload_n (i := 3) d_sec_countFields_16 rfl rfl ?_
      refine rp_callV1 d_sec_countFields_17 q_sec_countFields_59 (Or.inl ⟨_, _, _, rfl, rfl⟩) (Nat.le_of_ble_eq_true rfl) (Nat.le_of_ble_eq_true rfl) ?_
      refine t_isField hB rfl (by omega) ?_
      refine rp_if_eq (tgt := 26) d_sec_countFields_20 (by decide) (fun c20 => ?_) (fun c20 => ?_)
      · refine rp_iinc (i := 3) (y := 1) d_sec_countFields_26 rfl (by decide) rfl (Nat.le_of_ble_eq_true rfl) ?_
        refine rp_goto (tgt := 7) d_sec_countFields_29 (by decide) ?_
        cases ef : x_fd XS i
        · (first
          | (refine rp_lv [(0, .ref o), (1, .ref 2), (2, .int (nI q)), (3, .int (nI (i + 1)))] (by simp only [nI_succ]; rfl) ?_; refine ih (i + 1) q (by omega) ?_; simpa [cf_cnt, ef] using k)
          | (rw [ef] at c20; exact absurd rfl c20))
        · (first
          | (refine rp_lv [(0, .ref o), (1, .ref 2), (2, .int (nI (q + 1))), (3, .int (nI (i + 1)))] (by simp only [nI_succ]; rfl) ?_; refine ih (i + 1) (q + 1) (by omega) ?_; simpa [cf_cnt, ef, Nat.add_assoc] using k)
          | (rw [ef] at c20; exact absurd c20 (by decide)))
      · refine rp_iinc (i := 2) (y := 1) d_sec_countFields_23 rfl (by decide) rfl (Nat.le_of_ble_eq_true rfl) ?_
        refine rp_iinc (i := 3) (y := 1) d_sec_countFields_26 rfl (by decide) rfl (Nat.le_of_ble_eq_true rfl) ?_
        refine rp_goto (tgt := 7) d_sec_countFields_29 (by decide) ?_
        cases ef : x_fd XS i
        · (first
          | (refine rp_lv [(0, .ref o), (1, .ref 2), (2, .int (nI q)), (3, .int (nI (i + 1)))] (by simp only [nI_succ]; rfl) ?_; refine ih (i + 1) q (by omega) ?_; simpa [cf_cnt, ef] using k)
          | (rw [ef] at c20; exact absurd rfl c20))
        · (first
          | (refine rp_lv [(0, .ref o), (1, .ref 2), (2, .int (nI (q + 1))), (3, .int (nI (i + 1)))] (by simp only [nI_succ]; rfl) ?_; refine ih (i + 1) (q + 1) (by omega) ?_; simpa [cf_cnt, ef, Nat.add_assoc] using k)
          | (rw [ef] at c20; exact absurd c20 (by decide)))
set_option maxHeartbeats 4000000 in
set_option maxRecDepth 100000 in
theorem s_sec_countFields {h0 h : cf_H} {P : Option Value → cf_H → Prop} {o : Nat} {XS : List r_K} {a b : Nat} (B : s_B h0 h o XS a b) (k : P (some (.int (nI (cf_cnt (x_fd XS) a (b - a))))) h) : RP k_sec_countFields 0 [(0, .ref o), (1, .ref 2)] [] h P := by
  obtain ⟨ho9, hB, ha, hb, hab, hbl, hfr⟩ := id B
  have ho := s_ho ho9
  have h40 := hB.2.2
  have hR := hB.1
  refine rp_iconst (v := 0) d_sec_countFields_0 (by decide) ?_
  refine rp_istore_n (i := 2) d_sec_countFields_1 rfl rfl (Nat.le_of_ble_eq_true rfl) ?_
  refine rp_aload_n (i := 0) d_sec_countFields_2 rfl rfl ?_
  refine rp_getI d_sec_countFields_3 f_sec_15 ho ?_
  refine rp_istore_n (i := 3) d_sec_countFields_6 rfl rfl (Nat.le_of_ble_eq_true rfl) ?_
  refine rp_lv [(0, .ref o), (1, .ref 2), (2, .int (nI 0)), (3, .int (nI a))] (by rw [← ha]; rfl) ?_
  exact l_sec_countFields B (b - a) a 0 (by omega) (by rw [Nat.zero_add]; exact k)
set_option maxHeartbeats 4000000 in
set_option maxRecDepth 100000 in
theorem s_sec_hasNumberMarks {h0 h : cf_H} {P : Option Value → cf_H → Prop} {o : Nat} {XS : List r_K} {a b : Nat} (B : s_B h0 h o XS a b) (k : P (some (.int (cf_b (!decide (r_ct (x_ty XS) 3 a b = 0 ∧ r_ct (x_ty XS) 4 a b = 0 ∧ r_ct (x_ty XS) 5 a b = 0 ∧ r_ct (x_ty XS) 6 a b = 0))))) h) : RP k_sec_hasNumberMarks 0 [(0, .ref o), (1, .ref 2)] [] h P := by
  obtain ⟨ho9, hB, ha, hb, hab, hbl, hfr⟩ := id B
  have ho := s_ho ho9
  have h40 := hB.2.2
  have hR := hB.1
  have m3 := r_ct_le (x_ty XS) 3 a b
  have m4 := r_ct_le (x_ty XS) 4 a b
  have m5 := r_ct_le (x_ty XS) 5 a b
  have m6 := r_ct_le (x_ty XS) 6 a b
  have zz : ∀ m : Nat, m < 2 ^ 31 → (0 < nI m ↔ ¬ m = 0) := fun m hm => ⟨fun z y => by subst y; exact absurd z (by decide), fun z => nI_lt (a := 0) (by omega) hm⟩
  refine rp_aload_n (i := 1) d_sec_hasNumberMarks_0 rfl rfl ?_
  refine rp_iconst (v := 3) d_sec_hasNumberMarks_1 (by decide) ?_
  refine rp_aload_n (i := 0) d_sec_hasNumberMarks_2 rfl rfl ?_
  refine rp_getI d_sec_hasNumberMarks_3 f_sec_15 ho ?_
  refine rp_aload_n (i := 0) d_sec_hasNumberMarks_6 rfl rfl ?_
  refine rp_getI d_sec_hasNumberMarks_7 f_sec_18 ho ?_
  refine rp_callV3 d_sec_hasNumberMarks_10 q_sec_hasNumberMarks_21 (Or.inl ⟨_, _, _, rfl, rfl⟩) (Nat.le_of_ble_eq_true rfl) (Nat.le_of_ble_eq_true rfl) ?_
  refine t_count hB ha hb hab (by omega) ?_
  refine rp_if_gt (tgt := 65) d_sec_hasNumberMarks_13 (by decide) (fun c13 => ?_) (fun c13 => ?_)
  · refine rp_iconst (v := 1) d_sec_hasNumberMarks_65 (by decide) ?_
    refine rp_goto (tgt := 70) d_sec_hasNumberMarks_66 (by decide) ?_
    refine rp_ireturn (ty := .boolean) d_sec_hasNumberMarks_70 rfl (by first | rfl | decide | assumption) ?_
    rw [zz _ (by omega)] at c13
    simpa [cf_b, c13] using k
  · refine rp_aload_n (i := 1) d_sec_hasNumberMarks_16 rfl rfl ?_
    refine rp_iconst (v := 4) d_sec_hasNumberMarks_17 (by decide) ?_
    refine rp_aload_n (i := 0) d_sec_hasNumberMarks_18 rfl rfl ?_
    refine rp_getI d_sec_hasNumberMarks_19 f_sec_15 ho ?_
    refine rp_aload_n (i := 0) d_sec_hasNumberMarks_22 rfl rfl ?_
    refine rp_getI d_sec_hasNumberMarks_23 f_sec_18 ho ?_
    refine rp_callV3 d_sec_hasNumberMarks_26 q_sec_hasNumberMarks_21 (Or.inl ⟨_, _, _, rfl, rfl⟩) (Nat.le_of_ble_eq_true rfl) (Nat.le_of_ble_eq_true rfl) ?_
    refine t_count hB ha hb hab (by omega) ?_
    refine rp_if_gt (tgt := 65) d_sec_hasNumberMarks_29 (by decide) (fun c29 => ?_) (fun c29 => ?_)
    · refine rp_iconst (v := 1) d_sec_hasNumberMarks_65 (by decide) ?_
      refine rp_goto (tgt := 70) d_sec_hasNumberMarks_66 (by decide) ?_
      refine rp_ireturn (ty := .boolean) d_sec_hasNumberMarks_70 rfl (by first | rfl | decide | assumption) ?_
      rw [zz _ (by omega)] at c13
      rw [zz _ (by omega)] at c29
      replace c13 := Decidable.not_not.mp c13
      simpa [cf_b, c13, c29] using k
    · refine rp_aload_n (i := 1) d_sec_hasNumberMarks_32 rfl rfl ?_
      refine rp_iconst (v := 5) d_sec_hasNumberMarks_33 (by decide) ?_
      refine rp_aload_n (i := 0) d_sec_hasNumberMarks_34 rfl rfl ?_
      refine rp_getI d_sec_hasNumberMarks_35 f_sec_15 ho ?_
      refine rp_aload_n (i := 0) d_sec_hasNumberMarks_38 rfl rfl ?_
      refine rp_getI d_sec_hasNumberMarks_39 f_sec_18 ho ?_
      refine rp_callV3 d_sec_hasNumberMarks_42 q_sec_hasNumberMarks_21 (Or.inl ⟨_, _, _, rfl, rfl⟩) (Nat.le_of_ble_eq_true rfl) (Nat.le_of_ble_eq_true rfl) ?_
      refine t_count hB ha hb hab (by omega) ?_
      refine rp_if_gt (tgt := 65) d_sec_hasNumberMarks_45 (by decide) (fun c45 => ?_) (fun c45 => ?_)
      · refine rp_iconst (v := 1) d_sec_hasNumberMarks_65 (by decide) ?_
        refine rp_goto (tgt := 70) d_sec_hasNumberMarks_66 (by decide) ?_
        refine rp_ireturn (ty := .boolean) d_sec_hasNumberMarks_70 rfl (by first | rfl | decide | assumption) ?_
        rw [zz _ (by omega)] at c13
        rw [zz _ (by omega)] at c29
        rw [zz _ (by omega)] at c45
        replace c13 := Decidable.not_not.mp c13
        replace c29 := Decidable.not_not.mp c29
        simpa [cf_b, c13, c29, c45] using k
      · refine rp_aload_n (i := 1) d_sec_hasNumberMarks_48 rfl rfl ?_
        refine rp_bipush (v := 6) d_sec_hasNumberMarks_49 (by decide) ?_
        refine rp_aload_n (i := 0) d_sec_hasNumberMarks_51 rfl rfl ?_
        refine rp_getI d_sec_hasNumberMarks_52 f_sec_15 ho ?_
        refine rp_aload_n (i := 0) d_sec_hasNumberMarks_55 rfl rfl ?_
        refine rp_getI d_sec_hasNumberMarks_56 f_sec_18 ho ?_
        refine rp_callV3 d_sec_hasNumberMarks_59 q_sec_hasNumberMarks_21 (Or.inl ⟨_, _, _, rfl, rfl⟩) (Nat.le_of_ble_eq_true rfl) (Nat.le_of_ble_eq_true rfl) ?_
        refine t_count hB ha hb hab (by omega) ?_
        refine rp_if_le (tgt := 69) d_sec_hasNumberMarks_62 (by decide) (fun c62 => ?_) (fun c62 => ?_)
        · refine rp_iconst (v := 0) d_sec_hasNumberMarks_69 (by decide) ?_
          refine rp_ireturn (ty := .boolean) d_sec_hasNumberMarks_70 rfl (by first | rfl | decide | assumption) ?_
          rw [zz _ (by omega)] at c13
          rw [zz _ (by omega)] at c29
          rw [zz _ (by omega)] at c45
          rw [z_le (by omega)] at c62
          replace c13 := Decidable.not_not.mp c13
          replace c29 := Decidable.not_not.mp c29
          replace c45 := Decidable.not_not.mp c45
          simpa [cf_b, c13, c29, c45, c62] using k
        · refine rp_iconst (v := 1) d_sec_hasNumberMarks_65 (by decide) ?_
          refine rp_goto (tgt := 70) d_sec_hasNumberMarks_66 (by decide) ?_
          refine rp_ireturn (ty := .boolean) d_sec_hasNumberMarks_70 rfl (by first | rfl | decide | assumption) ?_
          rw [zz _ (by omega)] at c13
          rw [zz _ (by omega)] at c29
          rw [zz _ (by omega)] at c45
          rw [z_le (by omega)] at c62
          replace c13 := Decidable.not_not.mp c13
          replace c29 := Decidable.not_not.mp c29
          replace c45 := Decidable.not_not.mp c45
          simpa [cf_b, c13, c29, c45, c62] using k
set_option maxHeartbeats 4000000 in
set_option maxRecDepth 100000 in
theorem s_sec_readCondition {h0 h : cf_H} {P : Option Value → cf_H → Prop} {o : Nat} {XS : List r_K} {a b : Nat} (B : s_B h0 h o XS a b) (k0 : r_ct (x_ty XS) 7 a b = 0 → P (some (.int 1)) (cf_pJ (cf_pI h o 3 0) o 4 0)) (k1 : 1 < r_ct (x_ty XS) 7 a b ∨ (r_ct (x_ty XS) 7 a b = 1 ∧ ¬ x_ty XS a = 7) → P (some (.int 0)) (cf_pJ (cf_pI h o 3 0) o 4 0)) (k2 : r_ct (x_ty XS) 7 a b = 1 → x_ty XS a = 7 → P (some (.int 1)) (cf_pJ (cf_pI (cf_pJ (cf_pI h o 3 0) o 4 0) o 3 (x_de XS a)) o 4 ((x_va XS a).toInt64 * 1000000))) : RP k_sec_readCondition 0 [(0, .ref o), (1, .ref 2)] [] h P := by
  have B1 : s_B h0 (cf_pJ (cf_pI h o 3 0) o 4 0) o XS a b := (B.pI (by decide) 0).pJ 0
  refine rp_aload_n (i := 0) d_sec_readCondition_0 rfl rfl ?_
  refine rp_iconst (v := 0) d_sec_readCondition_1 (by decide) ?_
  refine rp_putI d_sec_readCondition_2 f_sec_45 (s_ho B.1) rfl rfl ?_
  refine rp_aload_n (i := 0) d_sec_readCondition_5 rfl rfl ?_
  refine rp_lconst (v := 0) d_sec_readCondition_6 (by decide) ?_
  refine rp_putJ d_sec_readCondition_7 f_sec_52 (s_ho B.1) rfl rfl ?_
  generalize cf_pJ (cf_pI h o 3 0) o 4 0 = h1 at B1 k0 k1 k2 ⊢
  obtain ⟨ho9, hB, ha, hb, hab, hbl, hfr⟩ := id B1
  have ho := s_ho ho9
  have h40 := hB.2.2
  have hR := hB.1
  have m7 := r_ct_le (x_ty XS) 7 a b
  have hlt : ¬ r_ct (x_ty XS) 7 a b = 0 → a < b := fun z => by omega
  refine rp_aload_n (i := 1) d_sec_readCondition_10 rfl rfl ?_
  refine rp_bipush (v := 7) d_sec_readCondition_11 (by decide) ?_
  refine rp_aload_n (i := 0) d_sec_readCondition_13 rfl rfl ?_
  refine rp_getI d_sec_readCondition_14 f_sec_15 ho ?_
  refine rp_aload_n (i := 0) d_sec_readCondition_17 rfl rfl ?_
  refine rp_getI d_sec_readCondition_18 f_sec_18 ho ?_
  refine rp_callV3 d_sec_readCondition_21 q_sec_readCondition_21 (Or.inl ⟨_, _, _, rfl, rfl⟩) (Nat.le_of_ble_eq_true rfl) (Nat.le_of_ble_eq_true rfl) ?_
  refine t_count hB ha hb hab (by omega) ?_
  refine rp_istore_n (i := 2) d_sec_readCondition_24 rfl rfl (Nat.le_of_ble_eq_true rfl) ?_
  refine rp_iload_n (i := 2) d_sec_readCondition_25 rfl rfl ?_
  refine rp_if_ne (tgt := 31) d_sec_readCondition_26 (by decide) (fun c26 => ?_) (fun c26 => ?_)
  · refine rp_iload_n (i := 2) d_sec_readCondition_31 rfl rfl ?_
    refine rp_iconst (v := 1) d_sec_readCondition_32 (by decide) ?_
    refine rp_icmp_gt (tgt := 49) d_sec_readCondition_33 (by decide) (fun c33 => ?_) (fun c33 => ?_)
    · refine rp_iconst (v := 0) d_sec_readCondition_49 (by decide) ?_
      refine rp_ireturn (ty := .boolean) d_sec_readCondition_50 rfl (by first | rfl | decide | assumption) ?_
      exact k1 (Or.inl (by by_cases z : r_ct (x_ty XS) 7 a b ≤ 1; exact absurd c33 (nI_nlt (a := 1) (b := r_ct (x_ty XS) 7 a b) z (by decide)); omega))
    · refine rp_aload_n (i := 1) d_sec_readCondition_36 rfl rfl ?_
      refine rp_aload_n (i := 0) d_sec_readCondition_37 rfl rfl ?_
      refine rp_getI d_sec_readCondition_38 f_sec_15 ho ?_
      refine rp_callV1 d_sec_readCondition_41 q_sec_readCondition_63 (Or.inl ⟨_, _, _, rfl, rfl⟩) (Nat.le_of_ble_eq_true rfl) (Nat.le_of_ble_eq_true rfl) ?_
      refine t_typeAt hB ha (by omega) ?_
      refine rp_bipush (v := 7) d_sec_readCondition_44 (by decide) ?_
      refine rp_icmp_eq (tgt := 51) d_sec_readCondition_46 (by decide) (fun c46 => ?_) (fun c46 => ?_)
      · refine rp_aload_n (i := 0) d_sec_readCondition_51 rfl rfl ?_
        refine rp_aload_n (i := 1) d_sec_readCondition_52 rfl rfl ?_
        refine rp_aload_n (i := 0) d_sec_readCondition_53 rfl rfl ?_
        refine rp_getI d_sec_readCondition_54 f_sec_15 ho ?_
        refine rp_callV1 d_sec_readCondition_57 q_sec_readCondition_67 (Or.inl ⟨_, _, _, rfl, rfl⟩) (Nat.le_of_ble_eq_true rfl) (Nat.le_of_ble_eq_true rfl) ?_
        refine t_detailAt hB ha (by omega) ?_
        refine rp_putI d_sec_readCondition_60 f_sec_45 ho rfl rfl ?_
        have B2 := B1.pI (k := 3) (by decide) (x_de XS a)
        generalize hh2 : cf_pI h1 o 3 (x_de XS a) = h2 at B2 k2 ⊢
        refine rp_aload_n (i := 0) d_sec_readCondition_63 rfl rfl ?_
        refine rp_aload_n (i := 1) d_sec_readCondition_64 rfl rfl ?_
        refine rp_aload_n (i := 0) d_sec_readCondition_65 rfl rfl ?_
        refine rp_getI d_sec_readCondition_66 f_sec_15 ho ?_
        refine rp_callV1 d_sec_readCondition_69 q_sec_readCondition_70 (Or.inl ⟨_, _, _, rfl, rfl⟩) (Nat.le_of_ble_eq_true rfl) (Nat.le_of_ble_eq_true rfl) ?_
        refine t_valueAt B2.2.1 B2.2.2.1 (by omega) ?_
        refine rp_i2l d_sec_readCondition_72 ?_
        refine rp_ldc2 (v := 1000000) d_sec_readCondition_73 l_sec_73 ?_
        refine rp_lmul d_sec_readCondition_76 ?_
        refine rp_putJ d_sec_readCondition_77 f_sec_52 ho rfl rfl ?_
        refine rp_iconst (v := 1) d_sec_readCondition_80 (by decide) ?_
        refine rp_ireturn (ty := .boolean) d_sec_readCondition_81 rfl (by first | rfl | decide | assumption) ?_
        rw [z_eq (by omega)] at c26
        exact k2 (by have := Nat.not_lt.mp (fun z => c33 (nI_lt (a := 1) (b := r_ct (x_ty XS) 7 a b) z (by omega))); omega) c46
      · refine rp_iconst (v := 0) d_sec_readCondition_49 (by decide) ?_
        refine rp_ireturn (ty := .boolean) d_sec_readCondition_50 rfl (by first | rfl | decide | assumption) ?_
        rw [z_eq (by omega)] at c26
        exact k1 (Or.inr ⟨by have := Nat.not_lt.mp (fun z => c33 (nI_lt (a := 1) (b := r_ct (x_ty XS) 7 a b) z (by omega))); omega, c46⟩)
  · refine rp_iconst (v := 1) d_sec_readCondition_29 (by decide) ?_
    refine rp_ireturn (ty := .boolean) d_sec_readCondition_30 rfl (by first | rfl | decide | assumption) ?_
    exact k0 ((z_eq (by omega)).mp c26)
