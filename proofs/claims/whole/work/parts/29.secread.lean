/-! THE CLASS: Section.read -/
def c_rd2 (XS : List r_K) (a b : Nat) : Bool := if c_kd XS a b = 1 then (c_num (x_ty XS) a b).isSome else c_mk XS a b
def c_rd (XS : List r_K) (a b : Nat) : Bool := c_cond XS a b && c_rd2 XS a b
/-- the tokens behind a section's read -/
def x_rd (XS : List r_K) (a b : Nat) : List r_K := if c_kd XS a b = 1 then XS else x_mn XS a b b
/-- all that a section knows that was read and is well made -/
def s_W (h : cf_H) (o : Nat) (XS : List r_K) (a b : Nat) : Prop := s_G h o XS a b ∧ (c_kd XS a b = 1 → ∃ gr sc, c_num (x_ty XS) a b = some (gr, sc) ∧ s_num h o (x_ty XS) a b gr sc) ∧ (¬ c_kd XS a b = 1 → h.1 o 13 = cf_b (!decide (r_ct (x_ty XS) 10 a b = 0)) ∧ h.1 o 14 = cf_b (x_any (x_dy XS a b) a (b - a)))

set_option maxHeartbeats 4000000 in
set_option maxRecDepth 100000 in
theorem t_read65 {h h3 : cf_H} {P : Option Value → cf_H → Prop} {o : Nat} {XS : List r_K} {a b : Nat} (B : s_B h h3 o XS a b) (g2 : h3.1 o 2 = c_kd XS a b) (g3 : h3.1 o 3 = c_tst2 XS a b) (g4 : h3.2.1 o 4 = c_bnd XS a b) (kt : ∀ h', c_rd2 XS a b = true → s_fr o h h' → x_B h' (x_rd XS a b) → s_W h' o XS a b → P (some (.int 1)) h') (kf : ∀ h', c_rd2 XS a b = false → s_fr o h h' → P (some (.int 0)) h') : RP k_sec_read 65 [(0, .ref o), (1, .ref 2), (4, .int (nI (r_ct (x_ty XS) 2 a b)))] [] h3 P := by
  obtain ⟨ho9, hB, ha, hb, hab, hbl, hfr⟩ := id B
  have ho := s_ho ho9
  have h40 := hB.2.2
  have m2 := r_ct_le (x_ty XS) 2 a b
  refine rp_aload_n (i := 0) d_sec_read_65 rfl rfl ?_
  refine rp_getI d_sec_read_66 f_sec_9 ho ?_
  refine rp_iconst (v := 1) d_sec_read_69 (by decide) ?_
  refine rp_icmp_ne (tgt := 79) d_sec_read_70 (by decide) (fun c70 => ?_) (fun c70 => ?_)
  · refine rp_aload_n (i := 0) d_sec_read_79 rfl rfl ?_
    refine rp_aload_n (i := 1) d_sec_read_80 rfl rfl ?_
    refine rp_callV1 d_sec_read_81 q_sec_read_38 (Or.inl ⟨_, _, _, ho, rfl⟩) (Nat.le_of_ble_eq_true rfl) (Nat.le_of_ble_eq_true rfl) ?_
    have hk : ¬ c_kd XS a b = 1 := by rw [← g2]; exact c70
    refine s_sec_readFields B (fun h' z1 z2 z3 z4 => ?_)
    refine rp_iload (i := 4) d_sec_read_84 rfl ?_
    refine rp_if_ne (tgt := 101) d_sec_read_86 (by decide) (fun c86 => ?_) (fun c86 => ?_)
    · refine rp_iconst (v := 0) d_sec_read_101 (by decide) ?_
      refine rp_ireturn (ty := .boolean) d_sec_read_102 rfl (by first | rfl | decide | assumption) ?_
      rw [z_eq (by omega)] at c86
      refine kf h' (by rw [c_rd2, if_neg hk, c_mk, decide_eq_false c86]; rfl) z1.2.2.2.2.2.2
    · refine rp_aload_n (i := 0) d_sec_read_89 rfl rfl ?_
      refine rp_aload_n (i := 1) d_sec_read_90 rfl rfl ?_
      refine rp_callV1 d_sec_read_91 q_sec_read_42 (Or.inl ⟨_, _, _, ho, rfl⟩) (Nat.le_of_ble_eq_true rfl) (Nat.le_of_ble_eq_true rfl) ?_
      refine s_sec_hasNumberMarks z1 ?_
      rw [r_ct_mn, r_ct_mn, r_ct_mn, r_ct_mn]
      refine rp_if_ne (tgt := 101) d_sec_read_94 (by decide) (fun c94 => ?_) (fun c94 => ?_)
      · refine rp_iconst (v := 0) d_sec_read_101 (by decide) ?_
        refine rp_ireturn (ty := .boolean) d_sec_read_102 rfl (by first | rfl | decide | assumption) ?_
        rw [z_eq (by omega)] at c86
        refine kf h' ?_ z1.2.2.2.2.2.2
        rw [c_rd2, if_neg hk, c_mk, decide_eq_true c86, Bool.true_and]
        cases ed : decide (r_ct (x_ty XS) 3 a b = 0 ∧ r_ct (x_ty XS) 4 a b = 0 ∧ r_ct (x_ty XS) 5 a b = 0 ∧ r_ct (x_ty XS) 6 a b = 0) with
        | false => rfl
        | true => rw [ed] at c94; exact absurd rfl c94
      · refine rp_iconst (v := 1) d_sec_read_97 (by decide) ?_
        refine rp_goto (tgt := 102) d_sec_read_98 (by decide) ?_
        refine rp_ireturn (ty := .boolean) d_sec_read_102 rfl (by first | rfl | decide | assumption) ?_
        rw [z_eq (by omega)] at c86
        refine kt h' ?_ z1.2.2.2.2.2.2 (by rw [x_rd, if_neg hk]; exact z1.2.1) ⟨⟨z1.2.2.1, z1.2.2.2.1, by rw [z2.1 2 (by decide) (by decide)]; exact g2, by rw [z2.1 3 (by decide) (by decide)]; exact g3, by rw [z2.2]; exact g4⟩, fun y => absurd y hk, fun _ => ⟨z3, z4⟩⟩
        rw [c_rd2, if_neg hk, c_mk, decide_eq_true c86, Bool.true_and]
        cases ed : decide (r_ct (x_ty XS) 3 a b = 0 ∧ r_ct (x_ty XS) 4 a b = 0 ∧ r_ct (x_ty XS) 5 a b = 0 ∧ r_ct (x_ty XS) 6 a b = 0) with
        | true => rfl
        | false => rw [ed] at c94; exact absurd c94 (by decide)
  · refine rp_aload_n (i := 0) d_sec_read_73 rfl rfl ?_
    refine rp_aload_n (i := 1) d_sec_read_74 rfl rfl ?_
    refine rp_callV1 d_sec_read_75 q_sec_read_35 (Or.inl ⟨_, _, _, ho, rfl⟩) (Nat.le_of_ble_eq_true rfl) (Nat.le_of_ble_eq_true rfl) ?_
    have hk : c_kd XS a b = 1 := by rw [← g2]; exact c70
    refine s_sec_readNumber B (fun h' gr sc z1 z2 z3 z4 => ?_) (fun h' z1 z2 => ?_)
    · refine rp_ireturn (ty := .boolean) d_sec_read_78 rfl rfl ?_
      exact kt h' (by rw [c_rd2, if_pos hk, z1]; rfl) z2.2.2.2.2.2.2 (by rw [x_rd, if_pos hk]; exact z2.2.1) ⟨⟨z2.2.2.1, z2.2.2.2.1, by rw [z3.1 2 (by decide)]; exact g2, by rw [z3.1 3 (by decide)]; exact g3, by rw [z3.2]; exact g4⟩, fun _ => ⟨gr, sc, z1, z4⟩, fun y => absurd hk y⟩
    · refine rp_ireturn (ty := .boolean) d_sec_read_78 rfl rfl ?_
      exact kf h' (by rw [c_rd2, if_pos hk, z1]; rfl) z2.2.2.2.2.2.2
set_option maxHeartbeats 4000000 in
set_option maxRecDepth 100000 in
theorem t_read55 {h h2 : cf_H} {P : Option Value → cf_H → Prop} {o : Nat} {XS : List r_K} {a b : Nat} (B : s_B h h2 o XS a b) (g2 : h2.1 o 2 = c_kd XS a b) (kt : ∀ h', c_rd XS a b = true → s_fr o h h' → x_B h' (x_rd XS a b) → s_W h' o XS a b → P (some (.int 1)) h') (kf : ∀ h', c_rd XS a b = false → s_fr o h h' → P (some (.int 0)) h') : RP k_sec_read 55 [(0, .ref o), (1, .ref 2), (4, .int (nI (r_ct (x_ty XS) 2 a b)))] [] h2 P := by
  obtain ⟨ho9, hB, ha, hb, hab, hbl, hfr⟩ := id B
  have ho := s_ho ho9
  have B3 := (B.pI (k := 3) (by decide) 0).pJ (k := 4) 0
  have e2 : (cf_pJ (cf_pI h2 o 3 0) o 4 0).1 o 2 = c_kd XS a b := by rw [g_J1, cf_pI_k (by decide)]; exact g2
  have e3 : (cf_pJ (cf_pI h2 o 3 0) o 4 0).1 o 3 = 0 := by rw [g_J1, cf_pI_s]
  have e4 : (cf_pJ (cf_pI h2 o 3 0) o 4 0).2.1 o 4 = 0 := cf_pJ_s
  have B4 := (B3.pI (k := 3) (by decide) (x_de XS a)).pJ (k := 4) ((x_va XS a).toInt64 * 1000000)
  have f2 : (cf_pJ (cf_pI (cf_pJ (cf_pI h2 o 3 0) o 4 0) o 3 (x_de XS a)) o 4 ((x_va XS a).toInt64 * 1000000)).1 o 2 = c_kd XS a b := by rw [g_J1, cf_pI_k (by decide)]; exact e2
  have f3 : (cf_pJ (cf_pI (cf_pJ (cf_pI h2 o 3 0) o 4 0) o 3 (x_de XS a)) o 4 ((x_va XS a).toInt64 * 1000000)).1 o 3 = x_de XS a := by rw [g_J1, cf_pI_s]
  have f4 : (cf_pJ (cf_pI (cf_pJ (cf_pI h2 o 3 0) o 4 0) o 3 (x_de XS a)) o 4 ((x_va XS a).toInt64 * 1000000)).2.1 o 4 = (x_va XS a).toInt64 * 1000000 := cf_pJ_s
  refine rp_aload_n (i := 0) d_sec_read_55 rfl rfl ?_
  refine rp_aload_n (i := 1) d_sec_read_56 rfl rfl ?_
  refine rp_callV1 d_sec_read_57 q_sec_read_31 (Or.inl ⟨_, _, _, ho, rfl⟩) (Nat.le_of_ble_eq_true rfl) (Nat.le_of_ble_eq_true rfl) ?_
  refine s_sec_readCondition B (fun z => ?_) (fun z => ?_) (fun z z2 => ?_)
  · generalize cf_pJ (cf_pI h2 o 3 0) o 4 0 = h3 at B3 e2 e3 e4 ⊢
    have hc : c_cond XS a b = true := by rw [c_cond, decide_eq_true z]; rfl
    refine rp_if_ne (tgt := 65) d_sec_read_60 (by decide) (fun c60 => ?_) (fun c60 => ?_)
    · exact t_read65 B3 e2 (by rw [c_tst2, if_pos z]; exact e3) (by rw [c_bnd, if_pos z]; exact e4) (fun h' y => kt h' (by rw [c_rd, hc, y]; rfl)) (fun h' y => kf h' (by rw [c_rd, hc, y]; rfl))
    · exact absurd c60 (by decide)
  · generalize cf_pJ (cf_pI h2 o 3 0) o 4 0 = h3 at B3 e2 e3 e4 ⊢
    refine rp_if_ne (tgt := 65) d_sec_read_60 (by decide) (fun c60 => ?_) (fun c60 => ?_)
    · exact absurd rfl c60
    · refine rp_iconst (v := 0) d_sec_read_63 (by decide) ?_
      refine rp_ireturn (ty := .boolean) d_sec_read_64 rfl (by first | rfl | decide | assumption) ?_
      refine kf h3 ?_ B3.2.2.2.2.2.2
      rw [c_rd, c_cond]
      rcases z with z | ⟨z, y⟩
      · rw [decide_eq_false (by omega), decide_eq_false (by omega)]; rfl
      · rw [decide_eq_false (by omega), decide_eq_false y, Bool.and_false]; rfl
  · generalize cf_pJ (cf_pI (cf_pJ (cf_pI h2 o 3 0) o 4 0) o 3 (x_de XS a)) o 4 ((x_va XS a).toInt64 * 1000000) = h3 at B4 f2 f3 f4 ⊢
    have hc : c_cond XS a b = true := by rw [c_cond, decide_eq_true z, decide_eq_true z2]; simp
    refine rp_if_ne (tgt := 65) d_sec_read_60 (by decide) (fun c60 => ?_) (fun c60 => ?_)
    · exact t_read65 B4 f2 (by rw [c_tst2, if_neg (by omega)]; exact f3) (by rw [c_bnd, if_neg (by omega)]; exact f4) (fun h' y => kt h' (by rw [c_rd, hc, y]; rfl)) (fun h' y => kf h' (by rw [c_rd, hc, y]; rfl))
    · exact absurd c60 (by decide)
set_option maxHeartbeats 4000000 in
set_option maxRecDepth 100000 in
theorem s_sec_read {h : cf_H} {P : Option Value → cf_H → Prop} {o : Nat} {XS : List r_K} {a b : Nat} (ho9 : 9 ≤ o ∧ o ≤ 11) (hX : x_B h XS) {x y : Int32} (hx : x = nI a) (hy : y = nI b) (hab : a ≤ b) (hbl : b ≤ XS.length) (kt : ∀ h', c_rd XS a b = true → s_fr o h h' → x_B h' (x_rd XS a b) → s_W h' o XS a b → P (some (.int 1)) h') (kf : ∀ h', c_rd XS a b = false → s_fr o h h' → P (some (.int 0)) h') : RP k_sec_read 0 [(0, .ref o), (1, .ref 2), (2, .int x), (3, .int y)] [] h P := by
  subst hx; subst hy
  have ho := s_ho ho9
  have B1 : s_B h (cf_pI (cf_pI h o 0 (nI a)) o 1 (nI b)) o XS a b := ⟨ho9, (hX.pI (by omega) _).pI (by omega) _, by rw [cf_pI_k (by decide), cf_pI_s], cf_pI_s, hab, hbl, ((show s_fr o h h from ⟨fun _ _ _ => rfl, fun _ _ _ => rfl, rfl, fun _ _ => rfl⟩).pI 0 _).pI 1 _⟩
  refine rp_aload_n (i := 0) d_sec_read_0 rfl rfl ?_
  refine rp_iload_n (i := 2) d_sec_read_1 rfl rfl ?_
  refine rp_putI d_sec_read_2 f_sec_15 ho rfl rfl ?_
  refine rp_aload_n (i := 0) d_sec_read_5 rfl rfl ?_
  refine rp_iload_n (i := 3) d_sec_read_6 rfl rfl ?_
  refine rp_putI d_sec_read_7 f_sec_18 ho rfl rfl ?_
  generalize cf_pI (cf_pI h o 0 (nI a)) o 1 (nI b) = h1 at B1 ⊢
  have h40 := B1.2.1.2.2
  have m2 := r_ct_le (x_ty XS) 2 a b
  have mf := cf_cnt_le (x_fd XS) (b - a) a
  refine rp_aload_n (i := 1) d_sec_read_10 rfl rfl ?_
  refine rp_iconst (v := 2) d_sec_read_11 (by decide) ?_
  refine rp_aload_n (i := 0) d_sec_read_12 rfl rfl ?_
  refine rp_getI d_sec_read_13 f_sec_15 ho ?_
  refine rp_aload_n (i := 0) d_sec_read_16 rfl rfl ?_
  refine rp_getI d_sec_read_17 f_sec_18 ho ?_
  refine rp_callV3 d_sec_read_20 q_sec_read_21 (Or.inl ⟨_, _, _, rfl, rfl⟩) (Nat.le_of_ble_eq_true rfl) (Nat.le_of_ble_eq_true rfl) ?_
  refine t_count B1.2.1 B1.2.2.1 B1.2.2.2.1 hab (by omega) ?_
  refine rp_istore (i := 4) d_sec_read_23 rfl (Nat.le_of_ble_eq_true rfl) ?_
  refine rp_aload_n (i := 0) d_sec_read_25 rfl rfl ?_
  refine rp_aload_n (i := 1) d_sec_read_26 rfl rfl ?_
  refine rp_callV1 d_sec_read_27 q_sec_read_27 (Or.inl ⟨_, _, _, ho, rfl⟩) (Nat.le_of_ble_eq_true rfl) (Nat.le_of_ble_eq_true rfl) ?_
  refine s_sec_countFields B1 ?_
  refine rp_if_le (tgt := 41) d_sec_read_30 (by decide) (fun c30 => ?_) (fun c30 => ?_)
  · refine rp_aload_n (i := 0) d_sec_read_41 rfl rfl ?_
    refine rp_iload (i := 4) d_sec_read_42 rfl ?_
    refine rp_if_le (tgt := 51) d_sec_read_44 (by decide) (fun c44 => ?_) (fun c44 => ?_)
    · refine rp_iconst (v := 0) d_sec_read_51 (by decide) ?_
      refine rp_putI d_sec_read_52 f_sec_9 ho rfl rfl ?_
      rw [z_le (by omega)] at c30
      rw [z_le (by omega)] at c44
      have B2 := B1.pI (k := 2) (by decide) 0
      have g2 : (cf_pI h1 o 2 0).1 o 2 = c_kd XS a b := by rw [cf_pI_s, c_kd, if_pos c30, if_pos c44]
      refine rp_lv [(0, .ref o), (1, .ref 2), (4, .int (nI (r_ct (x_ty XS) 2 a b)))] rfl ?_
      exact t_read55 B2 g2 kt kf
    · refine rp_iconst (v := 1) d_sec_read_47 (by decide) ?_
      refine rp_goto (tgt := 52) d_sec_read_48 (by decide) ?_
      refine rp_putI d_sec_read_52 f_sec_9 ho rfl rfl ?_
      rw [z_le (by omega)] at c30
      rw [z_le (by omega)] at c44
      have B2 := B1.pI (k := 2) (by decide) 1
      have g2 : (cf_pI h1 o 2 1).1 o 2 = c_kd XS a b := by rw [cf_pI_s, c_kd, if_pos c30, if_neg c44]
      refine rp_lv [(0, .ref o), (1, .ref 2), (4, .int (nI (r_ct (x_ty XS) 2 a b)))] rfl ?_
      exact t_read55 B2 g2 kt kf
  · refine rp_aload_n (i := 0) d_sec_read_33 rfl rfl ?_
    refine rp_iconst (v := 2) d_sec_read_34 (by decide) ?_
    refine rp_putI d_sec_read_35 f_sec_9 ho rfl rfl ?_
    refine rp_goto (tgt := 55) d_sec_read_38 (by decide) ?_
    rw [z_le (by omega)] at c30
    have B2 := B1.pI (k := 2) (by decide) 2
    have g2 : (cf_pI h1 o 2 2).1 o 2 = c_kd XS a b := by rw [cf_pI_s, c_kd, if_neg c30]
    refine rp_lv [(0, .ref o), (1, .ref 2), (4, .int (nI (r_ct (x_ty XS) 2 a b)))] rfl ?_
    exact t_read55 B2 g2 kt kf
