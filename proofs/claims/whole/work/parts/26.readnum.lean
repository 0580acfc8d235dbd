/-! THE CLASS: Section.readNumber -/
def s_Q (o : Nat) (hb h : cf_H) : Prop := (∀ k, k < 5 → h.1 o k = hb.1 o k) ∧ (∀ k, h.2.1 o k = hb.2.1 o k)
theorem s_Q.pI {o : Nat} {hb h : cf_H} (q : s_Q o hb h) {k : Nat} (hk : 5 ≤ k) (x : Int32) : s_Q o hb (cf_pI h o k x) := ⟨fun j e => by rw [cf_pI_k (by omega)]; exact q.1 j e, q.2⟩
def n_ex (ty : Nat → Int32) (a b : Nat) : Nat := r_fd ty 6 a b
def n_pt (ty : Nat → Int32) (a b : Nat) : Nat := r_fd ty 3 a (n_ex ty a b)
def n_ip (ty : Nat → Int32) (a b : Nat) : Nat := r_ct ty 2 a (n_pt ty a b)
def n_fp (ty : Nat → Int32) (a b : Nat) : Nat := r_ct ty 2 (n_pt ty a b) (n_ex ty a b)
def n_ep (ty : Nat → Int32) (a b : Nat) : Nat := r_ct ty 2 (n_ex ty a b) b
def c_num (ty : Nat → Int32) (a b : Nat) : Option (Bool × Nat) :=
  if 1 < r_ct ty 3 a b ∨ 1 < r_ct ty 6 a b ∨ 2 < r_ct ty 5 a b then none
  else if r_ct ty 3 a b = 1 ∧ n_pt ty a b = n_ex ty a b then none
  else if n_ex ty a b < b ∧ (n_ip ty a b = 0 ∨ n_ep ty a b = 0) then none
  else c_cms ty (!decide (n_ip ty a b = 0) && decide (b ≤ n_ex ty a b)) (r_fd ty 2 a (n_pt ty a b)) (cf_lst (fun j => decide (ty j = 2)) a (n_pt ty a b - a)) a (b - a) false 0
def s_num (h : cf_H) (o : Nat) (ty : Nat → Int32) (a b : Nat) (gr : Bool) (sc : Nat) : Prop := h.1 o 5 = nI (n_pt ty a b) ∧ h.1 o 6 = nI (n_ex ty a b) ∧ h.1 o 7 = nI (n_ip ty a b) ∧ h.1 o 8 = nI (n_fp ty a b) ∧ h.1 o 9 = nI (n_ep ty a b) ∧ h.1 o 10 = nI (r_ct ty 5 a b) ∧ h.1 o 12 = cf_b gr ∧ h.1 o 11 = nI sc

set_option maxHeartbeats 4000000 in
set_option maxRecDepth 100000 in
theorem s_sec_readNumber {h0 h : cf_H} {P : Option Value → cf_H → Prop} {o : Nat} {XS : List r_K} {a b : Nat} (B : s_B h0 h o XS a b) (kt : ∀ h' gr sc, c_num (x_ty XS) a b = some (gr, sc) → s_B h0 h' o XS a b → s_Q o h h' → s_num h' o (x_ty XS) a b gr sc → P (some (.int 1)) h') (kf : ∀ h', c_num (x_ty XS) a b = none → s_B h0 h' o XS a b → P (some (.int 0)) h') : RP k_sec_readNumber 0 [(0, .ref o), (1, .ref 2)] [] h P := by
  obtain ⟨ho9, hB, ha, hb, hab, hbl, hfr⟩ := id B
  have ho := s_ho ho9
  have h40 := hB.2.2
  have Q : s_Q o h h := ⟨fun _ _ => rfl, fun _ => rfl⟩
  have x1 : a ≤ n_ex (x_ty XS) a b := r_fd_ge _ _ _ _
  have x2 : n_ex (x_ty XS) a b ≤ b := r_fd_le hab
  have p1 : a ≤ n_pt (x_ty XS) a b := r_fd_ge _ _ _ _
  have p2 : n_pt (x_ty XS) a b ≤ n_ex (x_ty XS) a b := r_fd_le x1
  have i1 : n_ip (x_ty XS) a b ≤ 40 := Nat.le_trans (r_ct_le _ _ _ _) (by omega)
  have i2 : n_ep (x_ty XS) a b ≤ 40 := Nat.le_trans (r_ct_le _ _ _ _) (by omega)
  have m3 := r_ct_le (x_ty XS) 3 a b
  have m5 := r_ct_le (x_ty XS) 5 a b
  have m6 := r_ct_le (x_ty XS) 6 a b
  refine rp_aload_n (i := 1) d_sec_readNumber_0 rfl rfl ?_
  refine rp_iconst (v := 3) d_sec_readNumber_1 (by decide) ?_
  refine rp_aload_n (i := 0) d_sec_readNumber_2 rfl rfl ?_
  refine rp_getI d_sec_readNumber_3 f_sec_15 ho ?_
  refine rp_aload_n (i := 0) d_sec_readNumber_6 rfl rfl ?_
  refine rp_getI d_sec_readNumber_7 f_sec_18 ho ?_
  refine rp_callV3 d_sec_readNumber_10 q_sec_readNumber_21 (Or.inl ⟨_, _, _, rfl, rfl⟩) (Nat.le_of_ble_eq_true rfl) (Nat.le_of_ble_eq_true rfl) ?_
  refine t_count B.2.1 (B.2.2.1) (B.2.2.2.1) (hab) (by omega) ?_
  refine rp_istore_n (i := 2) d_sec_readNumber_13 rfl rfl (Nat.le_of_ble_eq_true rfl) ?_
  refine rp_aload_n (i := 1) d_sec_readNumber_14 rfl rfl ?_
  refine rp_bipush (v := 6) d_sec_readNumber_15 (by decide) ?_
  refine rp_aload_n (i := 0) d_sec_readNumber_17 rfl rfl ?_
  refine rp_getI d_sec_readNumber_18 f_sec_15 ho ?_
  refine rp_aload_n (i := 0) d_sec_readNumber_21 rfl rfl ?_
  refine rp_getI d_sec_readNumber_22 f_sec_18 ho ?_
  refine rp_callV3 d_sec_readNumber_25 q_sec_readNumber_21 (Or.inl ⟨_, _, _, rfl, rfl⟩) (Nat.le_of_ble_eq_true rfl) (Nat.le_of_ble_eq_true rfl) ?_
  refine t_count B.2.1 (B.2.2.1) (B.2.2.2.1) (hab) (by omega) ?_
  refine rp_istore_n (i := 3) d_sec_readNumber_28 rfl rfl (Nat.le_of_ble_eq_true rfl) ?_
  refine rp_aload_n (i := 0) d_sec_readNumber_29 rfl rfl ?_
  refine rp_aload_n (i := 1) d_sec_readNumber_30 rfl rfl ?_
  refine rp_iconst (v := 5) d_sec_readNumber_31 (by decide) ?_
  refine rp_aload_n (i := 0) d_sec_readNumber_32 rfl rfl ?_
  refine rp_getI d_sec_readNumber_33 f_sec_15 ho ?_
  refine rp_aload_n (i := 0) d_sec_readNumber_36 rfl rfl ?_
  refine rp_getI d_sec_readNumber_37 f_sec_18 ho ?_
  refine rp_callV3 d_sec_readNumber_40 q_sec_readNumber_21 (Or.inl ⟨_, _, _, rfl, rfl⟩) (Nat.le_of_ble_eq_true rfl) (Nat.le_of_ble_eq_true rfl) ?_
  refine t_count B.2.1 (B.2.2.1) (B.2.2.2.1) (hab) (by omega) ?_
  refine rp_putI d_sec_readNumber_43 f_sec_75 ho rfl rfl ?_
  change RP _ _ _ _ (cf_pI h o 10 (nI (r_ct (x_ty XS) 5 a b))) _
  have B1 := B.pI (k := 10) (by decide) (nI (r_ct (x_ty XS) 5 a b))
  have Q1 := Q.pI (k := 10) (by decide) (nI (r_ct (x_ty XS) 5 a b))
  have e1_10 : (cf_pI h o 10 (nI (r_ct (x_ty XS) 5 a b))).1 o 10 = nI (r_ct (x_ty XS) 5 a b) := cf_pI_s
  generalize (cf_pI h o 10 (nI (r_ct (x_ty XS) 5 a b))) = h1 at B1 Q1 e1_10 ⊢
  refine rp_iload_n (i := 2) d_sec_readNumber_46 rfl rfl ?_
  refine rp_iconst (v := 1) d_sec_readNumber_47 (by decide) ?_
  refine rp_icmp_gt (tgt := 64) d_sec_readNumber_48 (by decide) (fun c48 => ?_) (fun c48 => ?_)
  · refine rp_iconst (v := 0) d_sec_readNumber_64 (by decide) ?_
    refine rp_ireturn (ty := .boolean) d_sec_readNumber_65 rfl (by first | rfl | decide | assumption) ?_
    exact kf h1 (by rw [c_num, if_pos (Or.inl ((nI_ltI (a := 1) (by decide) (by omega)).mp c48))]) B1
  · refine rp_iload_n (i := 3) d_sec_readNumber_51 rfl rfl ?_
    refine rp_iconst (v := 1) d_sec_readNumber_52 (by decide) ?_
    refine rp_icmp_gt (tgt := 64) d_sec_readNumber_53 (by decide) (fun c53 => ?_) (fun c53 => ?_)
    · refine rp_iconst (v := 0) d_sec_readNumber_64 (by decide) ?_
      refine rp_ireturn (ty := .boolean) d_sec_readNumber_65 rfl (by first | rfl | decide | assumption) ?_
      exact kf h1 (by rw [c_num, if_pos (Or.inr (Or.inl ((nI_ltI (a := 1) (by decide) (by omega)).mp c53)))]) B1
    · refine rp_aload_n (i := 0) d_sec_readNumber_56 rfl rfl ?_
      refine rp_getI d_sec_readNumber_57 f_sec_75 ho ?_
      refine rp_iconst (v := 2) d_sec_readNumber_60 (by decide) ?_
      refine rp_icmp_le (tgt := 66) d_sec_readNumber_61 (by decide) (fun c61 => ?_) (fun c61 => ?_)
      · refine rp_aload_n (i := 0) d_sec_readNumber_66 rfl rfl ?_
        refine rp_aload_n (i := 1) d_sec_readNumber_67 rfl rfl ?_
        refine rp_bipush (v := 6) d_sec_readNumber_68 (by decide) ?_
        refine rp_aload_n (i := 0) d_sec_readNumber_70 rfl rfl ?_
        refine rp_getI d_sec_readNumber_71 f_sec_15 ho ?_
        refine rp_aload_n (i := 0) d_sec_readNumber_74 rfl rfl ?_
        refine rp_getI d_sec_readNumber_75 f_sec_18 ho ?_
        refine rp_callV3 d_sec_readNumber_78 q_sec_readNumber_78 (Or.inl ⟨_, _, _, rfl, rfl⟩) (Nat.le_of_ble_eq_true rfl) (Nat.le_of_ble_eq_true rfl) ?_
        refine t_find B1.2.1 (B1.2.2.1) (B1.2.2.2.1) hab (by omega) ?_
        refine rp_putI d_sec_readNumber_81 f_sec_56 ho rfl rfl ?_
        change RP _ _ _ _ (cf_pI h1 o 6 (nI (n_ex (x_ty XS) a b))) _
        have B2 := B1.pI (k := 6) (by decide) (nI (n_ex (x_ty XS) a b))
        have Q2 := Q1.pI (k := 6) (by decide) (nI (n_ex (x_ty XS) a b))
        have e2_6 : (cf_pI h1 o 6 (nI (n_ex (x_ty XS) a b))).1 o 6 = nI (n_ex (x_ty XS) a b) := cf_pI_s
        have e2_10 : (cf_pI h1 o 6 (nI (n_ex (x_ty XS) a b))).1 o 10 = nI (r_ct (x_ty XS) 5 a b) := by rw [cf_pI_k (by decide)]; exact e1_10
        generalize (cf_pI h1 o 6 (nI (n_ex (x_ty XS) a b))) = h2 at B2 Q2 e2_10 e2_6 ⊢
        refine rp_aload_n (i := 0) d_sec_readNumber_84 rfl rfl ?_
        refine rp_aload_n (i := 1) d_sec_readNumber_85 rfl rfl ?_
        refine rp_iconst (v := 3) d_sec_readNumber_86 (by decide) ?_
        refine rp_aload_n (i := 0) d_sec_readNumber_87 rfl rfl ?_
        refine rp_getI d_sec_readNumber_88 f_sec_15 ho ?_
        refine rp_aload_n (i := 0) d_sec_readNumber_91 rfl rfl ?_
        refine rp_getI d_sec_readNumber_92 f_sec_56 ho ?_
        refine rp_callV3 d_sec_readNumber_95 q_sec_readNumber_78 (Or.inl ⟨_, _, _, rfl, rfl⟩) (Nat.le_of_ble_eq_true rfl) (Nat.le_of_ble_eq_true rfl) ?_
        refine t_find B2.2.1 (B2.2.2.1) (e2_6) x1 (by omega) ?_
        refine rp_putI d_sec_readNumber_98 f_sec_81 ho rfl rfl ?_
        change RP _ _ _ _ (cf_pI h2 o 5 (nI (n_pt (x_ty XS) a b))) _
        have B3 := B2.pI (k := 5) (by decide) (nI (n_pt (x_ty XS) a b))
        have Q3 := Q2.pI (k := 5) (by decide) (nI (n_pt (x_ty XS) a b))
        have e3_5 : (cf_pI h2 o 5 (nI (n_pt (x_ty XS) a b))).1 o 5 = nI (n_pt (x_ty XS) a b) := cf_pI_s
        have e3_10 : (cf_pI h2 o 5 (nI (n_pt (x_ty XS) a b))).1 o 10 = nI (r_ct (x_ty XS) 5 a b) := by rw [cf_pI_k (by decide)]; exact e2_10
        have e3_6 : (cf_pI h2 o 5 (nI (n_pt (x_ty XS) a b))).1 o 6 = nI (n_ex (x_ty XS) a b) := by rw [cf_pI_k (by decide)]; exact e2_6
        generalize (cf_pI h2 o 5 (nI (n_pt (x_ty XS) a b))) = h3 at B3 Q3 e3_10 e3_6 e3_5 ⊢
        refine rp_iload_n (i := 2) d_sec_readNumber_101 rfl rfl ?_
        refine rp_iconst (v := 1) d_sec_readNumber_102 (by decide) ?_
        refine rp_icmp_ne (tgt := 119) d_sec_readNumber_103 (by decide) (fun c103 => ?_) (fun c103 => ?_)
        · refine rp_aload_n (i := 0) d_sec_readNumber_119 rfl rfl ?_
          refine rp_aload_n (i := 1) d_sec_readNumber_120 rfl rfl ?_
          refine rp_iconst (v := 2) d_sec_readNumber_121 (by decide) ?_
          refine rp_aload_n (i := 0) d_sec_readNumber_122 rfl rfl ?_
          refine rp_getI d_sec_readNumber_123 f_sec_15 ho ?_
          refine rp_aload_n (i := 0) d_sec_readNumber_126 rfl rfl ?_
          refine rp_getI d_sec_readNumber_127 f_sec_81 ho ?_
          refine rp_callV3 d_sec_readNumber_130 q_sec_readNumber_21 (Or.inl ⟨_, _, _, rfl, rfl⟩) (Nat.le_of_ble_eq_true rfl) (Nat.le_of_ble_eq_true rfl) ?_
          refine t_count B3.2.1 (B3.2.2.1) (e3_5) (p1) (by omega) ?_
          refine rp_putI d_sec_readNumber_133 f_sec_84 ho rfl rfl ?_
          change RP _ _ _ _ (cf_pI h3 o 7 (nI (n_ip (x_ty XS) a b))) _
          have B4 := B3.pI (k := 7) (by decide) (nI (n_ip (x_ty XS) a b))
          have Q4 := Q3.pI (k := 7) (by decide) (nI (n_ip (x_ty XS) a b))
          have e4_7 : (cf_pI h3 o 7 (nI (n_ip (x_ty XS) a b))).1 o 7 = nI (n_ip (x_ty XS) a b) := cf_pI_s
          have e4_10 : (cf_pI h3 o 7 (nI (n_ip (x_ty XS) a b))).1 o 10 = nI (r_ct (x_ty XS) 5 a b) := by rw [cf_pI_k (by decide)]; exact e3_10
          have e4_6 : (cf_pI h3 o 7 (nI (n_ip (x_ty XS) a b))).1 o 6 = nI (n_ex (x_ty XS) a b) := by rw [cf_pI_k (by decide)]; exact e3_6
          have e4_5 : (cf_pI h3 o 7 (nI (n_ip (x_ty XS) a b))).1 o 5 = nI (n_pt (x_ty XS) a b) := by rw [cf_pI_k (by decide)]; exact e3_5
          generalize (cf_pI h3 o 7 (nI (n_ip (x_ty XS) a b))) = h4 at B4 Q4 e4_10 e4_6 e4_5 e4_7 ⊢
          refine rp_aload_n (i := 0) d_sec_readNumber_136 rfl rfl ?_
          refine rp_aload_n (i := 1) d_sec_readNumber_137 rfl rfl ?_
          refine rp_iconst (v := 2) d_sec_readNumber_138 (by decide) ?_
          refine rp_aload_n (i := 0) d_sec_readNumber_139 rfl rfl ?_
          refine rp_getI d_sec_readNumber_140 f_sec_81 ho ?_
          refine rp_aload_n (i := 0) d_sec_readNumber_143 rfl rfl ?_
          refine rp_getI d_sec_readNumber_144 f_sec_56 ho ?_
          refine rp_callV3 d_sec_readNumber_147 q_sec_readNumber_21 (Or.inl ⟨_, _, _, rfl, rfl⟩) (Nat.le_of_ble_eq_true rfl) (Nat.le_of_ble_eq_true rfl) ?_
          refine t_count B4.2.1 (e4_5) (e4_6) (p2) (by omega) ?_
          refine rp_putI d_sec_readNumber_150 f_sec_87 ho rfl rfl ?_
          change RP _ _ _ _ (cf_pI h4 o 8 (nI (n_fp (x_ty XS) a b))) _
          have B5 := B4.pI (k := 8) (by decide) (nI (n_fp (x_ty XS) a b))
          have Q5 := Q4.pI (k := 8) (by decide) (nI (n_fp (x_ty XS) a b))
          have e5_8 : (cf_pI h4 o 8 (nI (n_fp (x_ty XS) a b))).1 o 8 = nI (n_fp (x_ty XS) a b) := cf_pI_s
          have e5_10 : (cf_pI h4 o 8 (nI (n_fp (x_ty XS) a b))).1 o 10 = nI (r_ct (x_ty XS) 5 a b) := by rw [cf_pI_k (by decide)]; exact e4_10
          have e5_6 : (cf_pI h4 o 8 (nI (n_fp (x_ty XS) a b))).1 o 6 = nI (n_ex (x_ty XS) a b) := by rw [cf_pI_k (by decide)]; exact e4_6
          have e5_5 : (cf_pI h4 o 8 (nI (n_fp (x_ty XS) a b))).1 o 5 = nI (n_pt (x_ty XS) a b) := by rw [cf_pI_k (by decide)]; exact e4_5
          have e5_7 : (cf_pI h4 o 8 (nI (n_fp (x_ty XS) a b))).1 o 7 = nI (n_ip (x_ty XS) a b) := by rw [cf_pI_k (by decide)]; exact e4_7
          generalize (cf_pI h4 o 8 (nI (n_fp (x_ty XS) a b))) = h5 at B5 Q5 e5_10 e5_6 e5_5 e5_7 e5_8 ⊢
          refine rp_aload_n (i := 0) d_sec_readNumber_153 rfl rfl ?_
          refine rp_aload_n (i := 1) d_sec_readNumber_154 rfl rfl ?_
          refine rp_iconst (v := 2) d_sec_readNumber_155 (by decide) ?_
          refine rp_aload_n (i := 0) d_sec_readNumber_156 rfl rfl ?_
          refine rp_getI d_sec_readNumber_157 f_sec_56 ho ?_
          refine rp_aload_n (i := 0) d_sec_readNumber_160 rfl rfl ?_
          refine rp_getI d_sec_readNumber_161 f_sec_18 ho ?_
          refine rp_callV3 d_sec_readNumber_164 q_sec_readNumber_21 (Or.inl ⟨_, _, _, rfl, rfl⟩) (Nat.le_of_ble_eq_true rfl) (Nat.le_of_ble_eq_true rfl) ?_
          refine t_count B5.2.1 (e5_6) (B5.2.2.2.1) (x2) (by omega) ?_
          refine rp_putI d_sec_readNumber_167 f_sec_90 ho rfl rfl ?_
          change RP _ _ _ _ (cf_pI h5 o 9 (nI (n_ep (x_ty XS) a b))) _
          have B6 := B5.pI (k := 9) (by decide) (nI (n_ep (x_ty XS) a b))
          have Q6 := Q5.pI (k := 9) (by decide) (nI (n_ep (x_ty XS) a b))
          have e6_9 : (cf_pI h5 o 9 (nI (n_ep (x_ty XS) a b))).1 o 9 = nI (n_ep (x_ty XS) a b) := cf_pI_s
          have e6_10 : (cf_pI h5 o 9 (nI (n_ep (x_ty XS) a b))).1 o 10 = nI (r_ct (x_ty XS) 5 a b) := by rw [cf_pI_k (by decide)]; exact e5_10
          have e6_6 : (cf_pI h5 o 9 (nI (n_ep (x_ty XS) a b))).1 o 6 = nI (n_ex (x_ty XS) a b) := by rw [cf_pI_k (by decide)]; exact e5_6
          have e6_5 : (cf_pI h5 o 9 (nI (n_ep (x_ty XS) a b))).1 o 5 = nI (n_pt (x_ty XS) a b) := by rw [cf_pI_k (by decide)]; exact e5_5
          have e6_7 : (cf_pI h5 o 9 (nI (n_ep (x_ty XS) a b))).1 o 7 = nI (n_ip (x_ty XS) a b) := by rw [cf_pI_k (by decide)]; exact e5_7
          have e6_8 : (cf_pI h5 o 9 (nI (n_ep (x_ty XS) a b))).1 o 8 = nI (n_fp (x_ty XS) a b) := by rw [cf_pI_k (by decide)]; exact e5_8
          generalize (cf_pI h5 o 9 (nI (n_ep (x_ty XS) a b))) = h6 at B6 Q6 e6_10 e6_6 e6_5 e6_7 e6_8 e6_9 ⊢
          refine rp_aload_n (i := 0) d_sec_readNumber_170 rfl rfl ?_
          refine rp_callV0 d_sec_readNumber_171 q_sec_readNumber_93 (Or.inl ⟨_, _, _, ho, rfl⟩) (Nat.le_of_ble_eq_true rfl) (Nat.le_of_ble_eq_true rfl) ?_
          refine s_sec_hasExponent ho9 ?_
          rw [B6.2.2.2.1, e6_6, show decide (nI b ≤ nI (n_ex (x_ty XS) a b)) = decide (b ≤ n_ex (x_ty XS) a b) from by simp only [nI_leI (show b < 2 ^ 31 by omega) (show n_ex (x_ty XS) a b < 2 ^ 31 by omega)]]
          refine rp_if_eq (tgt := 193) d_sec_readNumber_174 (by decide) (fun c174 => ?_) (fun c174 => ?_)
          · have es : c_num (x_ty XS) a b = c_cms (x_ty XS) (s_ok h6 o) (r_fd (x_ty XS) 2 a (n_pt (x_ty XS) a b)) (cf_lst (fun j => decide (x_ty XS j = 2)) a (n_pt (x_ty XS) a b - a)) a (b - a) false 0 := by
              rw [c_num, if_neg (fun z => z.elim (fun y => c48 ((nI_ltI (a := 1) (by decide) (by omega)).mpr y)) (fun y => y.elim (fun x => c53 ((nI_ltI (a := 1) (by decide) (by omega)).mpr x)) (fun x => absurd x (Nat.not_lt.mpr ((nI_leI (b := 2) (by omega) (by decide)).mp (by rw [e1_10] at c61; exact c61)))))), if_neg (fun z => c103 ((nI_eq (b := 1) (by omega) (by decide)).mpr z.1)), if_neg (fun z => absurd (show cf_b (!decide (b ≤ n_ex (x_ty XS) a b)) = 0 from c174) (by simp [cf_b, Nat.not_le.mpr z.1])), s_ok, e6_7, e6_6, B6.2.2.2.1]
              congr 2
              · rw [decide_eq_decide.mpr (z_eq (by omega))]
              · rw [decide_eq_decide.mpr (nI_leI (by omega) (by omega))]
            rw [es] at kt kf
            refine rp_aload_n (i := 0) d_sec_readNumber_193 rfl rfl ?_
            refine rp_aload_n (i := 1) d_sec_readNumber_194 rfl rfl ?_
            refine rp_callV1 d_sec_readNumber_195 q_sec_readNumber_96 (Or.inl ⟨_, _, _, ho, rfl⟩) (Nat.le_of_ble_eq_true rfl) (Nat.le_of_ble_eq_true rfl) ?_
            refine s_sec_readCommas B6 e6_5 p1 (by omega) (fun h' gr sc z1 z2 z3 z4 z5 => ?_) (fun h' z1 z2 => ?_)
            · refine rp_ireturn (ty := .boolean) d_sec_readNumber_198 rfl rfl ?_
              exact kt h' gr sc z1 z2 ⟨fun k e => by rw [z3.1 k (by omega) (by omega)]; exact Q6.1 k e, fun k => by rw [z3.2 k]; exact Q6.2 k⟩ ⟨by rw [z3.1 5 (by decide) (by decide)]; exact e6_5, by rw [z3.1 6 (by decide) (by decide)]; exact e6_6, by rw [z3.1 7 (by decide) (by decide)]; exact e6_7, by rw [z3.1 8 (by decide) (by decide)]; exact e6_8, by rw [z3.1 9 (by decide) (by decide)]; exact e6_9, by rw [z3.1 10 (by decide) (by decide)]; exact e6_10, z4, z5⟩
            · refine rp_ireturn (ty := .boolean) d_sec_readNumber_198 rfl rfl ?_
              exact kf h' z1 z2
          · refine rp_aload_n (i := 0) d_sec_readNumber_177 rfl rfl ?_
            refine rp_getI d_sec_readNumber_178 f_sec_84 ho ?_
            refine rp_if_eq (tgt := 191) d_sec_readNumber_181 (by decide) (fun c181 => ?_) (fun c181 => ?_)
            · refine rp_iconst (v := 0) d_sec_readNumber_191 (by decide) ?_
              refine rp_ireturn (ty := .boolean) d_sec_readNumber_192 rfl (by first | rfl | decide | assumption) ?_
              have ex6 : n_ex (x_ty XS) a b < b := Nat.not_le.mp (fun z => c174 (by simp [cf_b, z]))
              exact kf h6 (by rw [c_num, if_neg (fun z => z.elim (fun y => c48 ((nI_ltI (a := 1) (by decide) (by omega)).mpr y)) (fun y => y.elim (fun x => c53 ((nI_ltI (a := 1) (by decide) (by omega)).mpr x)) (fun x => absurd x (Nat.not_lt.mpr ((nI_leI (b := 2) (by omega) (by decide)).mp (by rw [e1_10] at c61; exact c61)))))), if_neg (fun z => c103 ((nI_eq (b := 1) (by omega) (by decide)).mpr z.1)), if_pos ⟨ex6, Or.inl ((z_eq (by omega)).mp (by rw [← e6_7]; exact c181))⟩]) B6
            · refine rp_aload_n (i := 0) d_sec_readNumber_184 rfl rfl ?_
              refine rp_getI d_sec_readNumber_185 f_sec_90 ho ?_
              refine rp_if_ne (tgt := 193) d_sec_readNumber_188 (by decide) (fun c188 => ?_) (fun c188 => ?_)
              · have es : c_num (x_ty XS) a b = c_cms (x_ty XS) (s_ok h6 o) (r_fd (x_ty XS) 2 a (n_pt (x_ty XS) a b)) (cf_lst (fun j => decide (x_ty XS j = 2)) a (n_pt (x_ty XS) a b - a)) a (b - a) false 0 := by
                  rw [c_num, if_neg (fun z => z.elim (fun y => c48 ((nI_ltI (a := 1) (by decide) (by omega)).mpr y)) (fun y => y.elim (fun x => c53 ((nI_ltI (a := 1) (by decide) (by omega)).mpr x)) (fun x => absurd x (Nat.not_lt.mpr ((nI_leI (b := 2) (by omega) (by decide)).mp (by rw [e1_10] at c61; exact c61)))))), if_neg (fun z => c103 ((nI_eq (b := 1) (by omega) (by decide)).mpr z.1)), if_neg (fun z => z.2.elim (fun y => c181 (by rw [e6_7, y]; rfl)) (fun y => c188 (by rw [e6_9, y]; rfl))), s_ok, e6_7, e6_6, B6.2.2.2.1]
                  congr 2
                  · rw [decide_eq_decide.mpr (z_eq (by omega))]
                  · rw [decide_eq_decide.mpr (nI_leI (by omega) (by omega))]
                rw [es] at kt kf
                refine rp_aload_n (i := 0) d_sec_readNumber_193 rfl rfl ?_
                refine rp_aload_n (i := 1) d_sec_readNumber_194 rfl rfl ?_
                refine rp_callV1 d_sec_readNumber_195 q_sec_readNumber_96 (Or.inl ⟨_, _, _, ho, rfl⟩) (Nat.le_of_ble_eq_true rfl) (Nat.le_of_ble_eq_true rfl) ?_
                refine s_sec_readCommas B6 e6_5 p1 (by omega) (fun h' gr sc z1 z2 z3 z4 z5 => ?_) (fun h' z1 z2 => ?_)
                · refine rp_ireturn (ty := .boolean) d_sec_readNumber_198 rfl rfl ?_
                  exact kt h' gr sc z1 z2 ⟨fun k e => by rw [z3.1 k (by omega) (by omega)]; exact Q6.1 k e, fun k => by rw [z3.2 k]; exact Q6.2 k⟩ ⟨by rw [z3.1 5 (by decide) (by decide)]; exact e6_5, by rw [z3.1 6 (by decide) (by decide)]; exact e6_6, by rw [z3.1 7 (by decide) (by decide)]; exact e6_7, by rw [z3.1 8 (by decide) (by decide)]; exact e6_8, by rw [z3.1 9 (by decide) (by decide)]; exact e6_9, by rw [z3.1 10 (by decide) (by decide)]; exact e6_10, z4, z5⟩
                · refine rp_ireturn (ty := .boolean) d_sec_readNumber_198 rfl rfl ?_
                  exact kf h' z1 z2
              · refine rp_iconst (v := 0) d_sec_readNumber_191 (by decide) ?_
                refine rp_ireturn (ty := .boolean) d_sec_readNumber_192 rfl (by first | rfl | decide | assumption) ?_
                have ex6 : n_ex (x_ty XS) a b < b := Nat.not_le.mp (fun z => c174 (by simp [cf_b, z]))
                exact kf h6 (by rw [c_num, if_neg (fun z => z.elim (fun y => c48 ((nI_ltI (a := 1) (by decide) (by omega)).mpr y)) (fun y => y.elim (fun x => c53 ((nI_ltI (a := 1) (by decide) (by omega)).mpr x)) (fun x => absurd x (Nat.not_lt.mpr ((nI_leI (b := 2) (by omega) (by decide)).mp (by rw [e1_10] at c61; exact c61)))))), if_neg (fun z => c103 ((nI_eq (b := 1) (by omega) (by decide)).mpr z.1)), if_pos ⟨ex6, Or.inr ((z_eq (by omega)).mp (by rw [← e6_9]; exact c188))⟩]) B6
        · refine rp_aload_n (i := 0) d_sec_readNumber_106 rfl rfl ?_
          refine rp_getI d_sec_readNumber_107 f_sec_81 ho ?_
          refine rp_aload_n (i := 0) d_sec_readNumber_110 rfl rfl ?_
          refine rp_getI d_sec_readNumber_111 f_sec_56 ho ?_
          refine rp_icmp_ne (tgt := 119) d_sec_readNumber_114 (by decide) (fun c114 => ?_) (fun c114 => ?_)
          · refine rp_aload_n (i := 0) d_sec_readNumber_119 rfl rfl ?_
            refine rp_aload_n (i := 1) d_sec_readNumber_120 rfl rfl ?_
            refine rp_iconst (v := 2) d_sec_readNumber_121 (by decide) ?_
            refine rp_aload_n (i := 0) d_sec_readNumber_122 rfl rfl ?_
            refine rp_getI d_sec_readNumber_123 f_sec_15 ho ?_
            refine rp_aload_n (i := 0) d_sec_readNumber_126 rfl rfl ?_
            refine rp_getI d_sec_readNumber_127 f_sec_81 ho ?_
            refine rp_callV3 d_sec_readNumber_130 q_sec_readNumber_21 (Or.inl ⟨_, _, _, rfl, rfl⟩) (Nat.le_of_ble_eq_true rfl) (Nat.le_of_ble_eq_true rfl) ?_
            refine t_count B3.2.1 (B3.2.2.1) (e3_5) (p1) (by omega) ?_
            refine rp_putI d_sec_readNumber_133 f_sec_84 ho rfl rfl ?_
            change RP _ _ _ _ (cf_pI h3 o 7 (nI (n_ip (x_ty XS) a b))) _
            have B4 := B3.pI (k := 7) (by decide) (nI (n_ip (x_ty XS) a b))
            have Q4 := Q3.pI (k := 7) (by decide) (nI (n_ip (x_ty XS) a b))
            have e4_7 : (cf_pI h3 o 7 (nI (n_ip (x_ty XS) a b))).1 o 7 = nI (n_ip (x_ty XS) a b) := cf_pI_s
            have e4_10 : (cf_pI h3 o 7 (nI (n_ip (x_ty XS) a b))).1 o 10 = nI (r_ct (x_ty XS) 5 a b) := by rw [cf_pI_k (by decide)]; exact e3_10
            have e4_6 : (cf_pI h3 o 7 (nI (n_ip (x_ty XS) a b))).1 o 6 = nI (n_ex (x_ty XS) a b) := by rw [cf_pI_k (by decide)]; exact e3_6
            have e4_5 : (cf_pI h3 o 7 (nI (n_ip (x_ty XS) a b))).1 o 5 = nI (n_pt (x_ty XS) a b) := by rw [cf_pI_k (by decide)]; exact e3_5
            generalize (cf_pI h3 o 7 (nI (n_ip (x_ty XS) a b))) = h4 at B4 Q4 e4_10 e4_6 e4_5 e4_7 ⊢
            refine rp_aload_n (i := 0) d_sec_readNumber_136 rfl rfl ?_
            refine rp_aload_n (i := 1) d_sec_readNumber_137 rfl rfl ?_
            refine rp_iconst (v := 2) d_sec_readNumber_138 (by decide) ?_
            refine rp_aload_n (i := 0) d_sec_readNumber_139 rfl rfl ?_
            refine rp_getI d_sec_readNumber_140 f_sec_81 ho ?_
            refine rp_aload_n (i := 0) d_sec_readNumber_143 rfl rfl ?_
            refine rp_getI d_sec_readNumber_144 f_sec_56 ho ?_
            refine rp_callV3 d_sec_readNumber_147 q_sec_readNumber_21 (Or.inl ⟨_, _, _, rfl, rfl⟩) (Nat.le_of_ble_eq_true rfl) (Nat.le_of_ble_eq_true rfl) ?_
            refine t_count B4.2.1 (e4_5) (e4_6) (p2) (by omega) ?_
            refine rp_putI d_sec_readNumber_150 f_sec_87 ho rfl rfl ?_
            change RP _ _ _ _ (cf_pI h4 o 8 (nI (n_fp (x_ty XS) a b))) _
            have B5 := B4.pI (k := 8) (by decide) (nI (n_fp (x_ty XS) a b))
            have Q5 := Q4.pI (k := 8) (by decide) (nI (n_fp (x_ty XS) a b))
            have e5_8 : (cf_pI h4 o 8 (nI (n_fp (x_ty XS) a b))).1 o 8 = nI (n_fp (x_ty XS) a b) := cf_pI_s
            have e5_10 : (cf_pI h4 o 8 (nI (n_fp (x_ty XS) a b))).1 o 10 = nI (r_ct (x_ty XS) 5 a b) := by rw [cf_pI_k (by decide)]; exact e4_10
            have e5_6 : (cf_pI h4 o 8 (nI (n_fp (x_ty XS) a b))).1 o 6 = nI (n_ex (x_ty XS) a b) := by rw [cf_pI_k (by decide)]; exact e4_6
            have e5_5 : (cf_pI h4 o 8 (nI (n_fp (x_ty XS) a b))).1 o 5 = nI (n_pt (x_ty XS) a b) := by rw [cf_pI_k (by decide)]; exact e4_5
            have e5_7 : (cf_pI h4 o 8 (nI (n_fp (x_ty XS) a b))).1 o 7 = nI (n_ip (x_ty XS) a b) := by rw [cf_pI_k (by decide)]; exact e4_7
            generalize (cf_pI h4 o 8 (nI (n_fp (x_ty XS) a b))) = h5 at B5 Q5 e5_10 e5_6 e5_5 e5_7 e5_8 ⊢
            refine rp_aload_n (i := 0) d_sec_readNumber_153 rfl rfl ?_
            refine rp_aload_n (i := 1) d_sec_readNumber_154 rfl rfl ?_
            refine rp_iconst (v := 2) d_sec_readNumber_155 (by decide) ?_
            refine rp_aload_n (i := 0) d_sec_readNumber_156 rfl rfl ?_
            refine rp_getI d_sec_readNumber_157 f_sec_56 ho ?_
            refine rp_aload_n (i := 0) d_sec_readNumber_160 rfl rfl ?_
            refine rp_getI d_sec_readNumber_161 f_sec_18 ho ?_
            refine rp_callV3 d_sec_readNumber_164 q_sec_readNumber_21 (Or.inl ⟨_, _, _, rfl, rfl⟩) (Nat.le_of_ble_eq_true rfl) (Nat.le_of_ble_eq_true rfl) ?_
            refine t_count B5.2.1 (e5_6) (B5.2.2.2.1) (x2) (by omega) ?_
            refine rp_putI d_sec_readNumber_167 f_sec_90 ho rfl rfl ?_
            change RP _ _ _ _ (cf_pI h5 o 9 (nI (n_ep (x_ty XS) a b))) _
            have B6 := B5.pI (k := 9) (by decide) (nI (n_ep (x_ty XS) a b))
            have Q6 := Q5.pI (k := 9) (by decide) (nI (n_ep (x_ty XS) a b))
            have e6_9 : (cf_pI h5 o 9 (nI (n_ep (x_ty XS) a b))).1 o 9 = nI (n_ep (x_ty XS) a b) := cf_pI_s
            have e6_10 : (cf_pI h5 o 9 (nI (n_ep (x_ty XS) a b))).1 o 10 = nI (r_ct (x_ty XS) 5 a b) := by rw [cf_pI_k (by decide)]; exact e5_10
            have e6_6 : (cf_pI h5 o 9 (nI (n_ep (x_ty XS) a b))).1 o 6 = nI (n_ex (x_ty XS) a b) := by rw [cf_pI_k (by decide)]; exact e5_6
            have e6_5 : (cf_pI h5 o 9 (nI (n_ep (x_ty XS) a b))).1 o 5 = nI (n_pt (x_ty XS) a b) := by rw [cf_pI_k (by decide)]; exact e5_5
            have e6_7 : (cf_pI h5 o 9 (nI (n_ep (x_ty XS) a b))).1 o 7 = nI (n_ip (x_ty XS) a b) := by rw [cf_pI_k (by decide)]; exact e5_7
            have e6_8 : (cf_pI h5 o 9 (nI (n_ep (x_ty XS) a b))).1 o 8 = nI (n_fp (x_ty XS) a b) := by rw [cf_pI_k (by decide)]; exact e5_8
            generalize (cf_pI h5 o 9 (nI (n_ep (x_ty XS) a b))) = h6 at B6 Q6 e6_10 e6_6 e6_5 e6_7 e6_8 e6_9 ⊢
            refine rp_aload_n (i := 0) d_sec_readNumber_170 rfl rfl ?_
            refine rp_callV0 d_sec_readNumber_171 q_sec_readNumber_93 (Or.inl ⟨_, _, _, ho, rfl⟩) (Nat.le_of_ble_eq_true rfl) (Nat.le_of_ble_eq_true rfl) ?_
            refine s_sec_hasExponent ho9 ?_
            rw [B6.2.2.2.1, e6_6, show decide (nI b ≤ nI (n_ex (x_ty XS) a b)) = decide (b ≤ n_ex (x_ty XS) a b) from by simp only [nI_leI (show b < 2 ^ 31 by omega) (show n_ex (x_ty XS) a b < 2 ^ 31 by omega)]]
            refine rp_if_eq (tgt := 193) d_sec_readNumber_174 (by decide) (fun c174 => ?_) (fun c174 => ?_)
            · have es : c_num (x_ty XS) a b = c_cms (x_ty XS) (s_ok h6 o) (r_fd (x_ty XS) 2 a (n_pt (x_ty XS) a b)) (cf_lst (fun j => decide (x_ty XS j = 2)) a (n_pt (x_ty XS) a b - a)) a (b - a) false 0 := by
                rw [c_num, if_neg (fun z => z.elim (fun y => c48 ((nI_ltI (a := 1) (by decide) (by omega)).mpr y)) (fun y => y.elim (fun x => c53 ((nI_ltI (a := 1) (by decide) (by omega)).mpr x)) (fun x => absurd x (Nat.not_lt.mpr ((nI_leI (b := 2) (by omega) (by decide)).mp (by rw [e1_10] at c61; exact c61)))))), if_neg (fun z => c114 (by rw [e3_5, e3_6, z.2])), if_neg (fun z => absurd (show cf_b (!decide (b ≤ n_ex (x_ty XS) a b)) = 0 from c174) (by simp [cf_b, Nat.not_le.mpr z.1])), s_ok, e6_7, e6_6, B6.2.2.2.1]
                congr 2
                · rw [decide_eq_decide.mpr (z_eq (by omega))]
                · rw [decide_eq_decide.mpr (nI_leI (by omega) (by omega))]
              rw [es] at kt kf
              refine rp_aload_n (i := 0) d_sec_readNumber_193 rfl rfl ?_
              refine rp_aload_n (i := 1) d_sec_readNumber_194 rfl rfl ?_
              refine rp_callV1 d_sec_readNumber_195 q_sec_readNumber_96 (Or.inl ⟨_, _, _, ho, rfl⟩) (Nat.le_of_ble_eq_true rfl) (Nat.le_of_ble_eq_true rfl) ?_
              refine s_sec_readCommas B6 e6_5 p1 (by omega) (fun h' gr sc z1 z2 z3 z4 z5 => ?_) (fun h' z1 z2 => ?_)
              · refine rp_ireturn (ty := .boolean) d_sec_readNumber_198 rfl rfl ?_
                exact kt h' gr sc z1 z2 ⟨fun k e => by rw [z3.1 k (by omega) (by omega)]; exact Q6.1 k e, fun k => by rw [z3.2 k]; exact Q6.2 k⟩ ⟨by rw [z3.1 5 (by decide) (by decide)]; exact e6_5, by rw [z3.1 6 (by decide) (by decide)]; exact e6_6, by rw [z3.1 7 (by decide) (by decide)]; exact e6_7, by rw [z3.1 8 (by decide) (by decide)]; exact e6_8, by rw [z3.1 9 (by decide) (by decide)]; exact e6_9, by rw [z3.1 10 (by decide) (by decide)]; exact e6_10, z4, z5⟩
              · refine rp_ireturn (ty := .boolean) d_sec_readNumber_198 rfl rfl ?_
                exact kf h' z1 z2
            · refine rp_aload_n (i := 0) d_sec_readNumber_177 rfl rfl ?_
              refine rp_getI d_sec_readNumber_178 f_sec_84 ho ?_
              refine rp_if_eq (tgt := 191) d_sec_readNumber_181 (by decide) (fun c181 => ?_) (fun c181 => ?_)
              · refine rp_iconst (v := 0) d_sec_readNumber_191 (by decide) ?_
                refine rp_ireturn (ty := .boolean) d_sec_readNumber_192 rfl (by first | rfl | decide | assumption) ?_
                have ex6 : n_ex (x_ty XS) a b < b := Nat.not_le.mp (fun z => c174 (by simp [cf_b, z]))
                exact kf h6 (by rw [c_num, if_neg (fun z => z.elim (fun y => c48 ((nI_ltI (a := 1) (by decide) (by omega)).mpr y)) (fun y => y.elim (fun x => c53 ((nI_ltI (a := 1) (by decide) (by omega)).mpr x)) (fun x => absurd x (Nat.not_lt.mpr ((nI_leI (b := 2) (by omega) (by decide)).mp (by rw [e1_10] at c61; exact c61)))))), if_neg (fun z => c114 (by rw [e3_5, e3_6, z.2])), if_pos ⟨ex6, Or.inl ((z_eq (by omega)).mp (by rw [← e6_7]; exact c181))⟩]) B6
              · refine rp_aload_n (i := 0) d_sec_readNumber_184 rfl rfl ?_
                refine rp_getI d_sec_readNumber_185 f_sec_90 ho ?_
                refine rp_if_ne (tgt := 193) d_sec_readNumber_188 (by decide) (fun c188 => ?_) (fun c188 => ?_)
                · have es : c_num (x_ty XS) a b = c_cms (x_ty XS) (s_ok h6 o) (r_fd (x_ty XS) 2 a (n_pt (x_ty XS) a b)) (cf_lst (fun j => decide (x_ty XS j = 2)) a (n_pt (x_ty XS) a b - a)) a (b - a) false 0 := by
                    rw [c_num, if_neg (fun z => z.elim (fun y => c48 ((nI_ltI (a := 1) (by decide) (by omega)).mpr y)) (fun y => y.elim (fun x => c53 ((nI_ltI (a := 1) (by decide) (by omega)).mpr x)) (fun x => absurd x (Nat.not_lt.mpr ((nI_leI (b := 2) (by omega) (by decide)).mp (by rw [e1_10] at c61; exact c61)))))), if_neg (fun z => c114 (by rw [e3_5, e3_6, z.2])), if_neg (fun z => z.2.elim (fun y => c181 (by rw [e6_7, y]; rfl)) (fun y => c188 (by rw [e6_9, y]; rfl))), s_ok, e6_7, e6_6, B6.2.2.2.1]
                    congr 2
                    · rw [decide_eq_decide.mpr (z_eq (by omega))]
                    · rw [decide_eq_decide.mpr (nI_leI (by omega) (by omega))]
                  rw [es] at kt kf
                  refine rp_aload_n (i := 0) d_sec_readNumber_193 rfl rfl ?_
                  refine rp_aload_n (i := 1) d_sec_readNumber_194 rfl rfl ?_
                  refine rp_callV1 d_sec_readNumber_195 q_sec_readNumber_96 (Or.inl ⟨_, _, _, ho, rfl⟩) (Nat.le_of_ble_eq_true rfl) (Nat.le_of_ble_eq_true rfl) ?_
                  refine s_sec_readCommas B6 e6_5 p1 (by omega) (fun h' gr sc z1 z2 z3 z4 z5 => ?_) (fun h' z1 z2 => ?_)
                  · refine rp_ireturn (ty := .boolean) d_sec_readNumber_198 rfl rfl ?_
                    exact kt h' gr sc z1 z2 ⟨fun k e => by rw [z3.1 k (by omega) (by omega)]; exact Q6.1 k e, fun k => by rw [z3.2 k]; exact Q6.2 k⟩ ⟨by rw [z3.1 5 (by decide) (by decide)]; exact e6_5, by rw [z3.1 6 (by decide) (by decide)]; exact e6_6, by rw [z3.1 7 (by decide) (by decide)]; exact e6_7, by rw [z3.1 8 (by decide) (by decide)]; exact e6_8, by rw [z3.1 9 (by decide) (by decide)]; exact e6_9, by rw [z3.1 10 (by decide) (by decide)]; exact e6_10, z4, z5⟩
                  · refine rp_ireturn (ty := .boolean) d_sec_readNumber_198 rfl rfl ?_
                    exact kf h' z1 z2
                · refine rp_iconst (v := 0) d_sec_readNumber_191 (by decide) ?_
                  refine rp_ireturn (ty := .boolean) d_sec_readNumber_192 rfl (by first | rfl | decide | assumption) ?_
                  have ex6 : n_ex (x_ty XS) a b < b := Nat.not_le.mp (fun z => c174 (by simp [cf_b, z]))
                  exact kf h6 (by rw [c_num, if_neg (fun z => z.elim (fun y => c48 ((nI_ltI (a := 1) (by decide) (by omega)).mpr y)) (fun y => y.elim (fun x => c53 ((nI_ltI (a := 1) (by decide) (by omega)).mpr x)) (fun x => absurd x (Nat.not_lt.mpr ((nI_leI (b := 2) (by omega) (by decide)).mp (by rw [e1_10] at c61; exact c61)))))), if_neg (fun z => c114 (by rw [e3_5, e3_6, z.2])), if_pos ⟨ex6, Or.inr ((z_eq (by omega)).mp (by rw [← e6_9]; exact c188))⟩]) B6
          · refine rp_iconst (v := 0) d_sec_readNumber_117 (by decide) ?_
            refine rp_ireturn (ty := .boolean) d_sec_readNumber_118 rfl (by first | rfl | decide | assumption) ?_
            have q1 := (nI_eq (b := 1) (by omega) (by decide)).mp c103
            rw [e3_5, e3_6, nI_eq (by omega) (by omega)] at c114
            exact kf h3 (by rw [c_num, if_neg (fun z => z.elim (fun y => c48 ((nI_ltI (a := 1) (by decide) (by omega)).mpr y)) (fun y => y.elim (fun x => c53 ((nI_ltI (a := 1) (by decide) (by omega)).mpr x)) (fun x => absurd x (Nat.not_lt.mpr ((nI_leI (b := 2) (by omega) (by decide)).mp (by rw [e1_10] at c61; exact c61)))))), if_pos ⟨q1, c114⟩]) B3
      · refine rp_iconst (v := 0) d_sec_readNumber_64 (by decide) ?_
        refine rp_ireturn (ty := .boolean) d_sec_readNumber_65 rfl (by first | rfl | decide | assumption) ?_
        exact kf h1 (by rw [c_num, if_pos (Or.inr (Or.inr (Nat.not_le.mp (fun z => c61 (by rw [e1_10]; exact nI_le z (by decide))))))]) B1
