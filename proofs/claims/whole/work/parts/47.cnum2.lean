/-! THE CLASS: NumberWriter.prepare, write; writePlain -/
/-- what preparing a number changes -/
def nP (h0 h : cf_H) : Prop := (∀ o k, ¬ (15 ≤ o ∧ o ≤ 17) → h.1 o k = h0.1 o k) ∧ (∀ o k, ¬ (16 ≤ o ∧ o ≤ 17) → h.2.1 o k = h0.2.1 o k) ∧ h.2.2 = h0.2.2
theorem nP.rf (h : cf_H) : nP h h := ⟨fun _ _ _ => rfl, fun _ _ _ => rfl, rfl⟩
theorem nP.d {h0 h h' : cf_H} {o : Nat} (f : nP h0 h) (ho : o = 16 ∨ o = 17) (g : d_fr o h h') : nP h0 h' := ⟨fun x k e => (g.1 x k (by omega)).trans (f.1 x k e), fun x k e => (g.2.1 x k (by omega)).trans (f.2.1 x k e), g.2.2.trans f.2.2⟩
theorem nP.pI {h0 h : cf_H} (f : nP h0 h) (k : Nat) (v : Int32) : nP h0 (cf_pI h 15 k v) := ⟨fun x j e => by rw [cf_pI_o (by omega)]; exact f.1 x j e, f.2.1, f.2.2⟩
theorem nP.ok {h0 h : cf_H} (f : nP h0 h) (hR : cf_ok h0) : cf_ok h := fun o k q e => by rw [show h.2.2.1 = h0.2.2.1 from by rw [f.2.2]]; exact hR o k q e
theorem s_num_fr {h h' : cf_H} {o : Nat} {ty : Nat → Int32} {a b sc : Nat} {gr : Bool} (w : s_num h o ty a b gr sc) (g : ∀ k, h'.1 o k = h.1 o k) : s_num h' o ty a b gr sc := by
  unfold s_num at *; simp only [g]; exact w
def mN (n sc : Nat) (ty : Nat → Int32) (a b : Nat) : Nat × Int × Int := mNum n (mScl (r_ct ty 5 a b) sc) (r_ip ty a b) (r_pl ty a b) (!decide (r_fd ty 6 a b = b))
theorem abs_z {E : Int} (h : zR E) : (if 0 ≤ zI E then zI E else - zI E) = nI E.natAbs := by
  by_cases z : 0 ≤ E
  · rw [if_pos (show (0 : Int32) ≤ zI E from (zI_le zR0 h).mpr z), zI_n, Int.natAbs_of_nonneg z]
  · rw [if_neg (show ¬ (0 : Int32) ≤ zI E from fun q => z ((zI_le zR0 h).mp q)), zI_neg, zI_n]; congr 1; omega
theorem mN_E {n sc : Nat} {ty : Nat → Int32} {a b : Nat} (hn : n < 10 ^ 16) (hpc : r_ct ty 5 a b ≤ 2) (hsc : sc ≤ 40) (hip : ¬ r_fd ty 6 a b = b → 1 ≤ r_ip ty a b) (hb : b ≤ 40) (hab : a ≤ b) : -200 ≤ (mN n sc ty a b).2.2 ∧ (mN n sc ty a b).2.2 ≤ 200 ∧ (mN n sc ty a b).1 < 10 ^ 16 ∧ -180 ≤ (mN n sc ty a b).2.1 ∧ (mN n sc ty a b).2.1 ≤ 50 := by
  have i1 := r_ie_le (ty := ty) hab
  have hsc2 : -130 ≤ mScl (r_ct ty 5 a b) sc ∧ mScl (r_ct ty 5 a b) sc ≤ 10 := by unfold mScl; omega
  have hip2 : r_ip ty a b ≤ 40 := by have := r_ct_le ty 2 a (r_ie ty a b); unfold r_ip; omega
  have hfp : r_pl ty a b ≤ 40 := by
    rw [← n_fp_pl hab]; unfold n_fp
    have := r_ct_le ty 2 (n_pt ty a b) (n_ex ty a b)
    have := r_fd_le (ty := ty) (w := 6) hab
    unfold n_ex at *; omega
  unfold mN
  generalize mScl (r_ct ty 5 a b) sc = s at *
  generalize r_ip ty a b = ip at *
  generalize r_pl ty a b = fp at *
  by_cases c : r_fd ty 6 a b = b
  · rw [decide_eq_true c]
    show -200 ≤ (0 : Int) ∧ (0 : Int) ≤ 200 ∧ rdN n s fp < 10 ^ 16 ∧ -180 ≤ rdP s fp ∧ rdP s fp ≤ 50
    refine ⟨by decide, by decide, rdA_le hn _, ?_, ?_⟩ <;> (unfold rdP; split <;> omega)
  · rw [decide_eq_false c]
    show -200 ≤ (tE n s ip fp).2.2 ∧ (tE n s ip fp).2.2 ≤ 200 ∧ (tE n s ip fp).1 < 10 ^ 16 ∧ -180 ≤ (tE n s ip fp).2.1 ∧ (tE n s ip fp).2.1 ≤ 50
    have h1 := hip c
    have hE := tE0_b (a := n) (pw := s) (ip := ip) hn hsc2 h1 hip2
    unfold tE
    split
    · exact ⟨by show -200 ≤ (0 : Int); decide, by show (0 : Int) ≤ 200; decide, hn, by show -180 ≤ s; omega, by show s ≤ 50; omega⟩
    · unfold tE1
      split
      · show -200 ≤ tE0 n s ip + ip ∧ tE0 n s ip + ip ≤ 200 ∧ 1 < 10 ^ 16 ∧ -180 ≤ (0 : Int) ∧ (0 : Int) ≤ 50
        omega
      · show -200 ≤ tE0 n s ip ∧ tE0 n s ip ≤ 200 ∧ rdN n (s - tE0 n s ip) fp < 10 ^ 16 ∧ -180 ≤ rdP (s - tE0 n s ip) fp ∧ rdP (s - tE0 n s ip) fp ≤ 50
        have hn0 : ¬ n = 0 := by assumption
        have hl := ln_le16 hn
        have hl1 : 1 ≤ ln n := by
          have := (ln_sp (Nat.lt_trans hn l1618)).2.1
          apply Nat.pos_of_ne_zero; intro z; rw [z] at this; omega
        have htp : tp n s = ln n - 1 + s := by unfold tp; rw [if_neg hn0]
        refine ⟨by omega, by omega, rdA_le hn _, ?_, ?_⟩ <;> (unfold rdP; split <;> omega)

theorem cf_b_f0 {p : Prop} [Decidable p] (h : cf_b (!decide p) = 0) : p := by
  by_cases z : p
  · exact z
  · rw [decide_eq_false z] at h; exact absurd h (by decide)
set_option maxHeartbeats 4000000 in
set_option maxRecDepth 100000 in
theorem t_num_prep65 {h h2 : cf_H} {P : Option Value → cf_H → Prop} (hR : cf_ok h) {o : Nat} (ho9 : 9 ≤ o ∧ o ≤ 11) {ty : Nat → Int32} {a b sc n : Nat} (hab : a ≤ b) (hb : b ≤ 40) {A : Nat} {pw E : Int} (hE : -200 ≤ E ∧ E ≤ 200) (f2 : nP h h2) (u7 : h2.1 o 7 = nI (r_ip ty a b)) (u9 : h2.1 o 9 = nI (r_ct ty 2 (r_fd ty 6 a b) b)) (g1 : cD h2 16 A pw) (k : ∀ h', cD h' 16 A pw → cD h' 17 E.natAbs 0 → h'.1 15 3 = cf_b (decide (E < 0)) → nC h' ty a b a → nP h h' → P none h') : RP k_num_prepare 65 [(0, .ref 15), (1, .ref o), (4, .int (zI E))] [] h2 P := by
  have ho := s_ho ho9
  have hR2 := f2.ok hR
  have zE : zR E := by unfold zR; omega
  have i0 := r_ie_ge ty a b
  have i1 := r_ie_fd (ty := ty) hab
  have i3 := r_fd_ge ty 6 a b
  refine rp_aload_n (i := 0) d_num_prepare_65 rfl rfl ?_
  refine rp_iload (i := 4) d_num_prepare_66 rfl ?_
  refine rp_if_ge (tgt := 75) d_num_prepare_68 (by decide) (fun c68 => ?_) (fun c68 => ?_)
  · refine rp_iconst (v := 0) d_num_prepare_75 (by decide) ?_
    refine rp_putI d_num_prepare_76 f_num_91 rfl (by first | rfl | decide | assumption) (by first | rfl | decide | assumption) ?_
    have e3 : decide (E < 0) = false := decide_eq_false (fun z => absurd ((zI_le zR0 zE).mp c68) (by omega))
    have v3 : (cf_pI h2 15 3 0).1 15 3 = cf_b (decide (E < 0)) := by rw [cf_pI_s, e3]; rfl
    have f3 := f2.pI 3 0
    have v7 : (cf_pI h2 15 3 0).1 o 7 = nI (r_ip ty a b) := by rw [cf_pI_o (by omega)]; exact u7
    have v9 : (cf_pI h2 15 3 0).1 o 9 = nI (r_ct ty 2 (r_fd ty 6 a b) b) := by rw [cf_pI_o (by omega)]; exact u9
    have v16 : cD (cf_pI h2 15 3 0) 16 A pw := ⟨g1.1, by rw [cf_pI_o (by decide)]; exact g1.2⟩
    generalize cf_pI h2 15 3 0 = h3 at v3 f3 v7 v9 v16 ⊢
    have hR3 := f3.ok hR
    refine rp_aload_n (i := 0) d_num_prepare_79 rfl rfl ?_
    refine rp_getR d_num_prepare_80 f_num_22 rfl (hR3 _ _ _ rfl) ?_
    refine rp_iload (i := 4) d_num_prepare_83 rfl ?_
    refine rp_callS1 d_num_prepare_85 q_num_prepare_95 (Nat.le_of_ble_eq_true rfl) (Nat.le_of_ble_eq_true rfl) ?_
    refine s_math_abs_I ?_
    rw [abs_z zE]
    refine rp_i2l d_num_prepare_88 ?_
    rw [nI_l (by omega)]
    refine rp_iconst (v := 0) d_num_prepare_89 (by decide) ?_
    refine rp_callV2 d_num_prepare_90 q_num_prepare_71 (Or.inl ⟨_, _, _, rfl, rfl⟩) (Nat.le_of_ble_eq_true rfl) (Nat.le_of_ble_eq_true rfl) ?_
    refine s_dec_set rfl ?_
    have f4 := f3.d (Or.inr rfl) (((d_fr.rf 17 h3).pJ 0 (lN E.natAbs)).pI 1 0)
    have x17 : cD (cf_pI (cf_pJ h3 17 0 (lN E.natAbs)) 17 1 0) 17 E.natAbs 0 := ⟨by rw [g_I2, cf_pJ_s], cf_pI_s⟩
    have x16 : cD (cf_pI (cf_pJ h3 17 0 (lN E.natAbs)) 17 1 0) 16 A pw := ⟨by rw [g_I2, cf_pJ_o (by decide)]; exact v16.1, by rw [cf_pI_o (by decide)]; exact v16.2⟩
    have x3 : (cf_pI (cf_pJ h3 17 0 (lN E.natAbs)) 17 1 0).1 15 3 = cf_b (decide (E < 0)) := by rw [cf_pI_o (by decide)]; exact v3
    have x7 : (cf_pI (cf_pJ h3 17 0 (lN E.natAbs)) 17 1 0).1 o 7 = nI (r_ip ty a b) := by rw [cf_pI_o (by omega)]; exact v7
    have x9 : (cf_pI (cf_pJ h3 17 0 (lN E.natAbs)) 17 1 0).1 o 9 = nI (r_ct ty 2 (r_fd ty 6 a b) b) := by rw [cf_pI_o (by omega)]; exact v9
    generalize cf_pI (cf_pJ h3 17 0 (lN E.natAbs)) 17 1 0 = h4 at f4 x17 x16 x3 x7 x9 ⊢
    refine rp_aload_n (i := 0) d_num_prepare_93 rfl rfl ?_
    refine rp_aload_n (i := 1) d_num_prepare_94 rfl rfl ?_
    refine rp_getI d_num_prepare_95 f_num_78 ho ?_
    rw [x7]
    refine rp_putI d_num_prepare_98 f_num_100 rfl rfl rfl ?_
    refine rp_aload_n (i := 0) d_num_prepare_101 rfl rfl ?_
    refine rp_iconst (v := 0) d_num_prepare_102 (by decide) ?_
    refine rp_putI d_num_prepare_103 f_num_103 rfl rfl rfl ?_
    refine rp_aload_n (i := 0) d_num_prepare_106 rfl rfl ?_
    refine rp_aload_n (i := 1) d_num_prepare_107 rfl rfl ?_
    refine rp_getI d_num_prepare_108 f_num_106 ho ?_
    rw [cf_pI_o (by omega), cf_pI_o (by omega), x9]
    refine rp_putI d_num_prepare_111 f_num_109 rfl rfl rfl ?_
    refine rp_return d_num_prepare_114 rfl ?_
    refine k _ ⟨x16.1, ?_⟩ ⟨x17.1, ?_⟩ ?_ ⟨?_, ?_, ?_⟩ (((f4.pI 4 _).pI 5 _).pI 6 _)
    · rw [cf_pI_o (by decide), cf_pI_o (by decide), cf_pI_o (by decide)]; exact x16.2
    · rw [cf_pI_o (by decide), cf_pI_o (by decide), cf_pI_o (by decide)]; exact x17.2
    · rw [cf_pI_k (by decide), cf_pI_k (by decide), cf_pI_k (by decide)]; exact x3
    · rw [cf_pI_k (by decide), cf_pI_k (by decide), cf_pI_s]; rfl
    · rw [cf_pI_k (by decide), cf_pI_s, r_ct_ge (by omega)]; rfl
    · rw [cf_pI_s, Nat.max_eq_right i3]
  · refine rp_iconst (v := 1) d_num_prepare_71 (by decide) ?_
    refine rp_goto (tgt := 76) d_num_prepare_72 (by decide) ?_
    refine rp_putI d_num_prepare_76 f_num_91 rfl (by first | rfl | decide | assumption) (by first | rfl | decide | assumption) ?_
    have e3 : decide (E < 0) = true := decide_eq_true (Int.not_le.mp (fun z => c68 ((zI_le zR0 zE).mpr z)))
    have v3 : (cf_pI h2 15 3 1).1 15 3 = cf_b (decide (E < 0)) := by rw [cf_pI_s, e3]; rfl
    have f3 := f2.pI 3 1
    have v7 : (cf_pI h2 15 3 1).1 o 7 = nI (r_ip ty a b) := by rw [cf_pI_o (by omega)]; exact u7
    have v9 : (cf_pI h2 15 3 1).1 o 9 = nI (r_ct ty 2 (r_fd ty 6 a b) b) := by rw [cf_pI_o (by omega)]; exact u9
    have v16 : cD (cf_pI h2 15 3 1) 16 A pw := ⟨g1.1, by rw [cf_pI_o (by decide)]; exact g1.2⟩
    generalize cf_pI h2 15 3 1 = h3 at v3 f3 v7 v9 v16 ⊢
    have hR3 := f3.ok hR
    refine rp_aload_n (i := 0) d_num_prepare_79 rfl rfl ?_
    refine rp_getR d_num_prepare_80 f_num_22 rfl (hR3 _ _ _ rfl) ?_
    refine rp_iload (i := 4) d_num_prepare_83 rfl ?_
    refine rp_callS1 d_num_prepare_85 q_num_prepare_95 (Nat.le_of_ble_eq_true rfl) (Nat.le_of_ble_eq_true rfl) ?_
    refine s_math_abs_I ?_
    rw [abs_z zE]
    refine rp_i2l d_num_prepare_88 ?_
    rw [nI_l (by omega)]
    refine rp_iconst (v := 0) d_num_prepare_89 (by decide) ?_
    refine rp_callV2 d_num_prepare_90 q_num_prepare_71 (Or.inl ⟨_, _, _, rfl, rfl⟩) (Nat.le_of_ble_eq_true rfl) (Nat.le_of_ble_eq_true rfl) ?_
    refine s_dec_set rfl ?_
    have f4 := f3.d (Or.inr rfl) (((d_fr.rf 17 h3).pJ 0 (lN E.natAbs)).pI 1 0)
    have x17 : cD (cf_pI (cf_pJ h3 17 0 (lN E.natAbs)) 17 1 0) 17 E.natAbs 0 := ⟨by rw [g_I2, cf_pJ_s], cf_pI_s⟩
    have x16 : cD (cf_pI (cf_pJ h3 17 0 (lN E.natAbs)) 17 1 0) 16 A pw := ⟨by rw [g_I2, cf_pJ_o (by decide)]; exact v16.1, by rw [cf_pI_o (by decide)]; exact v16.2⟩
    have x3 : (cf_pI (cf_pJ h3 17 0 (lN E.natAbs)) 17 1 0).1 15 3 = cf_b (decide (E < 0)) := by rw [cf_pI_o (by decide)]; exact v3
    have x7 : (cf_pI (cf_pJ h3 17 0 (lN E.natAbs)) 17 1 0).1 o 7 = nI (r_ip ty a b) := by rw [cf_pI_o (by omega)]; exact v7
    have x9 : (cf_pI (cf_pJ h3 17 0 (lN E.natAbs)) 17 1 0).1 o 9 = nI (r_ct ty 2 (r_fd ty 6 a b) b) := by rw [cf_pI_o (by omega)]; exact v9
    generalize cf_pI (cf_pJ h3 17 0 (lN E.natAbs)) 17 1 0 = h4 at f4 x17 x16 x3 x7 x9 ⊢
    refine rp_aload_n (i := 0) d_num_prepare_93 rfl rfl ?_
    refine rp_aload_n (i := 1) d_num_prepare_94 rfl rfl ?_
    refine rp_getI d_num_prepare_95 f_num_78 ho ?_
    rw [x7]
    refine rp_putI d_num_prepare_98 f_num_100 rfl rfl rfl ?_
    refine rp_aload_n (i := 0) d_num_prepare_101 rfl rfl ?_
    refine rp_iconst (v := 0) d_num_prepare_102 (by decide) ?_
    refine rp_putI d_num_prepare_103 f_num_103 rfl rfl rfl ?_
    refine rp_aload_n (i := 0) d_num_prepare_106 rfl rfl ?_
    refine rp_aload_n (i := 1) d_num_prepare_107 rfl rfl ?_
    refine rp_getI d_num_prepare_108 f_num_106 ho ?_
    rw [cf_pI_o (by omega), cf_pI_o (by omega), x9]
    refine rp_putI d_num_prepare_111 f_num_109 rfl rfl rfl ?_
    refine rp_return d_num_prepare_114 rfl ?_
    refine k _ ⟨x16.1, ?_⟩ ⟨x17.1, ?_⟩ ?_ ⟨?_, ?_, ?_⟩ (((f4.pI 4 _).pI 5 _).pI 6 _)
    · rw [cf_pI_o (by decide), cf_pI_o (by decide), cf_pI_o (by decide)]; exact x16.2
    · rw [cf_pI_o (by decide), cf_pI_o (by decide), cf_pI_o (by decide)]; exact x17.2
    · rw [cf_pI_k (by decide), cf_pI_k (by decide), cf_pI_k (by decide)]; exact x3
    · rw [cf_pI_k (by decide), cf_pI_k (by decide), cf_pI_s]; rfl
    · rw [cf_pI_k (by decide), cf_pI_s, r_ct_ge (by omega)]; rfl
    · rw [cf_pI_s, Nat.max_eq_right i3]
set_option maxHeartbeats 4000000 in
set_option maxRecDepth 100000 in
theorem s_num_prepare {h : cf_H} {P : Option Value → cf_H → Prop} (hR : cf_ok h) {o : Nat} (ho9 : 9 ≤ o ∧ o ≤ 11) {ty : Nat → Int32} {a b sc n : Nat} {gr : Bool} (hs : s_num h o ty a b gr sc) (hb1 : h.1 o 1 = nI b) (hab : a ≤ b) (hb : b ≤ 40) (hn : n < 10 ^ 16) (hpc : r_ct ty 5 a b ≤ 2) (hsc : sc ≤ 40) (hip : ¬ r_fd ty 6 a b = b → 1 ≤ r_ip ty a b) {x : Int64} (hx : x = lN n) (k : ∀ h', cD h' 16 (mN n sc ty a b).1 (mN n sc ty a b).2.1 → cD h' 17 (mN n sc ty a b).2.2.natAbs 0 → h'.1 15 3 = cf_b (decide ((mN n sc ty a b).2.2 < 0)) → nC h' ty a b a → nP h h' → P none h') : RP k_num_prepare 0 [(0, .ref 15), (1, .ref o), (2, .long x)] [] h P := by
  subst hx
  have hbd := mN_E (n := n) (sc := sc) (ty := ty) (a := a) (b := b) hn hpc hsc hip hb hab
  obtain ⟨p1, p2, p3, p4, p5, p6, p7, p8⟩ := hs
  have ho := s_ho ho9
  have i1 := r_ie_le (ty := ty) hab
  have i2 := r_fd_le (ty := ty) (w := 6) hab
  have hpt := n_pt_ie (ty := ty) hab
  have hfp := n_fp_pl (ty := ty) hab
  have hsc2 : -130 ≤ mScl (r_ct ty 5 a b) sc ∧ mScl (r_ct ty 5 a b) sc ≤ 10 := by unfold mScl; omega
  have hip40 : r_ip ty a b ≤ 40 := by have := r_ct_le ty 2 a (r_ie ty a b); unfold r_ip; omega
  have hfp40 : r_pl ty a b ≤ 40 := by
    rw [← hfp]; unfold n_fp
    have := r_ct_le ty 2 (n_pt ty a b) (n_ex ty a b)
    unfold n_ex at *; omega
  refine rp_aload_n (i := 0) d_num_prepare_0 rfl rfl ?_
  refine rp_getR d_num_prepare_1 f_num_18 rfl (hR _ _ _ rfl) ?_
  refine rp_lload_n (i := 2) d_num_prepare_4 rfl rfl ?_
  refine rp_iconst (v := 2) d_num_prepare_5 (by decide) ?_
  refine rp_aload_n (i := 1) d_num_prepare_6 rfl rfl ?_
  refine rp_getI d_num_prepare_7 f_num_65 ho ?_
  rw [p6]
  refine rp_imul d_num_prepare_10 ?_
  refine rp_iconst (v := 3) d_num_prepare_11 (by decide) ?_
  refine rp_aload_n (i := 1) d_num_prepare_12 rfl rfl ?_
  refine rp_getI d_num_prepare_13 f_num_68 ho ?_
  rw [p8]
  refine rp_imul d_num_prepare_16 ?_
  refine rp_isub d_num_prepare_17 ?_
  refine rp_bipush (v := 6) d_num_prepare_18 (by decide) ?_
  refine rp_isub d_num_prepare_20 ?_
  rw [show (2 : Int32) * nI (r_ct ty 5 a b) - 3 * nI sc - 6 = zI (mScl (r_ct ty 5 a b) sc) from by rw [zI_n, zI_n, show (2 : Int32) = zI 2 from rfl, show (3 : Int32) = zI 3 from rfl, show (6 : Int32) = zI 6 from rfl, zI_mul, zI_mul, zI_sub, zI_sub]; congr 1; unfold mScl; omega]
  refine rp_callV2 d_num_prepare_21 q_num_prepare_71 (Or.inl ⟨_, _, _, rfl, rfl⟩) (Nat.le_of_ble_eq_true rfl) (Nat.le_of_ble_eq_true rfl) ?_
  refine s_dec_set rfl ?_
  have hD : cD (cf_pI (cf_pJ h 16 0 (lN n)) 16 1 (zI (mScl (r_ct ty 5 a b) sc))) 16 n (mScl (r_ct ty 5 a b) sc) := ⟨by rw [g_I2, cf_pJ_s], cf_pI_s⟩
  have f1 : nP h (cf_pI (cf_pJ h 16 0 (lN n)) 16 1 (zI (mScl (r_ct ty 5 a b) sc))) := (nP.rf h).d (Or.inl rfl) (((d_fr.rf 16 h).pJ 0 _).pI 1 _)
  generalize cf_pI (cf_pJ h 16 0 (lN n)) 16 1 (zI (mScl (r_ct ty 5 a b) sc)) = h1 at hD f1 ⊢
  have u1 : h1.1 o 1 = nI b := (f1.1 o 1 (by omega)).trans hb1
  have u6 : h1.1 o 6 = nI (r_fd ty 6 a b) := (f1.1 o 6 (by omega)).trans p2
  have u7 : h1.1 o 7 = nI (r_ip ty a b) := by rw [f1.1 o 7 (by omega), p3, n_ip, hpt]; rfl
  have u8 : h1.1 o 8 = nI (r_pl ty a b) := by rw [f1.1 o 8 (by omega), p4, hfp]
  have hR1 := f1.ok hR
  refine rp_iconst (v := 0) d_num_prepare_24 (by decide) ?_
  refine rp_istore (i := 4) d_num_prepare_25 rfl (Nat.le_of_ble_eq_true rfl) ?_
  refine rp_aload_n (i := 1) d_num_prepare_27 rfl rfl ?_
  refine rp_callV0 d_num_prepare_28 q_num_prepare_75 (Or.inl ⟨_, _, _, ho, rfl⟩) (Nat.le_of_ble_eq_true rfl) (Nat.le_of_ble_eq_true rfl) ?_
  refine s_sec_hasExponent ho9 ?_
  refine rp_if_eq (tgt := 54) d_num_prepare_31 (by decide) (fun c31 => ?_) (fun c31 => ?_)
  · refine rp_aload_n (i := 0) d_num_prepare_54 rfl rfl ?_
    refine rp_getR d_num_prepare_55 f_num_18 rfl (hR1 _ _ _ rfl) ?_
    refine rp_aload_n (i := 1) d_num_prepare_58 rfl rfl ?_
    refine rp_getI d_num_prepare_59 f_num_81 ho ?_
    refine rp_callV1 d_num_prepare_62 q_num_prepare_88 (Or.inl ⟨_, _, _, rfl, rfl⟩) (Nat.le_of_ble_eq_true rfl) (Nat.le_of_ble_eq_true rfl) ?_
    have e6 : r_fd ty 6 a b = b := Nat.le_antisymm i2 ((nI_leI (by omega) (by omega)).mp (by have z := cf_b_f0 c31; rw [u1, u6] at z; exact z))
    refine s_dec_round rfl hD hn (by omega) hfp40 u8 (fun h2 g1 g2 => ?_)
    have em : mN n sc ty a b = (rdN n (mScl (r_ct ty 5 a b) sc) (r_pl ty a b), rdP (mScl (r_ct ty 5 a b) sc) (r_pl ty a b), 0) := by rw [mN, decide_eq_true e6]; rfl
    have f2 := f1.d (Or.inl rfl) g2
    replace g1 : cD h2 16 (mN n sc ty a b).1 (mN n sc ty a b).2.1 := by rw [em]; exact g1
    rw [show (0 : Int32) = zI (mN n sc ty a b).2.2 from by rw [em]; rfl]
    refine rp_lv [(0, .ref 15), (1, .ref o), (4, .int (zI (mN n sc ty a b).2.2))] rfl ?_
    exact t_num_prep65 hR ho9 hab hb (n := n) (sc := sc) (by omega) f2 (by rw [g2.1 o 7 (by omega)]; exact u7) (by rw [g2.1 o 9 (by omega), f1.1 o 9 (by omega)]; exact p5) g1 k
  · refine rp_aload_n (i := 0) d_num_prepare_34 rfl rfl ?_
    refine rp_getR d_num_prepare_35 f_num_18 rfl (hR1 _ _ _ rfl) ?_
    refine rp_aload_n (i := 1) d_num_prepare_38 rfl rfl ?_
    refine rp_getI d_num_prepare_39 f_num_78 ho ?_
    refine rp_aload_n (i := 1) d_num_prepare_42 rfl rfl ?_
    refine rp_getI d_num_prepare_43 f_num_81 ho ?_
    refine rp_callV2 d_num_prepare_46 q_num_prepare_84 (Or.inl ⟨_, _, _, rfl, rfl⟩) (Nat.le_of_ble_eq_true rfl) (Nat.le_of_ble_eq_true rfl) ?_
    have e6 : ¬ r_fd ty 6 a b = b := fun z => c31 (by rw [u1, u6, z, decide_eq_true (Int32.le_refl _)]; rfl)
    refine s_dec_takeExponent rfl hD hn hsc2 hfp40 (hip e6) hip40 u7 u8 (fun h2 g1 g2 => ?_)
    have em : mN n sc ty a b = tE n (mScl (r_ct ty 5 a b) sc) (r_ip ty a b) (r_pl ty a b) := by rw [mN, decide_eq_false e6]; rfl
    rw [← em] at g1 ⊢
    have f2 := f1.d (Or.inl rfl) g2
    refine rp_istore (i := 4) d_num_prepare_49 rfl (Nat.le_of_ble_eq_true rfl) ?_
    refine rp_goto (tgt := 65) d_num_prepare_51 (by decide) ?_
    refine rp_lv [(0, .ref 15), (1, .ref o), (4, .int (zI (mN n sc ty a b).2.2))] rfl ?_
    exact t_num_prep65 hR ho9 hab hb (n := n) (sc := sc) (by omega) f2 (by rw [g2.1 o 7 (by omega)]; exact u7) (by rw [g2.1 o 9 (by omega), f1.1 o 9 (by omega)]; exact p5) g1 k
theorem nW.xB {h0 h : cf_H} {L : List Int32} (w : nW h0 L h) {XS : List r_K} (hB : x_B h0 XS) : x_B h XS := by
  refine ⟨w.ok, ⟨by rw [w.2.1 2 3 (by decide) (by decide)]; exact hB.2.1.1, ?_⟩, hB.2.2⟩
  rw [w.2.2.2.2.1 3 (by decide), w.2.2.2.2.1 4 (by decide), w.2.2.2.2.1 5 (by decide)]; exact hB.2.1.2
theorem fl_S (f : Nat → List Int32) (i n : Nat) : fl f i (n + 1) = f i ++ fl f (i + 1) n := rfl
set_option maxHeartbeats 4000000 in
set_option maxRecDepth 100000 in
theorem l_num_write {h0 : cf_H} {P : Option Value → cf_H → Prop} {o : Nat} (ho9 : 9 ≤ o ∧ o ≤ 11) {XS : List r_K} (hB : x_B h0 XS) {a b : Nat} {gr neg : Bool} {sc : Nat} (hs : s_num h0 o (x_ty XS) a b gr sc) (hb1 : h0.1 o 1 = nI b) {A e : Nat} {pw : Int} (hD : cD h0 16 A pw) (hE : cD h0 17 e 0) (hneg : h0.1 15 3 = cf_b neg) (hA : A < 10 ^ 16) (he : e < 10 ^ 16) (hpw : pw ≤ 100 ∧ -400 ≤ pw) (hb : b ≤ 40) : ∀ (m j : Nat) (h : cf_H) (L : List Int32), j + m = b → a ≤ j → nW h0 L h → nC h (x_ty XS) a b j → L.length + (fl (cTk A pw e neg gr (x_ty XS) (x_va XS) a b) j m).length ≤ 256 → (k : ∀ h', nW h0 (L ++ fl (cTk A pw e neg gr (x_ty XS) (x_va XS) a b) j m) h' → P none h') → RP k_num_write 36 [(0, .ref 15), (1, .ref 2), (2, .ref o), (6, .int (nI j))] [] h P := by
  intro m
  induction m with
  | zero =>
    intro j h L ej haj w hC hl k
    have ej : j = b := ej
    have ho := s_ho ho9
    have fo : h.1 o 1 = nI b := by rw [w.2.1 o 1 (by omega) (by omega)]; exact hb1
    refine rp_iload (i := 6) d_num_write_36 rfl ?_
    refine rp_aload_n (i := 2) d_num_write_38 rfl rfl ?_
    refine rp_getI d_num_write_39 f_num_45 ho ?_
    rw [fo]
    refine rp_icmp_ge (tgt := 133) d_num_write_42 (by decide) (fun c42 => ?_) (fun c42 => ?_)
    · refine rp_return d_num_write_133 rfl ?_
      refine k h ?_
      show nW h0 (L ++ []) h
      rw [List.append_nil]; exact w
    · exact absurd (by rw [ej]; exact Int32.le_refl _) c42
  | succ m ih =>
    intro j h L ej haj w hC hl k
    have ho := s_ho ho9
    have fo : h.1 o 1 = nI b := by rw [w.2.1 o 1 (by omega) (by omega)]; exact hb1
    have hX := w.xB hB
    refine rp_iload (i := 6) d_num_write_36 rfl ?_
    refine rp_aload_n (i := 2) d_num_write_38 rfl rfl ?_
    refine rp_getI d_num_write_39 f_num_45 ho ?_
    rw [fo]
    refine rp_icmp_ge (tgt := 133) d_num_write_42 (by decide) (fun c42 => ?_) (fun c42 => ?_)
    · exact absurd c42 (nI_ge (by omega) (by omega))
    · refine rp_aload_n (i := 1) d_num_write_45 rfl rfl ?_
      refine rp_iload (i := 6) d_num_write_46 rfl ?_
      refine rp_callV1 d_num_write_48 q_num_write_48 (Or.inl ⟨_, _, _, rfl, rfl⟩) (Nat.le_of_ble_eq_true rfl) (Nat.le_of_ble_eq_true rfl) ?_
      refine t_typeAt hX rfl (by omega) ?_
      refine rp_istore (i := 7) d_num_write_51 rfl (Nat.le_of_ble_eq_true rfl) ?_
      refine rp_iload (i := 7) d_num_write_53 rfl ?_
      refine rp_iconst (v := 2) d_num_write_55 (by decide) ?_
      refine rp_icmp_ne (tgt := 75) d_num_write_56 (by decide) (fun c56 => ?_) (fun c56 => ?_)
      · refine rp_iload (i := 7) d_num_write_75 rfl ?_
        refine rp_bipush (v := 6) d_num_write_77 (by decide) ?_
        refine rp_icmp_ne (tgt := 95) d_num_write_79 (by decide) (fun c79 => ?_) (fun c79 => ?_)
        · refine rp_iload (i := 7) d_num_write_95 rfl ?_
          refine rp_iconst (v := 1) d_num_write_97 (by decide) ?_
          refine rp_icmp_eq (tgt := 113) d_num_write_98 (by decide) (fun c98 => ?_) (fun c98 => ?_)
          · refine rp_aload_n (i := 0) d_num_write_113 rfl rfl ?_
            refine rp_getR d_num_write_114 f_num_9 rfl (w.ok _ _ _ rfl) ?_
            refine rp_aload_n (i := 1) d_num_write_117 rfl rfl ?_
            refine rp_iload (i := 6) d_num_write_118 rfl ?_
            refine rp_callV1 d_num_write_120 q_num_write_54 (Or.inl ⟨_, _, _, rfl, rfl⟩) (Nat.le_of_ble_eq_true rfl) (Nat.le_of_ble_eq_true rfl) ?_
            refine t_valueAt hX rfl (by omega) ?_
            refine rp_i2c d_num_write_123 ?_
            refine rp_callV1 d_num_write_124 q_num_write_33 (Or.inl ⟨_, _, _, rfl, rfl⟩) (Nat.le_of_ble_eq_true rfl) (Nat.le_of_ble_eq_true rfl) ?_
            have ec : (cTk A pw e neg gr (x_ty XS) (x_va XS) a b) j = [x_va XS j] := by unfold cTk; rw [if_neg c56, if_neg c79, if_pos (Or.inl c98)]
            rw [fl_S, ec, List.length_append] at hl
            have hl2 : L.length + [x_va XS j].length + (fl (cTk A pw e neg gr (x_ty XS) (x_va XS) a b) (j + 1) m).length ≤ 256 := by omega
            refine s_txt_add w.self (by simp only [List.length_cons, List.length_nil] at hl; omega) rfl (fun h2 v => ?_)
            refine rp_iinc (i := 6) (y := 1) d_num_write_127 rfl (by decide) rfl (Nat.le_of_ble_eq_true rfl) ?_
            refine rp_goto (tgt := 36) d_num_write_130 (by decide) ?_
            refine rp_lv [(0, .ref 15), (1, .ref 2), (2, .ref o), (6, .int (nI (j + 1)))] (by rw [← nI_1]; rfl) ?_
            refine ih (j + 1) h2 _ (by omega) (by omega) (w.w v) (hC.step (by omega) (by omega) c56 (fun k => v.2.1.1 15 k (by omega))) (by rw [List.length_append]; exact hl2) (fun h3 z => k h3 (by rw [fl_S, ec, ← List.append_assoc]; exact z))
          · refine rp_iload (i := 7) d_num_write_101 rfl ?_
            refine rp_iconst (v := 5) d_num_write_103 (by decide) ?_
            refine rp_icmp_eq (tgt := 113) d_num_write_104 (by decide) (fun c104 => ?_) (fun c104 => ?_)
            · refine rp_aload_n (i := 0) d_num_write_113 rfl rfl ?_
              refine rp_getR d_num_write_114 f_num_9 rfl (w.ok _ _ _ rfl) ?_
              refine rp_aload_n (i := 1) d_num_write_117 rfl rfl ?_
              refine rp_iload (i := 6) d_num_write_118 rfl ?_
              refine rp_callV1 d_num_write_120 q_num_write_54 (Or.inl ⟨_, _, _, rfl, rfl⟩) (Nat.le_of_ble_eq_true rfl) (Nat.le_of_ble_eq_true rfl) ?_
              refine t_valueAt hX rfl (by omega) ?_
              refine rp_i2c d_num_write_123 ?_
              refine rp_callV1 d_num_write_124 q_num_write_33 (Or.inl ⟨_, _, _, rfl, rfl⟩) (Nat.le_of_ble_eq_true rfl) (Nat.le_of_ble_eq_true rfl) ?_
              have ec : (cTk A pw e neg gr (x_ty XS) (x_va XS) a b) j = [x_va XS j] := by unfold cTk; rw [if_neg c56, if_neg c79, if_pos (Or.inr (Or.inl c104))]
              rw [fl_S, ec, List.length_append] at hl
              have hl2 : L.length + [x_va XS j].length + (fl (cTk A pw e neg gr (x_ty XS) (x_va XS) a b) (j + 1) m).length ≤ 256 := by omega
              refine s_txt_add w.self (by simp only [List.length_cons, List.length_nil] at hl; omega) rfl (fun h2 v => ?_)
              refine rp_iinc (i := 6) (y := 1) d_num_write_127 rfl (by decide) rfl (Nat.le_of_ble_eq_true rfl) ?_
              refine rp_goto (tgt := 36) d_num_write_130 (by decide) ?_
              refine rp_lv [(0, .ref 15), (1, .ref 2), (2, .ref o), (6, .int (nI (j + 1)))] (by rw [← nI_1]; rfl) ?_
              refine ih (j + 1) h2 _ (by omega) (by omega) (w.w v) (hC.step (by omega) (by omega) c56 (fun k => v.2.1.1 15 k (by omega))) (by rw [List.length_append]; exact hl2) (fun h3 z => k h3 (by rw [fl_S, ec, ← List.append_assoc]; exact z))
            · refine rp_iload (i := 7) d_num_write_107 rfl ?_
              refine rp_iconst (v := 3) d_num_write_109 (by decide) ?_
              refine rp_icmp_ne (tgt := 127) d_num_write_110 (by decide) (fun c110 => ?_) (fun c110 => ?_)
              · refine rp_iinc (i := 6) (y := 1) d_num_write_127 rfl (by decide) rfl (Nat.le_of_ble_eq_true rfl) ?_
                refine rp_goto (tgt := 36) d_num_write_130 (by decide) ?_
                have ec : (cTk A pw e neg gr (x_ty XS) (x_va XS) a b) j = [] := by unfold cTk; rw [if_neg c56, if_neg c79, if_neg (fun z => z.elim c98 (fun z => z.elim c104 c110))]
                rw [fl_S, ec, List.nil_append] at hl k
                refine rp_lv [(0, .ref 15), (1, .ref 2), (2, .ref o), (6, .int (nI (j + 1)))] (by rw [← nI_1]; rfl) ?_
                exact ih (j + 1) h L (by omega) (by omega) w (hC.step (by omega) (by omega) c56 (fun _ => rfl)) hl k
              · refine rp_aload_n (i := 0) d_num_write_113 rfl rfl ?_
                refine rp_getR d_num_write_114 f_num_9 rfl (w.ok _ _ _ rfl) ?_
                refine rp_aload_n (i := 1) d_num_write_117 rfl rfl ?_
                refine rp_iload (i := 6) d_num_write_118 rfl ?_
                refine rp_callV1 d_num_write_120 q_num_write_54 (Or.inl ⟨_, _, _, rfl, rfl⟩) (Nat.le_of_ble_eq_true rfl) (Nat.le_of_ble_eq_true rfl) ?_
                refine t_valueAt hX rfl (by omega) ?_
                refine rp_i2c d_num_write_123 ?_
                refine rp_callV1 d_num_write_124 q_num_write_33 (Or.inl ⟨_, _, _, rfl, rfl⟩) (Nat.le_of_ble_eq_true rfl) (Nat.le_of_ble_eq_true rfl) ?_
                have ec : (cTk A pw e neg gr (x_ty XS) (x_va XS) a b) j = [x_va XS j] := by unfold cTk; rw [if_neg c56, if_neg c79, if_pos (Or.inr (Or.inr c110))]
                rw [fl_S, ec, List.length_append] at hl
                have hl2 : L.length + [x_va XS j].length + (fl (cTk A pw e neg gr (x_ty XS) (x_va XS) a b) (j + 1) m).length ≤ 256 := by omega
                refine s_txt_add w.self (by simp only [List.length_cons, List.length_nil] at hl; omega) rfl (fun h2 v => ?_)
                refine rp_iinc (i := 6) (y := 1) d_num_write_127 rfl (by decide) rfl (Nat.le_of_ble_eq_true rfl) ?_
                refine rp_goto (tgt := 36) d_num_write_130 (by decide) ?_
                refine rp_lv [(0, .ref 15), (1, .ref 2), (2, .ref o), (6, .int (nI (j + 1)))] (by rw [← nI_1]; rfl) ?_
                refine ih (j + 1) h2 _ (by omega) (by omega) (w.w v) (hC.step (by omega) (by omega) c56 (fun k => v.2.1.1 15 k (by omega))) (by rw [List.length_append]; exact hl2) (fun h3 z => k h3 (by rw [fl_S, ec, ← List.append_assoc]; exact z))
        · refine rp_aload_n (i := 0) d_num_write_82 rfl rfl ?_
          refine rp_aload_n (i := 1) d_num_write_83 rfl rfl ?_
          refine rp_iload (i := 6) d_num_write_84 rfl ?_
          refine rp_callV1 d_num_write_86 q_num_write_54 (Or.inl ⟨_, _, _, rfl, rfl⟩) (Nat.le_of_ble_eq_true rfl) (Nat.le_of_ble_eq_true rfl) ?_
          refine t_valueAt hX rfl (by omega) ?_
          refine rp_callV1 d_num_write_89 q_num_write_61 (Or.inl ⟨_, _, _, rfl, rfl⟩) (Nat.le_of_ble_eq_true rfl) (Nat.le_of_ble_eq_true rfl) ?_
          have ec : (cTk A pw e neg gr (x_ty XS) (x_va XS) a b) j = wM neg (x_va XS j) := by unfold cTk; rw [if_neg c56, if_pos c79]
          rw [fl_S, ec, List.length_append] at hl
          refine s_num_writeExponentMark (h0 := h) w.self (neg := neg) (by rw [w.2.1 15 3 (by decide) (by decide)]; exact hneg) (by omega) (fun h2 v => ?_)
          refine rp_goto (tgt := 127) d_num_write_92 (by decide) ?_
          refine rp_iinc (i := 6) (y := 1) d_num_write_127 rfl (by decide) rfl (Nat.le_of_ble_eq_true rfl) ?_
          refine rp_goto (tgt := 36) d_num_write_130 (by decide) ?_
          refine rp_lv [(0, .ref 15), (1, .ref 2), (2, .ref o), (6, .int (nI (j + 1)))] (by rw [← nI_1]; rfl) ?_
          refine ih (j + 1) h2 _ (by omega) (by omega) (w.w v) (hC.step (by omega) (by omega) (by rw [c79]; decide) (fun k => v.2.1.1 15 k (by omega))) (by rw [List.length_append]; omega) (fun h3 z => k h3 (by rw [fl_S, ec, ← List.append_assoc]; exact z))
      · refine rp_aload_n (i := 0) d_num_write_59 rfl rfl ?_
        refine rp_aload_n (i := 2) d_num_write_60 rfl rfl ?_
        refine rp_iload (i := 6) d_num_write_61 rfl ?_
        refine rp_aload_n (i := 1) d_num_write_63 rfl rfl ?_
        refine rp_iload (i := 6) d_num_write_64 rfl ?_
        refine rp_callV1 d_num_write_66 q_num_write_54 (Or.inl ⟨_, _, _, rfl, rfl⟩) (Nat.le_of_ble_eq_true rfl) (Nat.le_of_ble_eq_true rfl) ?_
        refine t_valueAt hX rfl (by omega) ?_
        refine rp_callV3 d_num_write_69 q_num_write_57 (Or.inl ⟨_, _, _, rfl, rfl⟩) (Nat.le_of_ble_eq_true rfl) (Nat.le_of_ble_eq_true rfl) ?_
        have ec : (cTk A pw e neg gr (x_ty XS) (x_va XS) a b) j = tkN A pw e gr (x_ty XS) (x_va XS) a b j := by unfold cTk; rw [if_pos c56]
        rw [fl_S, ec, List.length_append] at hl
        refine s_num_writePlace w ho9 hs hD hE hA he hpw (by omega) (by omega) hb c56 hC rfl rfl (by omega) (fun h2 v1 v2 => ?_)
        refine rp_goto (tgt := 127) d_num_write_72 (by decide) ?_
        refine rp_iinc (i := 6) (y := 1) d_num_write_127 rfl (by decide) rfl (Nat.le_of_ble_eq_true rfl) ?_
        refine rp_goto (tgt := 36) d_num_write_130 (by decide) ?_
        refine rp_lv [(0, .ref 15), (1, .ref 2), (2, .ref o), (6, .int (nI (j + 1)))] (by rw [← nI_1]; rfl) ?_
        refine ih (j + 1) h2 _ (by omega) (by omega) v1 v2 (by rw [List.length_append]; omega) (fun h3 z => k h3 (by rw [fl_S, ec, ← List.append_assoc]; exact z))
set_option maxHeartbeats 4000000 in
set_option maxRecDepth 100000 in
theorem s_num_write {h : cf_H} {P : Option Value → cf_H → Prop} (hR : cf_ok h) {L : List Int32} (hL : h.1 13 1 = nI L.length ∧ tx (h.2.2.2 14) L) {o : Nat} (ho9 : 9 ≤ o ∧ o ≤ 11) {XS : List r_K} (hB : x_B h XS) {a b sc n : Nat} {gr minus : Bool} (hs : s_num h o (x_ty XS) a b gr sc) (ha1 : h.1 o 0 = nI a) (hb1 : h.1 o 1 = nI b) (hab : a ≤ b) (hb : b ≤ 40) (hn : n < 10 ^ 16) (hpc : r_ct (x_ty XS) 5 a b ≤ 2) (hsc : sc ≤ 40) (hip : ¬ r_fd (x_ty XS) 6 a b = b → 1 ≤ r_ip (x_ty XS) a b) {x : Int64} {y : Int32} (hx : x = lN n) (hy : y = cf_b minus) (hl : L.length + 1 + (fl (cTk (mN n sc (x_ty XS) a b).1 (mN n sc (x_ty XS) a b).2.1 (mN n sc (x_ty XS) a b).2.2.natAbs (decide ((mN n sc (x_ty XS) a b).2.2 < 0)) gr (x_ty XS) (x_va XS) a b) a (b - a)).length ≤ 256) (k : ∀ h' h1, nP h h1 → nW h1 (L ++ ((if minus = true ∧ ¬ (mN n sc (x_ty XS) a b).1 = 0 then [45] else []) ++ fl (cTk (mN n sc (x_ty XS) a b).1 (mN n sc (x_ty XS) a b).2.1 (mN n sc (x_ty XS) a b).2.2.natAbs (decide ((mN n sc (x_ty XS) a b).2.2 < 0)) gr (x_ty XS) (x_va XS) a b) a (b - a))) h' → P none h') : RP k_num_write 0 [(0, .ref 15), (1, .ref 2), (2, .ref o), (3, .long x), (5, .int y)] [] h P := by
  subst hx; subst hy
  have ho := s_ho ho9
  refine rp_aload_n (i := 0) d_num_write_0 rfl rfl ?_
  refine rp_aload_n (i := 2) d_num_write_1 rfl rfl ?_
  refine rp_lload_n (i := 3) d_num_write_2 rfl rfl ?_
  refine rp_callV2 d_num_write_3 q_num_write_25 (Or.inl ⟨_, _, _, rfl, rfl⟩) (Nat.le_of_ble_eq_true rfl) (Nat.le_of_ble_eq_true rfl) ?_
  refine s_num_prepare hR ho9 hs hb1 hab hb hn hpc hsc hip rfl (fun h1 g1 g2 g3 g4 g5 => ?_)
  have hbd := mN_E (n := n) (sc := sc) (ty := x_ty XS) (a := a) (b := b) hn hpc hsc hip hb hab
  have hR1 := g5.ok hR
  have w1 : nW h1 L h1 := ⟨hR1, fun _ _ _ _ => rfl, rfl, rfl, fun _ _ => rfl, by rw [g5.1 13 1 (by decide)]; exact hL.1, by rw [g5.2.2]; exact hL.2⟩
  have hB1 : x_B h1 XS := ⟨hR1, ⟨by rw [g5.1 2 3 (by decide)]; exact hB.2.1.1, by rw [g5.2.2]; exact hB.2.1.2⟩, hB.2.2⟩
  have hs1 : s_num h1 o (x_ty XS) a b gr sc := s_num_fr hs (fun k => g5.1 o k (by omega))
  have hb11 : h1.1 o 1 = nI b := (g5.1 o 1 (by omega)).trans hb1
  have ha11 : h1.1 o 0 = nI a := (g5.1 o 0 (by omega)).trans ha1
  refine rp_iload (i := 5) d_num_write_6 rfl ?_
  refine rp_if_eq (tgt := 30) d_num_write_8 (by decide) (fun c8 => ?_) (fun c8 => ?_)
  · refine rp_aload_n (i := 2) d_num_write_30 rfl rfl ?_
    refine rp_getI d_num_write_31 f_num_39 ho ?_
    rw [ha11]
    refine rp_istore (i := 6) d_num_write_34 rfl (Nat.le_of_ble_eq_true rfl) ?_
    have ei : (if minus = true ∧ ¬ (mN n sc (x_ty XS) a b).1 = 0 then [45] else []) = ([] : List Int32) := if_neg (fun z => by rw [z.1] at c8; exact absurd c8 (by decide))
    refine rp_lv [(0, .ref 15), (1, .ref 2), (2, .ref o), (6, .int (nI a))] rfl ?_
    refine l_num_write ho9 hB1 hs1 hb11 g1 g2 g3 hbd.2.2.1 (by omega) (by omega) hb (b - a) a _ _ (by omega) (Nat.le_refl _) w1 g4 (by omega) (fun h3 z => k h3 h1 g5 ?_)
    rw [ei, List.nil_append]; exact z
  · refine rp_aload_n (i := 0) d_num_write_11 rfl rfl ?_
    refine rp_getR d_num_write_12 f_num_18 rfl (hR1 _ _ _ rfl) ?_
    refine rp_callV0 d_num_write_15 q_num_write_29 (Or.inl ⟨_, _, _, rfl, rfl⟩) (Nat.le_of_ble_eq_true rfl) (Nat.le_of_ble_eq_true rfl) ?_
    refine s_dec_isZero rfl g1 hbd.2.2.1 ?_
    refine rp_if_ne (tgt := 30) d_num_write_18 (by decide) (fun c18 => ?_) (fun c18 => ?_)
    · refine rp_aload_n (i := 2) d_num_write_30 rfl rfl ?_
      refine rp_getI d_num_write_31 f_num_39 ho ?_
      rw [ha11]
      refine rp_istore (i := 6) d_num_write_34 rfl (Nat.le_of_ble_eq_true rfl) ?_
      have ei : (if minus = true ∧ ¬ (mN n sc (x_ty XS) a b).1 = 0 then [45] else []) = ([] : List Int32) := if_neg (fun z => by rw [decide_eq_false z.2] at c18; exact absurd rfl c18)
      refine rp_lv [(0, .ref 15), (1, .ref 2), (2, .ref o), (6, .int (nI a))] rfl ?_
      refine l_num_write ho9 hB1 hs1 hb11 g1 g2 g3 hbd.2.2.1 (by omega) (by omega) hb (b - a) a _ _ (by omega) (Nat.le_refl _) w1 g4 (by omega) (fun h3 z => k h3 h1 g5 ?_)
      rw [ei, List.nil_append]; exact z
    · refine rp_aload_n (i := 0) d_num_write_21 rfl rfl ?_
      refine rp_getR d_num_write_22 f_num_9 rfl (hR1 _ _ _ rfl) ?_
      refine rp_bipush (v := 45) d_num_write_25 (by decide) ?_
      refine rp_callV1 d_num_write_27 q_num_write_33 (Or.inl ⟨_, _, _, rfl, rfl⟩) (Nat.le_of_ble_eq_true rfl) (Nat.le_of_ble_eq_true rfl) ?_
      refine s_txt_add w1.self (by omega) (x := 45) rfl (fun h2 v => ?_)
      refine rp_aload_n (i := 2) d_num_write_30 rfl rfl ?_
      refine rp_getI d_num_write_31 f_num_39 ho ?_
      rw [(v.2.1.1 o 0 (by omega)).trans ha11]
      refine rp_istore (i := 6) d_num_write_34 rfl (Nat.le_of_ble_eq_true rfl) ?_
      have ei : (if minus = true ∧ ¬ (mN n sc (x_ty XS) a b).1 = 0 then [45] else []) = ([45] : List Int32) := if_pos ⟨cf_b_t c8, fun z => by rw [decide_eq_true z] at c18; exact absurd c18 (by decide)⟩
      refine rp_lv [(0, .ref 15), (1, .ref 2), (2, .ref o), (6, .int (nI a))] rfl ?_
      refine l_num_write ho9 hB1 hs1 hb11 g1 g2 g3 hbd.2.2.1 (by omega) (by omega) hb (b - a) a _ _ (by omega) (Nat.le_refl _) (w1.w v) ⟨(v.2.1.1 15 4 (by decide)).trans g4.1, (v.2.1.1 15 5 (by decide)).trans g4.2.1, (v.2.1.1 15 6 (by decide)).trans g4.2.2⟩ (by rw [List.length_append]; exact hl) (fun h3 z => k h3 h1 g5 ?_)
      rw [ei, ← List.append_assoc]; exact z
