/-! THE REFERENCE: literals, places, numbers, plain sections -/
def rLt (tx : Nat → Int32) (f s : Int32) : List Int32 := if f < 0 then [32] else cTxt tx f.toNatClampNeg (s.toNatClampNeg - f.toNatClampNeg)
def lOk (f s : Int32) : Prop := (f = -1 ∧ s = 0) ∨ ∃ x y : Nat, f = nI x ∧ s = nI y ∧ x ≤ y ∧ y ≤ 40
theorem vT.sec {h0 h : cf_H} {L : List Int32} (w : vT h0 L h) {s a b : Nat} (hs : r_sec h0 s a b) : r_sec h s a b := by
  have e := w.2.1.2.2.2 25 (by decide)
  exact ⟨by rw [e]; exact hs.1, by rw [e]; exact hs.2.1, hs.2.2⟩
theorem rLt_n {tx : Nat → Int32} {x y : Nat} (hy : y ≤ 40) (hx : x ≤ 40) : rLt tx (nI x) (nI y) = cTxt tx x (y - x) := by
  unfold rLt
  rw [if_neg (cf_nneg (by omega)), nI_clamp (by omega), nI_clamp (by omega)]

set_option maxHeartbeats 4000000 in
set_option maxRecDepth 100000 in
theorem l_mod_lit {h0 : cf_H} {P : Option Value → cf_H → Prop} {K y : Nat} (hK : K < 40) (hse : h0.2.2.2 24 K = nI y) (hy : y ≤ 40) : ∀ (m x : Nat) (h : cf_H) (L : List Int32), x + m = y → vT h0 L h → L.length + m ≤ 600 → (k : ∀ h', vT h0 (L ++ cTxt (h0.2.2.2 21) x m) h' → P none h') → RP k_mod_putLiteral 22 [(0, .ref 19), (1, .int (nI K)), (2, .int (nI x))] [] h P := by
  intro m
  induction m with
  | zero =>
    intro x h L e w hl k
    have e : x = y := e
    have hR := w.ok
    refine rp_iload_n (i := 2) d_mod_putLiteral_22 rfl rfl ?_
    refine rp_if_lt (tgt := 52) d_mod_putLiteral_23 (by decide) (fun c23 => ?_) (fun c23 => ?_)
    · exact absurd c23 (cf_nneg (by omega))
    · refine rp_iload_n (i := 2) d_mod_putLiteral_26 rfl rfl ?_
      refine rp_aload_n (i := 0) d_mod_putLiteral_27 rfl rfl ?_
      refine rp_getR d_mod_putLiteral_28 f_mod_22 rfl (hR _ _ _ rfl) ?_
      refine rp_iload_n (i := 1) d_mod_putLiteral_31 rfl rfl ?_
      refine rp_iaload d_mod_putLiteral_32 rfl (vp_in_nI (by omega) (by decide)) ?_
      rw [w.2.1.2.2.2 24 (by decide), nI_clamp (by omega), hse]
      refine rp_icmp_ge (tgt := 52) d_mod_putLiteral_33 (by decide) (fun c33 => ?_) (fun c33 => ?_)
      · refine rp_return d_mod_putLiteral_52 rfl ?_
        refine k h ?_
        show vT h0 (L ++ []) h
        rw [List.append_nil]; exact w
      · exact absurd (by rw [e]; exact Int32.le_refl _) c33
  | succ m ih =>
    intro x h L e w hl k
    have hR := w.ok
    refine rp_iload_n (i := 2) d_mod_putLiteral_22 rfl rfl ?_
    refine rp_if_lt (tgt := 52) d_mod_putLiteral_23 (by decide) (fun c23 => ?_) (fun c23 => ?_)
    · exact absurd c23 (cf_nneg (by omega))
    · refine rp_iload_n (i := 2) d_mod_putLiteral_26 rfl rfl ?_
      refine rp_aload_n (i := 0) d_mod_putLiteral_27 rfl rfl ?_
      refine rp_getR d_mod_putLiteral_28 f_mod_22 rfl (hR _ _ _ rfl) ?_
      refine rp_iload_n (i := 1) d_mod_putLiteral_31 rfl rfl ?_
      refine rp_iaload d_mod_putLiteral_32 rfl (vp_in_nI (by omega) (by decide)) ?_
      rw [w.2.1.2.2.2 24 (by decide), nI_clamp (by omega), hse]
      refine rp_icmp_ge (tgt := 52) d_mod_putLiteral_33 (by decide) (fun c33 => ?_) (fun c33 => ?_)
      · exact absurd c33 (nI_ge (by omega) (by omega))
      · refine rp_aload_n (i := 0) d_mod_putLiteral_36 rfl rfl ?_
        refine rp_aload_n (i := 0) d_mod_putLiteral_37 rfl rfl ?_
        refine rp_getR d_mod_putLiteral_38 f_mod_13 rfl (hR _ _ _ rfl) ?_
        refine rp_iload_n (i := 2) d_mod_putLiteral_41 rfl rfl ?_
        refine rp_iaload d_mod_putLiteral_42 rfl (vp_in_nI (by omega) (by decide)) ?_
        rw [w.2.1.2.2.2 21 (by decide), nI_clamp (by omega)]
        refine rp_callV1 d_mod_putLiteral_43 q_mod_putLiteral_132 (Or.inl ⟨_, _, _, rfl, rfl⟩) (Nat.le_of_ble_eq_true rfl) (Nat.le_of_ble_eq_true rfl) ?_
        refine s_mod_put w (by omega) (fun h2 v => ?_)
        refine rp_iinc (i := 2) (y := 1) d_mod_putLiteral_46 rfl (by decide) rfl (Nat.le_of_ble_eq_true rfl) ?_
        refine rp_goto (tgt := 22) d_mod_putLiteral_49 (by decide) ?_
        refine rp_lv [(0, .ref 19), (1, .int (nI K)), (2, .int (nI (x + 1)))] (by rw [← nI_1]; rfl) ?_
        refine ih (x + 1) h2 _ (by omega) v (by rw [List.length_append]; simp only [List.length_cons, List.length_nil]; omega) (fun h3 z => k h3 ?_)
        rw [List.append_assoc] at z; exact z
set_option maxHeartbeats 4000000 in
set_option maxRecDepth 100000 in
theorem s_mod_putLiteral {h0 h : cf_H} {P : Option Value → cf_H → Prop} {L : List Int32} (w : vT h0 L h) {K : Nat} (hK : K < 40) (hO : lOk (h0.2.2.2 23 K) (h0.2.2.2 24 K)) {z : Int32} (hz : z = nI K) (hl : L.length + (rLt (h0.2.2.2 21) (h0.2.2.2 23 K) (h0.2.2.2 24 K)).length ≤ 600) (k : ∀ h', vT h0 (L ++ rLt (h0.2.2.2 21) (h0.2.2.2 23 K) (h0.2.2.2 24 K)) h' → P none h') : RP k_mod_putLiteral 0 [(0, .ref 19), (1, .int z)] [] h P := by
  subst hz
  have hR := w.ok
  rcases hO with ⟨hf, hse⟩ | ⟨x, y, hf, hse, hxy, hy⟩
  · rw [hf, show rLt (h0.2.2.2 21) (-1) (h0.2.2.2 24 K) = [32] from by unfold rLt; rw [if_pos (by decide)]] at hl k
    refine rp_aload_n (i := 0) d_mod_putLiteral_0 rfl rfl ?_
    refine rp_getR d_mod_putLiteral_1 f_mod_19 rfl (hR _ _ _ rfl) ?_
    refine rp_iload_n (i := 1) d_mod_putLiteral_4 rfl rfl ?_
    refine rp_iaload d_mod_putLiteral_5 rfl (vp_in_nI (by omega) (by decide)) ?_
    rw [w.2.1.2.2.2 23 (by decide), nI_clamp (by omega), hf]
    refine rp_if_ge (tgt := 15) d_mod_putLiteral_6 (by decide) (fun c6 => ?_) (fun c6 => ?_)
    · exact absurd c6 (by decide)
    · refine rp_aload_n (i := 0) d_mod_putLiteral_9 rfl rfl ?_
      refine rp_bipush (v := 32) d_mod_putLiteral_10 (by decide) ?_
      refine rp_callV1 d_mod_putLiteral_12 q_mod_putLiteral_132 (Or.inl ⟨_, _, _, rfl, rfl⟩) (Nat.le_of_ble_eq_true rfl) (Nat.le_of_ble_eq_true rfl) ?_
      refine s_mod_put w (by simp only [List.length_cons, List.length_nil] at hl; omega) (fun h2 v => ?_)
      have hR2 := v.ok
      refine rp_aload_n (i := 0) d_mod_putLiteral_15 rfl rfl ?_
      refine rp_getR d_mod_putLiteral_16 f_mod_19 rfl (hR2 _ _ _ rfl) ?_
      refine rp_iload_n (i := 1) d_mod_putLiteral_19 rfl rfl ?_
      refine rp_iaload d_mod_putLiteral_20 rfl (vp_in_nI (by omega) (by decide)) ?_
      rw [v.2.1.2.2.2 23 (by decide), nI_clamp (by omega), hf]
      refine rp_istore_n (i := 2) d_mod_putLiteral_21 rfl rfl (Nat.le_of_ble_eq_true rfl) ?_
      refine rp_iload_n (i := 2) d_mod_putLiteral_22 rfl rfl ?_
      refine rp_if_lt (tgt := 52) d_mod_putLiteral_23 (by decide) (fun c23 => ?_) (fun c23 => ?_)
      · refine rp_return d_mod_putLiteral_52 rfl ?_
        exact k h2 v
      · exact absurd (by decide) c23
  · rw [hf, hse, rLt_n hy (by omega)] at hl k
    rw [cTxt_len] at hl
    refine rp_aload_n (i := 0) d_mod_putLiteral_0 rfl rfl ?_
    refine rp_getR d_mod_putLiteral_1 f_mod_19 rfl (hR _ _ _ rfl) ?_
    refine rp_iload_n (i := 1) d_mod_putLiteral_4 rfl rfl ?_
    refine rp_iaload d_mod_putLiteral_5 rfl (vp_in_nI (by omega) (by decide)) ?_
    rw [w.2.1.2.2.2 23 (by decide), nI_clamp (by omega), hf]
    refine rp_if_ge (tgt := 15) d_mod_putLiteral_6 (by decide) (fun c6 => ?_) (fun c6 => ?_)
    · refine rp_aload_n (i := 0) d_mod_putLiteral_15 rfl rfl ?_
      refine rp_getR d_mod_putLiteral_16 f_mod_19 rfl (hR _ _ _ rfl) ?_
      refine rp_iload_n (i := 1) d_mod_putLiteral_19 rfl rfl ?_
      refine rp_iaload d_mod_putLiteral_20 rfl (vp_in_nI (by omega) (by decide)) ?_
      rw [w.2.1.2.2.2 23 (by decide), nI_clamp (by omega), hf]
      refine rp_istore_n (i := 2) d_mod_putLiteral_21 rfl rfl (Nat.le_of_ble_eq_true rfl) ?_
      refine rp_lv [(0, .ref 19), (1, .int (nI K)), (2, .int (nI x))] rfl ?_
      exact l_mod_lit hK hse hy (y - x) x h L (by omega) w hl k
    · exact absurd (Int32.not_lt.mp (cf_nneg (by omega))) c6
set_option maxHeartbeats 4000000 in
set_option maxRecDepth 100000 in
theorem s_mod_place {h0 h : cf_H} {P : Option Value → cf_H → Prop} {L : List Int32} (w : vT h0 L h) {s a b : Nat} (hs : r_sec h0 s a b) {A z : Nat} {E : Int} {gr : Bool} (hN : rN h0 A z (r_pl (h0.2.2.2 22) a b)) (hA : A < 10 ^ 16) (hz : z ≤ 500) (hE : -99 ≤ E ∧ E ≤ 99) (h20 : h0.1 19 20 = zI E) {K : Nat} (haK : a ≤ K) (hKb : K < b) {x1 x2 x3 : Int32} (e1 : x1 = nI s) (e2 : x2 = nI K) (hgr : x3 = cf_b gr) (hl : L.length + (tkN A ((z : Int) - (r_pl (h0.2.2.2 22) a b : Nat)) E.natAbs gr (h0.2.2.2 22) (h0.2.2.2 23) a b K).length ≤ 600) (k : ∀ h', vT h0 (L ++ (tkN A ((z : Int) - (r_pl (h0.2.2.2 22) a b : Nat)) E.natAbs gr (h0.2.2.2 22) (h0.2.2.2 23) a b K)) h' → P none h') : RP k_mod_place 0 [(0, .ref 19), (1, .int x1), (2, .int x2), (3, .int x3)] [] h P := by
  subst e1; subst e2
  have hR := w.ok
  obtain ⟨s1, s2, s3, s4, s5⟩ := id hs
  have hs1 := w.sec hs
  have e22 := w.2.1.2.2.2 22 (by decide)
  have i0 := r_ie_ge (h0.2.2.2 22) a b
  have i1 := r_ie_fd (ty := h0.2.2.2 22) s3
  have i2 := r_fd_le (ty := h0.2.2.2 22) (w := 6) s3
  have hpt := n_pt_ie (ty := h0.2.2.2 22) s3
  have hfp := n_fp_pl (ty := h0.2.2.2 22) s3
  have m2 := r_ct_le (h0.2.2.2 22) 2 a K
  have m3 := r_ct_le (h0.2.2.2 22) 2 (r_fd (h0.2.2.2 22) 6 a b) K
  have m4 := r_ct_le (h0.2.2.2 22) 2 (K + 1) (r_ie (h0.2.2.2 22) a b)
  have m5 := r_ct_le (h0.2.2.2 22) 2 (K + 1) b
  have hfp40 : r_pl (h0.2.2.2 22) a b ≤ 40 := by
    rw [← hfp]; unfold n_fp; rw [hpt]; unfold n_ex
    have := r_ct_le (h0.2.2.2 22) 2 (r_ie (h0.2.2.2 22) a b) (r_fd (h0.2.2.2 22) 6 a b)
    omega
  refine rp_aload_n (i := 0) d_mod_place_0 rfl rfl ?_
  refine rp_getR d_mod_place_1 f_mod_25 rfl (hR _ _ _ rfl) ?_
  refine rp_iload_n (i := 1) d_mod_place_4 rfl rfl ?_
  refine rp_iaload d_mod_place_5 rfl (vp_in_nI (by omega) (by decide)) ?_
  rw [r_s0 hs1]
  refine rp_istore (i := 4) d_mod_place_6 rfl (Nat.le_of_ble_eq_true rfl) ?_
  refine rp_aload_n (i := 0) d_mod_place_8 rfl rfl ?_
  refine rp_getR d_mod_place_9 f_mod_25 rfl (hR _ _ _ rfl) ?_
  refine rp_iload_n (i := 1) d_mod_place_12 rfl rfl ?_
  refine rp_iconst (v := 1) d_mod_place_13 (by decide) ?_
  refine rp_iadd d_mod_place_14 ?_
  refine rp_iaload d_mod_place_15 rfl (by rw [nI_1]; exact vp_in_nI (by omega) (by decide)) ?_
  rw [r_s1 hs1]
  refine rp_istore (i := 5) d_mod_place_16 rfl (Nat.le_of_ble_eq_true rfl) ?_
  refine rp_aload_n (i := 0) d_mod_place_18 rfl rfl ?_
  refine rp_iload_n (i := 1) d_mod_place_19 rfl rfl ?_
  refine rp_callV1 d_mod_place_20 q_mod_place_99 (Or.inl ⟨_, _, _, rfl, rfl⟩) (Nat.le_of_ble_eq_true rfl) (Nat.le_of_ble_eq_true rfl) ?_
  refine s_mod_integerEnd hR hs1 rfl ?_
  rw [e22]
  refine rp_istore (i := 6) d_mod_place_23 rfl (Nat.le_of_ble_eq_true rfl) ?_
  refine rp_aload_n (i := 0) d_mod_place_25 rfl rfl ?_
  refine rp_iload_n (i := 1) d_mod_place_26 rfl rfl ?_
  refine rp_bipush (v := 6) d_mod_place_27 (by decide) ?_
  refine rp_callV2 d_mod_place_29 q_mod_place_95 (Or.inl ⟨_, _, _, rfl, rfl⟩) (Nat.le_of_ble_eq_true rfl) (Nat.le_of_ble_eq_true rfl) ?_
  refine s_mod_find hR hs1 rfl ?_
  rw [e22]
  refine rp_istore (i := 7) d_mod_place_32 rfl (Nat.le_of_ble_eq_true rfl) ?_
  refine rp_iload_n (i := 2) d_mod_place_34 rfl rfl ?_
  refine rp_iload (i := 6) d_mod_place_35 rfl ?_
  refine rp_icmp_ge (tgt := 75) d_mod_place_37 (by decide) (fun c37 => ?_) (fun c37 => ?_)
  · replace c37 : r_ie (h0.2.2.2 22) a b ≤ K := (nI_leI (by omega) (by omega)).mp c37
    refine rp_iload_n (i := 2) d_mod_place_75 rfl rfl ?_
    refine rp_iload (i := 7) d_mod_place_76 rfl ?_
    refine rp_icmp_ge (tgt := 99) d_mod_place_78 (by decide) (fun c78 => ?_) (fun c78 => ?_)
    · replace c78 : r_fd (h0.2.2.2 22) 6 a b ≤ K := (nI_leI (by omega) (by omega)).mp c78
      rw [tkN, if_neg (by omega), if_neg (by omega)] at hl k
      refine rp_aload_n (i := 0) d_mod_place_99 rfl rfl ?_
      refine rp_iload_n (i := 2) d_mod_place_100 rfl rfl ?_
      refine rp_aload_n (i := 0) d_mod_place_101 rfl rfl ?_
      refine rp_iload_n (i := 2) d_mod_place_102 rfl rfl ?_
      refine rp_iconst (v := 1) d_mod_place_103 (by decide) ?_
      refine rp_iadd d_mod_place_104 ?_
      refine rp_iload (i := 5) d_mod_place_105 rfl ?_
      refine rp_iconst (v := 2) d_mod_place_107 (by decide) ?_
      rw [nI_1]
      refine rp_callV3 d_mod_place_108 q_mod_place_91 (Or.inl ⟨_, _, _, rfl, rfl⟩) (Nat.le_of_ble_eq_true rfl) (Nat.le_of_ble_eq_true rfl) ?_
      refine s_mod_count hR rfl rfl (by omega) (by omega) ?_
      rw [e22]
      refine rp_aload_n (i := 0) d_mod_place_111 rfl rfl ?_
      refine rp_iload (i := 7) d_mod_place_112 rfl ?_
      refine rp_iload_n (i := 2) d_mod_place_114 rfl rfl ?_
      refine rp_iconst (v := 2) d_mod_place_115 (by decide) ?_
      refine rp_callV3 d_mod_place_116 q_mod_place_91 (Or.inl ⟨_, _, _, rfl, rfl⟩) (Nat.le_of_ble_eq_true rfl) (Nat.le_of_ble_eq_true rfl) ?_
      refine s_mod_count hR rfl rfl (by omega) (by omega) ?_
      rw [e22]
      refine rp_if_ne (tgt := 126) d_mod_place_119 (by decide) (fun c119 => ?_) (fun c119 => ?_)
      · refine rp_iconst (v := 0) d_mod_place_126 (by decide) ?_
        refine rp_callV3 d_mod_place_127 q_mod_place_184 (Or.inl ⟨_, _, _, rfl, rfl⟩) (Nat.le_of_ble_eq_true rfl) (Nat.le_of_ble_eq_true rfl) ?_
        rw [z_eq (by omega)] at c119
        have efi : decide (r_ct (h0.2.2.2 22) 2 (r_fd (h0.2.2.2 22) 6 a b) K = 0) = false := decide_eq_false c119
        rw [efi] at hl k
        refine s_mod_exponentPlace w (by omega) rfl (by omega) hE h20 rfl rfl rfl hl (fun h2 v => ?_)
        refine rp_return d_mod_place_130 rfl ?_
        exact k h2 v
      · refine rp_iconst (v := 1) d_mod_place_122 (by decide) ?_
        refine rp_goto (tgt := 127) d_mod_place_123 (by decide) ?_
        refine rp_callV3 d_mod_place_127 q_mod_place_184 (Or.inl ⟨_, _, _, rfl, rfl⟩) (Nat.le_of_ble_eq_true rfl) (Nat.le_of_ble_eq_true rfl) ?_
        rw [z_eq (by omega)] at c119
        have efi : decide (r_ct (h0.2.2.2 22) 2 (r_fd (h0.2.2.2 22) 6 a b) K = 0) = true := decide_eq_true c119
        rw [efi] at hl k
        refine s_mod_exponentPlace w (by omega) rfl (by omega) hE h20 rfl rfl rfl hl (fun h2 v => ?_)
        refine rp_return d_mod_place_130 rfl ?_
        exact k h2 v
    · replace c78 : K < r_fd (h0.2.2.2 22) 6 a b := Nat.not_le.mp (fun q => c78 ((nI_leI (by omega) (by omega)).mpr q))
      rw [tkN, if_neg (by omega), if_pos c78] at hl k
      refine rp_aload_n (i := 0) d_mod_place_81 rfl rfl ?_
      refine rp_iload_n (i := 2) d_mod_place_82 rfl rfl ?_
      refine rp_aload_n (i := 0) d_mod_place_83 rfl rfl ?_
      refine rp_iload (i := 6) d_mod_place_84 rfl ?_
      refine rp_iload_n (i := 2) d_mod_place_86 rfl rfl ?_
      refine rp_iconst (v := 1) d_mod_place_87 (by decide) ?_
      refine rp_iadd d_mod_place_88 ?_
      refine rp_iconst (v := 2) d_mod_place_89 (by decide) ?_
      rw [nI_1]
      refine rp_callV3 d_mod_place_90 q_mod_place_91 (Or.inl ⟨_, _, _, rfl, rfl⟩) (Nat.le_of_ble_eq_true rfl) (Nat.le_of_ble_eq_true rfl) ?_
      refine s_mod_count hR rfl rfl (by omega) (by omega) ?_
      rw [e22]
      refine rp_callV2 d_mod_place_93 q_mod_place_180 (Or.inl ⟨_, _, _, rfl, rfl⟩) (Nat.le_of_ble_eq_true rfl) (Nat.le_of_ble_eq_true rfl) ?_
      have m7 : r_ct (h0.2.2.2 22) 2 (r_ie (h0.2.2.2 22) a b) (K + 1) ≤ r_pl (h0.2.2.2 22) a b := by
        rw [← hfp]; unfold n_fp; rw [hpt]; unfold n_ex
        rw [r_ct_sp (i := r_ie (h0.2.2.2 22) a b) (j := K + 1) (k := r_fd (h0.2.2.2 22) 6 a b) (by omega) (by omega)]; omega
      refine s_mod_fractionPlace w hN hA hz hfp40 (by omega) rfl (by omega) rfl rfl hl (fun h2 v => ?_)
      refine rp_goto (tgt := 130) d_mod_place_96 (by decide) ?_
      refine rp_return d_mod_place_130 rfl ?_
      exact k h2 v
  · replace c37 : K < r_ie (h0.2.2.2 22) a b := Nat.not_le.mp (fun q => c37 ((nI_leI (by omega) (by omega)).mpr q))
    rw [tkN, if_pos c37] at hl k
    refine rp_aload_n (i := 0) d_mod_place_40 rfl rfl ?_
    refine rp_iload_n (i := 2) d_mod_place_41 rfl rfl ?_
    refine rp_aload_n (i := 0) d_mod_place_42 rfl rfl ?_
    refine rp_iload_n (i := 2) d_mod_place_43 rfl rfl ?_
    refine rp_iconst (v := 1) d_mod_place_44 (by decide) ?_
    refine rp_iadd d_mod_place_45 ?_
    refine rp_iload (i := 6) d_mod_place_46 rfl ?_
    refine rp_iconst (v := 2) d_mod_place_48 (by decide) ?_
    rw [nI_1]
    refine rp_callV3 d_mod_place_49 q_mod_place_91 (Or.inl ⟨_, _, _, rfl, rfl⟩) (Nat.le_of_ble_eq_true rfl) (Nat.le_of_ble_eq_true rfl) ?_
    refine s_mod_count hR rfl rfl (by omega) (by omega) ?_
    rw [e22]
    refine rp_aload_n (i := 0) d_mod_place_52 rfl rfl ?_
    refine rp_iload (i := 4) d_mod_place_53 rfl ?_
    refine rp_iload_n (i := 2) d_mod_place_55 rfl rfl ?_
    refine rp_iconst (v := 2) d_mod_place_56 (by decide) ?_
    refine rp_callV3 d_mod_place_57 q_mod_place_91 (Or.inl ⟨_, _, _, rfl, rfl⟩) (Nat.le_of_ble_eq_true rfl) (Nat.le_of_ble_eq_true rfl) ?_
    refine s_mod_count hR rfl rfl (by omega) (by omega) ?_
    rw [e22]
    refine rp_if_ne (tgt := 67) d_mod_place_60 (by decide) (fun c60 => ?_) (fun c60 => ?_)
    · refine rp_iconst (v := 0) d_mod_place_67 (by decide) ?_
      refine rp_iload_n (i := 3) d_mod_place_68 rfl rfl ?_
      refine rp_callV4 d_mod_place_69 q_mod_place_176 (Or.inl ⟨_, _, _, rfl, rfl⟩) (Nat.le_of_ble_eq_true rfl) (Nat.le_of_ble_eq_true rfl) ?_
      rw [z_eq (by omega)] at c60
      have efi : decide (r_ct (h0.2.2.2 22) 2 a K = 0) = false := decide_eq_false c60
      rw [efi] at hl k
      refine s_mod_integerPlace w hN hA hz hfp40 (by omega) rfl (by omega) rfl rfl rfl hgr hl (fun h2 v => ?_)
      refine rp_goto (tgt := 130) d_mod_place_72 (by decide) ?_
      refine rp_return d_mod_place_130 rfl ?_
      exact k h2 v
    · refine rp_iconst (v := 1) d_mod_place_63 (by decide) ?_
      refine rp_goto (tgt := 68) d_mod_place_64 (by decide) ?_
      refine rp_iload_n (i := 3) d_mod_place_68 rfl rfl ?_
      refine rp_callV4 d_mod_place_69 q_mod_place_176 (Or.inl ⟨_, _, _, rfl, rfl⟩) (Nat.le_of_ble_eq_true rfl) (Nat.le_of_ble_eq_true rfl) ?_
      rw [z_eq (by omega)] at c60
      have efi : decide (r_ct (h0.2.2.2 22) 2 a K = 0) = true := decide_eq_true c60
      rw [efi] at hl k
      refine s_mod_integerPlace w hN hA hz hfp40 (by omega) rfl (by omega) rfl rfl rfl hgr hl (fun h2 v => ?_)
      refine rp_goto (tgt := 130) d_mod_place_72 (by decide) ?_
      refine rp_return d_mod_place_130 rfl ?_
      exact k h2 v
