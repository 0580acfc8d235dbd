/-! THE CLASS: Section.readCommas, readNumber -/
def s_R (o : Nat) (hb h : cf_H) : Prop := (∀ k, k ≠ 11 → k ≠ 12 → h.1 o k = hb.1 o k) ∧ (∀ k, h.2.1 o k = hb.2.1 o k)
theorem z_last {L i : Nat} (hL : L ≤ 40) (hi : i ≤ 40) : (nI L - 1 ≤ nI i) ↔ L ≤ i + 1 := by
  rw [Int32.le_iff_toInt_le, show (nI L - 1) = nI L - nI 1 from rfl, pk_sub_toInt (by omega) (by decide), nI_toInt (by omega)]
  omega
theorem z_last2 (L sc : Nat) : nI L - 1 + 1 + nI sc = nI (L + sc) := by rw [Int32.sub_add_cancel, nI_add]
def s_ok (h : cf_H) (o : Nat) : Bool := !decide (h.1 o 7 = 0) && decide (h.1 o 1 ≤ h.1 o 6)

set_option maxHeartbeats 4000000 in
set_option maxRecDepth 100000 in
theorem l_sec_commas {h0 h1 : cf_H} {P : Option Value → cf_H → Prop} {o : Nat} {XS : List r_K} {a b fp L : Nat} (hfp : fp ≤ 40) (hL : L ≤ 40) : ∀ (n i : Nat) (gr : Bool) (sc : Nat) (h : cf_H), s_B h0 h o XS a b → s_R o h1 h → h.1 o 12 = cf_b gr → h.1 o 11 = nI sc → i + n = b → sc ≤ i → (kt : ∀ h' gr' sc', c_cms (x_ty XS) (s_ok h1 o) fp L i n gr sc = some (gr', sc') → s_B h0 h' o XS a b → s_R o h1 h' → h'.1 o 12 = cf_b gr' → h'.1 o 11 = nI sc' → P (some (.int 1)) h') → (kf : ∀ h', c_cms (x_ty XS) (s_ok h1 o) fp L i n gr sc = none → s_B h0 h' o XS a b → P (some (.int 0)) h') → RP k_sec_readCommas 44 [(0, .ref o), (1, .ref 2), (2, .int (nI fp)), (3, .int (nI L - 1)), (4, .int (nI i))] [] h P := by
  intro n
  induction n with
  | zero =>
    intro i gr sc h B R g12 g11 e hsc kt kf
    have e : i = b := e
    obtain ⟨ho9, hB, ha, hb, hab, hbl, hfr⟩ := id B
    have ho := s_ho ho9
    have h40 := hB.2.2
    have hR := hB.1
    refine rp_iload (i := 4) d_sec_readCommas_44 rfl ?_
    refine rp_aload_n (i := 0) d_sec_readCommas_46 rfl rfl ?_
    refine rp_getI d_sec_readCommas_47 f_sec_18 ho ?_
    refine rp_icmp_ge (tgt := 136) d_sec_readCommas_50 (by decide) (fun c50 => ?_) (fun c50 => ?_)
    · refine rp_iconst (v := 1) d_sec_readCommas_136 (by decide) ?_
      refine rp_ireturn (ty := .boolean) d_sec_readCommas_137 rfl (by first | rfl | decide | assumption) ?_
      exact kt h gr sc rfl B R g12 g11
    · exact absurd (by rw [hb, e]; exact nI_le (Nat.le_refl _) (by omega)) c50
  | succ n ih =>
    intro i gr sc h B R g12 g11 e hsc kt kf
    obtain ⟨ho9, hB, ha, hb, hab, hbl, hfr⟩ := id B
    have ho := s_ho ho9
    have h40 := hB.2.2
    have hR := hB.1
    refine rp_iload (i := 4) d_sec_readCommas_44 rfl ?_
    refine rp_aload_n (i := 0) d_sec_readCommas_46 rfl rfl ?_
    refine rp_getI d_sec_readCommas_47 f_sec_18 ho ?_
    refine rp_icmp_ge (tgt := 136) d_sec_readCommas_50 (by decide) (fun c50 => ?_) (fun c50 => ?_)
    · exact absurd c50 (by rw [hb]; exact nI_ge (by omega) (by omega))
    · refine rp_aload_n (i := 1) d_sec_readCommas_53 rfl rfl ?_
      refine rp_iload (i := 4) d_sec_readCommas_54 rfl ?_
      refine rp_callV1 d_sec_readCommas_56 q_sec_readCommas_63 (Or.inl ⟨_, _, _, rfl, rfl⟩) (Nat.le_of_ble_eq_true rfl) (Nat.le_of_ble_eq_true rfl) ?_
      refine t_typeAt hB rfl (by omega) ?_
      refine rp_iconst (v := 4) d_sec_readCommas_59 (by decide) ?_
      refine rp_icmp_eq (tgt := 66) d_sec_readCommas_60 (by decide) (fun c60 => ?_) (fun c60 => ?_)
      · refine rp_aload_n (i := 0) d_sec_readCommas_66 rfl rfl ?_
        refine rp_getI d_sec_readCommas_67 f_sec_84 ho ?_
        refine rp_if_eq (tgt := 80) d_sec_readCommas_70 (by decide) (fun c70 => ?_) (fun c70 => ?_)
        · refine rp_iconst (v := 0) d_sec_readCommas_80 (by decide) ?_
          refine rp_ireturn (ty := .boolean) d_sec_readCommas_81 rfl (by first | rfl | decide | assumption) ?_
          refine kf h ?_ B
          rw [c_cms, if_pos c60, show s_ok h1 o = false by unfold s_ok; rw [← R.1 7 (by decide) (by decide)]; simp [c70]]
          rfl
        · refine rp_aload_n (i := 0) d_sec_readCommas_73 rfl rfl ?_
          refine rp_callV0 d_sec_readCommas_74 q_sec_readCommas_93 (Or.inl ⟨_, _, _, ho, rfl⟩) (Nat.le_of_ble_eq_true rfl) (Nat.le_of_ble_eq_true rfl) ?_
          refine s_sec_hasExponent ho9 ?_
          refine rp_if_eq (tgt := 82) d_sec_readCommas_77 (by decide) (fun c77 => ?_) (fun c77 => ?_)
          · refine rp_iload (i := 4) d_sec_readCommas_82 rfl ?_
            refine rp_iload_n (i := 2) d_sec_readCommas_84 rfl rfl ?_
            refine rp_icmp_le (tgt := 102) d_sec_readCommas_85 (by decide) (fun c85 => ?_) (fun c85 => ?_)
            · refine rp_iload (i := 4) d_sec_readCommas_102 rfl ?_
              refine rp_iload_n (i := 3) d_sec_readCommas_104 rfl rfl ?_
              refine rp_iconst (v := 1) d_sec_readCommas_105 (by decide) ?_
              refine rp_iadd d_sec_readCommas_106 ?_
              refine rp_aload_n (i := 0) d_sec_readCommas_107 rfl rfl ?_
              refine rp_getI d_sec_readCommas_108 f_sec_103 ho ?_
              refine rp_iadd d_sec_readCommas_111 ?_
              refine rp_icmp_ne (tgt := 128) d_sec_readCommas_112 (by decide) (fun c112 => ?_) (fun c112 => ?_)
              · refine rp_iconst (v := 0) d_sec_readCommas_128 (by decide) ?_
                refine rp_ireturn (ty := .boolean) d_sec_readCommas_129 rfl (by first | rfl | decide | assumption) ?_
                refine kf h ?_ B
                rw [g11, z_last2, nI_eq (by omega) (by omega)] at c112
                rw [c_cms]
                cases s_ok h1 o
                · rw [if_pos c60]; rfl
                · rw [if_pos c60, cond_true, if_neg (fun z => absurd z.1 (Nat.not_lt.mpr ((nI_leI (by omega) (by omega)).mp c85))), if_neg c112]
              · refine rp_aload_n (i := 0) d_sec_readCommas_115 rfl rfl ?_
                refine rp_dup d_sec_readCommas_116 rfl ?_
                refine rp_getI d_sec_readCommas_117 f_sec_103 ho ?_
                refine rp_iconst (v := 1) d_sec_readCommas_120 (by decide) ?_
                refine rp_iadd d_sec_readCommas_121 ?_
                refine rp_putI d_sec_readCommas_122 f_sec_103 ho rfl rfl ?_
                refine rp_goto (tgt := 130) d_sec_readCommas_125 (by decide) ?_
                have eok : s_ok h1 o = true := by
                  unfold s_ok
                  rw [← R.1 7 (by decide) (by decide), ← R.1 1 (by decide) (by decide), ← R.1 6 (by decide) (by decide)]
                  have : h.1 o 1 ≤ h.1 o 6 := by by_cases z : h.1 o 1 ≤ h.1 o 6; exact z; exact absurd (show cf_b (!decide (h.1 o 1 ≤ h.1 o 6)) = 0 from c77) (by simp [cf_b, z])
                  simp [c70, this]
                have eeq : i = L + sc := by have := c112; rw [g11, z_last2] at this; exact (nI_eq (by omega) (by omega)).mp this
                have es : c_cms (x_ty XS) (s_ok h1 o) fp L i (n + 1) gr sc = c_cms (x_ty XS) (s_ok h1 o) fp L (i + 1) n gr (sc + 1) := by rw [c_cms, if_pos c60, eok, cond_true, if_neg (fun z => absurd z.1 (Nat.not_lt.mpr ((nI_leI (by omega) (by omega)).mp c85))), if_pos eeq]
                rw [es] at kt kf
                refine rp_iinc (i := 4) (y := 1) d_sec_readCommas_130 rfl (by decide) rfl (Nat.le_of_ble_eq_true rfl) ?_
                refine rp_goto (tgt := 44) d_sec_readCommas_133 (by decide) ?_
                refine rp_lv [(0, .ref o), (1, .ref 2), (2, .int (nI fp)), (3, .int (nI L - 1)), (4, .int (nI (i + 1)))] (by simp only [nI_succ]; rfl) ?_
                refine ih (i + 1) gr (sc + 1) _ (B.pI (by decide) _) ⟨fun k e1 e2 => by rw [cf_pI_k e1]; exact R.1 k e1 e2, R.2⟩ (by rw [cf_pI_k (by decide)]; exact g12) (by rw [cf_pI_s, g11, nI_1]) (by omega) (by omega) kt kf
            · refine rp_iload (i := 4) d_sec_readCommas_88 rfl ?_
              refine rp_iload_n (i := 3) d_sec_readCommas_90 rfl rfl ?_
              refine rp_icmp_ge (tgt := 102) d_sec_readCommas_91 (by decide) (fun c91 => ?_) (fun c91 => ?_)
              · refine rp_iload (i := 4) d_sec_readCommas_102 rfl ?_
                refine rp_iload_n (i := 3) d_sec_readCommas_104 rfl rfl ?_
                refine rp_iconst (v := 1) d_sec_readCommas_105 (by decide) ?_
                refine rp_iadd d_sec_readCommas_106 ?_
                refine rp_aload_n (i := 0) d_sec_readCommas_107 rfl rfl ?_
                refine rp_getI d_sec_readCommas_108 f_sec_103 ho ?_
                refine rp_iadd d_sec_readCommas_111 ?_
                refine rp_icmp_ne (tgt := 128) d_sec_readCommas_112 (by decide) (fun c112 => ?_) (fun c112 => ?_)
                · refine rp_iconst (v := 0) d_sec_readCommas_128 (by decide) ?_
                  refine rp_ireturn (ty := .boolean) d_sec_readCommas_129 rfl (by first | rfl | decide | assumption) ?_
                  refine kf h ?_ B
                  rw [g11, z_last2, nI_eq (by omega) (by omega)] at c112
                  rw [c_cms]
                  cases s_ok h1 o
                  · rw [if_pos c60]; rfl
                  · rw [if_pos c60, cond_true, if_neg (fun z => absurd z.2 (Nat.not_lt.mpr ((z_last hL (by omega)).mp c91))), if_neg c112]
                · refine rp_aload_n (i := 0) d_sec_readCommas_115 rfl rfl ?_
                  refine rp_dup d_sec_readCommas_116 rfl ?_
                  refine rp_getI d_sec_readCommas_117 f_sec_103 ho ?_
                  refine rp_iconst (v := 1) d_sec_readCommas_120 (by decide) ?_
                  refine rp_iadd d_sec_readCommas_121 ?_
                  refine rp_putI d_sec_readCommas_122 f_sec_103 ho rfl rfl ?_
                  refine rp_goto (tgt := 130) d_sec_readCommas_125 (by decide) ?_
                  have eok : s_ok h1 o = true := by
                    unfold s_ok
                    rw [← R.1 7 (by decide) (by decide), ← R.1 1 (by decide) (by decide), ← R.1 6 (by decide) (by decide)]
                    have : h.1 o 1 ≤ h.1 o 6 := by by_cases z : h.1 o 1 ≤ h.1 o 6; exact z; exact absurd (show cf_b (!decide (h.1 o 1 ≤ h.1 o 6)) = 0 from c77) (by simp [cf_b, z])
                    simp [c70, this]
                  have eeq : i = L + sc := by have := c112; rw [g11, z_last2] at this; exact (nI_eq (by omega) (by omega)).mp this
                  have es : c_cms (x_ty XS) (s_ok h1 o) fp L i (n + 1) gr sc = c_cms (x_ty XS) (s_ok h1 o) fp L (i + 1) n gr (sc + 1) := by rw [c_cms, if_pos c60, eok, cond_true, if_neg (fun z => absurd z.2 (Nat.not_lt.mpr ((z_last hL (by omega)).mp c91))), if_pos eeq]
                  rw [es] at kt kf
                  refine rp_iinc (i := 4) (y := 1) d_sec_readCommas_130 rfl (by decide) rfl (Nat.le_of_ble_eq_true rfl) ?_
                  refine rp_goto (tgt := 44) d_sec_readCommas_133 (by decide) ?_
                  refine rp_lv [(0, .ref o), (1, .ref 2), (2, .int (nI fp)), (3, .int (nI L - 1)), (4, .int (nI (i + 1)))] (by simp only [nI_succ]; rfl) ?_
                  refine ih (i + 1) gr (sc + 1) _ (B.pI (by decide) _) ⟨fun k e1 e2 => by rw [cf_pI_k e1]; exact R.1 k e1 e2, R.2⟩ (by rw [cf_pI_k (by decide)]; exact g12) (by rw [cf_pI_s, g11, nI_1]) (by omega) (by omega) kt kf
              · refine rp_aload_n (i := 0) d_sec_readCommas_94 rfl rfl ?_
                refine rp_iconst (v := 1) d_sec_readCommas_95 (by decide) ?_
                refine rp_putI d_sec_readCommas_96 f_sec_99 ho (by first | rfl | decide | assumption) (by first | rfl | decide | assumption) ?_
                refine rp_goto (tgt := 130) d_sec_readCommas_99 (by decide) ?_
                have eok : s_ok h1 o = true := by
                  unfold s_ok
                  rw [← R.1 7 (by decide) (by decide), ← R.1 1 (by decide) (by decide), ← R.1 6 (by decide) (by decide)]
                  have : h.1 o 1 ≤ h.1 o 6 := by by_cases z : h.1 o 1 ≤ h.1 o 6; exact z; exact absurd (show cf_b (!decide (h.1 o 1 ≤ h.1 o 6)) = 0 from c77) (by simp [cf_b, z])
                  simp [c70, this]
                have hin : fp < i ∧ i + 1 < L := ⟨Nat.not_le.mp (fun z => c85 (nI_le z (by omega))), Nat.not_le.mp (fun z => c91 ((z_last hL (by omega)).mpr z))⟩
                have es : c_cms (x_ty XS) (s_ok h1 o) fp L i (n + 1) gr sc = c_cms (x_ty XS) (s_ok h1 o) fp L (i + 1) n true sc := by rw [c_cms, if_pos c60, eok, cond_true, if_pos hin]
                rw [es] at kt kf
                refine rp_iinc (i := 4) (y := 1) d_sec_readCommas_130 rfl (by decide) rfl (Nat.le_of_ble_eq_true rfl) ?_
                refine rp_goto (tgt := 44) d_sec_readCommas_133 (by decide) ?_
                refine rp_lv [(0, .ref o), (1, .ref 2), (2, .int (nI fp)), (3, .int (nI L - 1)), (4, .int (nI (i + 1)))] (by simp only [nI_succ]; rfl) ?_
                refine ih (i + 1) true sc _ (B.pI (by decide) 1) ⟨fun k e1 e2 => by rw [cf_pI_k e2]; exact R.1 k e1 e2, R.2⟩ cf_pI_s (by rw [cf_pI_k (by decide)]; exact g11) (by omega) (by omega) kt kf
          · refine rp_iconst (v := 0) d_sec_readCommas_80 (by decide) ?_
            refine rp_ireturn (ty := .boolean) d_sec_readCommas_81 rfl (by first | rfl | decide | assumption) ?_
            refine kf h ?_ B
            have : ¬ h.1 o 1 ≤ h.1 o 6 := fun z => c77 (by simp [cf_b, z])
            rw [c_cms, if_pos c60, show s_ok h1 o = false by unfold s_ok; rw [← R.1 1 (by decide) (by decide), ← R.1 6 (by decide) (by decide)]; simp [this]]
            rfl
      · refine rp_goto (tgt := 130) d_sec_readCommas_63 (by decide) ?_
        refine rp_iinc (i := 4) (y := 1) d_sec_readCommas_130 rfl (by decide) rfl (Nat.le_of_ble_eq_true rfl) ?_
        refine rp_goto (tgt := 44) d_sec_readCommas_133 (by decide) ?_
        refine rp_lv [(0, .ref o), (1, .ref 2), (2, .int (nI fp)), (3, .int (nI L - 1)), (4, .int (nI (i + 1)))] (by simp only [nI_succ]; rfl) ?_
        have es : c_cms (x_ty XS) (s_ok h1 o) fp L i (n + 1) gr sc = c_cms (x_ty XS) (s_ok h1 o) fp L (i + 1) n gr sc := by rw [c_cms, if_neg c60]
        rw [es] at kt kf
        exact ih (i + 1) gr sc h B R g12 g11 (by omega) (by omega) kt kf
set_option maxHeartbeats 4000000 in
set_option maxRecDepth 100000 in
theorem s_sec_readCommas {h0 h : cf_H} {P : Option Value → cf_H → Prop} {o : Nat} {XS : List r_K} {a b pt : Nat} (B : s_B h0 h o XS a b) (hpt : h.1 o 5 = nI pt) (hp1 : a ≤ pt) (hp2 : pt ≤ b) (kt : ∀ h' gr' sc', c_cms (x_ty XS) (s_ok h o) (r_fd (x_ty XS) 2 a pt) (cf_lst (fun j => decide (x_ty XS j = 2)) a (pt - a)) a (b - a) false 0 = some (gr', sc') → s_B h0 h' o XS a b → s_R o h h' → h'.1 o 12 = cf_b gr' → h'.1 o 11 = nI sc' → P (some (.int 1)) h') (kf : ∀ h', c_cms (x_ty XS) (s_ok h o) (r_fd (x_ty XS) 2 a pt) (cf_lst (fun j => decide (x_ty XS j = 2)) a (pt - a)) a (b - a) false 0 = none → s_B h0 h' o XS a b → P (some (.int 0)) h') : RP k_sec_readCommas 0 [(0, .ref o), (1, .ref 2)] [] h P := by
  have B1 : s_B h0 (cf_pI (cf_pI h o 12 0) o 11 0) o XS a b := (B.pI (by decide) 0).pI (by decide) 0
  have R1 : s_R o h (cf_pI (cf_pI h o 12 0) o 11 0) := ⟨fun k e1 e2 => by rw [cf_pI_k e1, cf_pI_k e2], fun k => rfl⟩
  have g12 : (cf_pI (cf_pI h o 12 0) o 11 0).1 o 12 = cf_b false := by rw [cf_pI_k (by decide), cf_pI_s]; rfl
  have g11 : (cf_pI (cf_pI h o 12 0) o 11 0).1 o 11 = nI 0 := cf_pI_s
  have hpt1 : (cf_pI (cf_pI h o 12 0) o 11 0).1 o 5 = nI pt := by rw [R1.1 5 (by decide) (by decide)]; exact hpt
  refine rp_aload_n (i := 0) d_sec_readCommas_0 rfl rfl ?_
  refine rp_iconst (v := 0) d_sec_readCommas_1 (by decide) ?_
  refine rp_putI d_sec_readCommas_2 f_sec_99 (s_ho B.1) (by first | rfl | decide | assumption) (by first | rfl | decide | assumption) ?_
  refine rp_aload_n (i := 0) d_sec_readCommas_5 rfl rfl ?_
  refine rp_iconst (v := 0) d_sec_readCommas_6 (by decide) ?_
  refine rp_putI d_sec_readCommas_7 f_sec_103 (s_ho B.1) rfl rfl ?_
  generalize cf_pI (cf_pI h o 12 0) o 11 0 = h2 at B1 R1 g12 g11 hpt1 ⊢
  obtain ⟨ho9, hB, ha, hb, hab, hbl, hfr⟩ := id B1
  have ho := s_ho ho9
  have h40 := hB.2.2
  refine rp_aload_n (i := 1) d_sec_readCommas_10 rfl rfl ?_
  refine rp_iconst (v := 2) d_sec_readCommas_11 (by decide) ?_
  refine rp_aload_n (i := 0) d_sec_readCommas_12 rfl rfl ?_
  refine rp_getI d_sec_readCommas_13 f_sec_15 ho ?_
  refine rp_aload_n (i := 0) d_sec_readCommas_16 rfl rfl ?_
  refine rp_getI d_sec_readCommas_17 f_sec_81 ho ?_
  refine rp_callV3 d_sec_readCommas_20 q_sec_readCommas_78 (Or.inl ⟨_, _, _, rfl, rfl⟩) (Nat.le_of_ble_eq_true rfl) (Nat.le_of_ble_eq_true rfl) ?_
  refine t_find hB ha hpt1 hp1 (by omega) ?_
  refine rp_istore_n (i := 2) d_sec_readCommas_23 rfl rfl (Nat.le_of_ble_eq_true rfl) ?_
  refine rp_aload_n (i := 1) d_sec_readCommas_24 rfl rfl ?_
  refine rp_iconst (v := 2) d_sec_readCommas_25 (by decide) ?_
  refine rp_aload_n (i := 0) d_sec_readCommas_26 rfl rfl ?_
  refine rp_getI d_sec_readCommas_27 f_sec_15 ho ?_
  refine rp_aload_n (i := 0) d_sec_readCommas_30 rfl rfl ?_
  refine rp_getI d_sec_readCommas_31 f_sec_81 ho ?_
  refine rp_callV3 d_sec_readCommas_34 q_sec_readCommas_106 (Or.inl ⟨_, _, _, rfl, rfl⟩) (Nat.le_of_ble_eq_true rfl) (Nat.le_of_ble_eq_true rfl) ?_
  refine t_findLast hB ha hpt1 hp1 (by omega) ?_
  refine rp_istore_n (i := 3) d_sec_readCommas_37 rfl rfl (Nat.le_of_ble_eq_true rfl) ?_
  refine rp_aload_n (i := 0) d_sec_readCommas_38 rfl rfl ?_
  refine rp_getI d_sec_readCommas_39 f_sec_15 ho ?_
  refine rp_istore (i := 4) d_sec_readCommas_42 rfl (Nat.le_of_ble_eq_true rfl) ?_
  have q1 := r_fd_le (ty := x_ty XS) (w := 2) hp1
  have q2 := (cf_lst_ge (fun j => decide (x_ty XS j = 2)) a (pt - a)).2
  refine rp_lv [(0, .ref o), (1, .ref 2), (2, .int (nI (r_fd (x_ty XS) 2 a pt))), (3, .int (nI (cf_lst (fun j => decide (x_ty XS j = 2)) a (pt - a)) - 1)), (4, .int (nI a))] (by rw [← ha]; rfl) ?_
  exact l_sec_commas (by omega) (by omega) (b - a) a false 0 h2 B1 R1 g12 g11 (by omega) (by omega) kt kf
