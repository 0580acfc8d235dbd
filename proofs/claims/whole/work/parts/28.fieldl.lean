/-! THE CLASS: Section.readFields' loop, read -/
def x_any (p : Nat → Bool) (i n : Nat) : Bool := !decide (cf_cnt p i n = 0)
theorem x_any_S (p : Nat → Bool) (i n : Nat) : x_any p i (n + 1) = (p i || x_any p (i + 1) n) := by
  unfold x_any
  rw [cf_cnt]
  cases p i with
  | true => simp
  | false => simp
def s_F (o : Nat) (hb h : cf_H) : Prop := (∀ k, k ≠ 13 → k ≠ 14 → h.1 o k = hb.1 o k) ∧ (∀ k, h.2.1 o k = hb.2.1 o k)
theorem s_B.set {h0 h : cf_H} {o : Nat} {XS XS' : List r_K} {a b i : Nat} {v : Int32} (B : s_B h0 h o XS a b) (hX : x_B (cf_pA h 4 (nI i) v) XS') (hl : XS'.length = XS.length) : s_B h0 (cf_pA h 4 (nI i) v) o XS' a b := by
  obtain ⟨h1, h2, h3, h4, h5, h6, h7⟩ := B
  exact ⟨h1, hX, by rw [g_A1]; exact h3, by rw [g_A1]; exact h4, h5, by rw [hl]; exact h6, by rw [g_A1]; exact h7.1, by rw [g_A2]; exact h7.2.1, by rw [g_A3]; exact h7.2.2.1, fun x e => by rw [g_A4, if_neg e]; exact h7.2.2.2 x e⟩

set_option maxHeartbeats 4000000 in
set_option maxRecDepth 100000 in
theorem l_sec_fields {h0 h1 : cf_H} {P : Option Value → cf_H → Prop} {o : Nat} {XS : List r_K} {a b : Nat} {t : Int32} : ∀ (n i : Nat) (nd : Bool) (h : cf_H), s_B h0 h o (x_mn XS a b i) a b → s_F o h1 h → h.1 o 13 = t → h.1 o 14 = cf_b nd → i + n = b → a ≤ i → (kt : ∀ h', s_B h0 h' o (x_mn XS a b b) a b → s_F o h1 h' → h'.1 o 13 = t → h'.1 o 14 = cf_b (nd || x_any (x_dy XS a b) i n) → P none h') → RP k_sec_readFields 36 [(0, .ref o), (1, .ref 2), (2, .int (nI i))] [] h P := by
  intro n
  induction n with
  | zero =>
    intro i nd h B F g13 g14 e hai kt
    have e : i = b := e
    subst e
    obtain ⟨ho9, hB, ha, hb, hab, hbl, hfr⟩ := id B
    have ho := s_ho ho9
    have h40 := hB.2.2
    have hR := hB.1
    refine rp_iload_n (i := 2) d_sec_readFields_36 rfl rfl ?_
    refine rp_aload_n (i := 0) d_sec_readFields_37 rfl rfl ?_
    refine rp_getI d_sec_readFields_38 f_sec_18 ho ?_
    refine rp_icmp_ge (tgt := 151) d_sec_readFields_41 (by decide) (fun c41 => ?_) (fun c41 => ?_)
    · refine rp_return d_sec_readFields_151 rfl ?_
      exact kt h B F g13 (by rw [g14]; cases nd <;> rfl)
    · exact absurd (by rw [hb]; exact nI_le (Nat.le_refl _) (by omega)) c41
  | succ n ih =>
    intro i nd h B F g13 g14 e hai kt
    obtain ⟨ho9, hB, ha, hb, hab, hbl, hfr⟩ := id B
    have ho := s_ho ho9
    have h40 := hB.2.2
    have hR := hB.1
    have hl0 := x_mn_len XS a b i
    refine rp_iload_n (i := 2) d_sec_readFields_36 rfl rfl ?_
    refine rp_aload_n (i := 0) d_sec_readFields_37 rfl rfl ?_
    refine rp_getI d_sec_readFields_38 f_sec_18 ho ?_
    refine rp_icmp_ge (tgt := 151) d_sec_readFields_41 (by decide) (fun c41 => ?_) (fun c41 => ?_)
    · exact absurd c41 (by rw [hb]; exact nI_ge (by omega) (by omega))
    · refine rp_aload_n (i := 1) d_sec_readFields_44 rfl rfl ?_
      refine rp_iload_n (i := 2) d_sec_readFields_45 rfl rfl ?_
      refine rp_callV1 d_sec_readFields_46 q_sec_readFields_63 (Or.inl ⟨_, _, _, rfl, rfl⟩) (Nat.le_of_ble_eq_true rfl) (Nat.le_of_ble_eq_true rfl) ?_
      refine t_typeAt hB rfl (by omega) ?_
      refine rp_bipush (v := 8) d_sec_readFields_49 (by decide) ?_
      refine rp_icmp_eq (tgt := 57) d_sec_readFields_51 (by decide) (fun c51 => ?_) (fun c51 => ?_)
      · refine rp_aload_n (i := 1) d_sec_readFields_57 rfl rfl ?_
        refine rp_iload_n (i := 2) d_sec_readFields_58 rfl rfl ?_
        refine rp_callV1 d_sec_readFields_59 q_sec_readFields_70 (Or.inl ⟨_, _, _, rfl, rfl⟩) (Nat.le_of_ble_eq_true rfl) (Nat.le_of_ble_eq_true rfl) ?_
        refine t_valueAt hB rfl (by omega) ?_
        refine rp_istore_n (i := 3) d_sec_readFields_62 rfl rfl (Nat.le_of_ble_eq_true rfl) ?_
        refine rp_aload_n (i := 0) d_sec_readFields_63 rfl rfl ?_
        refine rp_aload_n (i := 1) d_sec_readFields_64 rfl rfl ?_
        refine rp_iload_n (i := 2) d_sec_readFields_65 rfl rfl ?_
        refine rp_callV2 d_sec_readFields_66 q_sec_readFields_115 (Or.inl ⟨_, _, _, ho, rfl⟩) (Nat.le_of_ble_eq_true rfl) (Nat.le_of_ble_eq_true rfl) ?_
        refine s_sec_letterBefore B rfl (by omega) ?_
        refine rp_bipush (v := 104) d_sec_readFields_69 (by decide) ?_
        refine rp_icmp_eq (tgt := 85) d_sec_readFields_71 (by decide) (fun c71 => ?_) (fun c71 => ?_)
        · refine rp_iconst (v := 1) d_sec_readFields_85 (by decide) ?_
          refine rp_goto (tgt := 90) d_sec_readFields_86 (by decide) ?_
          refine rp_istore (i := 4) d_sec_readFields_90 rfl (Nat.le_of_ble_eq_true rfl) ?_
          refine rp_iload_n (i := 3) d_sec_readFields_92 rfl rfl ?_
          refine rp_bipush (v := 109) d_sec_readFields_93 (by decide) ?_
          refine rp_icmp_ne (tgt := 122) d_sec_readFields_95 (by decide) (fun c95 => ?_) (fun c95 => ?_)
          · refine rp_iload_n (i := 3) d_sec_readFields_122 rfl rfl ?_
            refine rp_bipush (v := 121) d_sec_readFields_123 (by decide) ?_
            refine rp_icmp_eq (tgt := 140) d_sec_readFields_125 (by decide) (fun c125 => ?_) (fun c125 => ?_)
            · refine rp_aload_n (i := 0) d_sec_readFields_140 rfl rfl ?_
              refine rp_iconst (v := 1) d_sec_readFields_141 (by decide) ?_
              refine rp_putI d_sec_readFields_142 f_sec_112 ho (by first | rfl | decide | assumption) (by first | rfl | decide | assumption) ?_
              rw [x_mn_ty] at c51
              rw [x_mn_lb] at c71
              rw [x_mn_va2 XS (Nat.le_refl i)] at c95
              rw [x_mn_va2 XS (Nat.le_refl i)] at c125
              have hm : x_mi XS a b i = false := by simp [x_mi, c41, c51, c71, c95, c125]
              have hd : x_dy XS a b i = true := by simp [x_dy, hm, c41, c51, c71, c95, c125]
              have B2 := B
              rw [← x_mn_S0 hm] at B2
              rw [x_any_S, hd, Bool.true_or, Bool.or_true] at kt
              refine rp_iinc (i := 2) (y := 1) d_sec_readFields_145 rfl (by decide) rfl (Nat.le_of_ble_eq_true rfl) ?_
              refine rp_goto (tgt := 36) d_sec_readFields_148 (by decide) ?_
              refine rp_lv [(0, .ref o), (1, .ref 2), (2, .int (nI (i + 1)))] (by simp only [nI_succ]; rfl) ?_
              exact ih (i + 1) true _ (B2.pI (by decide) 1) ⟨fun k e1 e2 => by rw [cf_pI_k e2]; exact F.1 k e1 e2, F.2⟩ (by rw [cf_pI_k (by decide)]; exact g13) cf_pI_s (by omega) (by omega) (by simpa using kt)
            · refine rp_iload_n (i := 3) d_sec_readFields_128 rfl rfl ?_
              refine rp_bipush (v := 109) d_sec_readFields_129 (by decide) ?_
              refine rp_icmp_eq (tgt := 140) d_sec_readFields_131 (by decide) (fun c131 => ?_) (fun c131 => ?_)
              · refine rp_aload_n (i := 0) d_sec_readFields_140 rfl rfl ?_
                refine rp_iconst (v := 1) d_sec_readFields_141 (by decide) ?_
                refine rp_putI d_sec_readFields_142 f_sec_112 ho (by first | rfl | decide | assumption) (by first | rfl | decide | assumption) ?_
                exact absurd c131 c95
              · refine rp_iload_n (i := 3) d_sec_readFields_134 rfl rfl ?_
                refine rp_bipush (v := 100) d_sec_readFields_135 (by decide) ?_
                refine rp_icmp_ne (tgt := 145) d_sec_readFields_137 (by decide) (fun c137 => ?_) (fun c137 => ?_)
                · rw [x_mn_ty] at c51
                  rw [x_mn_lb] at c71
                  rw [x_mn_va2 XS (Nat.le_refl i)] at c95
                  rw [x_mn_va2 XS (Nat.le_refl i)] at c125
                  rw [x_mn_va2 XS (Nat.le_refl i)] at c131
                  rw [x_mn_va2 XS (Nat.le_refl i)] at c137
                  have hm : x_mi XS a b i = false := by simp [x_mi, c41, c51, c71, c95, c125, c131, c137]
                  have hd : x_dy XS a b i = false := by simp [x_dy, hm, c41, c51, c71, c95, c125, c131, c137]
                  have B2 := B
                  rw [← x_mn_S0 hm] at B2
                  rw [x_any_S, hd, Bool.false_or] at kt
                  refine rp_iinc (i := 2) (y := 1) d_sec_readFields_145 rfl (by decide) rfl (Nat.le_of_ble_eq_true rfl) ?_
                  refine rp_goto (tgt := 36) d_sec_readFields_148 (by decide) ?_
                  refine rp_lv [(0, .ref o), (1, .ref 2), (2, .int (nI (i + 1)))] (by simp only [nI_succ]; rfl) ?_
                  exact ih (i + 1) nd h B2 F g13 g14 (by omega) (by omega) kt
                · refine rp_aload_n (i := 0) d_sec_readFields_140 rfl rfl ?_
                  refine rp_iconst (v := 1) d_sec_readFields_141 (by decide) ?_
                  refine rp_putI d_sec_readFields_142 f_sec_112 ho (by first | rfl | decide | assumption) (by first | rfl | decide | assumption) ?_
                  rw [x_mn_ty] at c51
                  rw [x_mn_lb] at c71
                  rw [x_mn_va2 XS (Nat.le_refl i)] at c95
                  rw [x_mn_va2 XS (Nat.le_refl i)] at c125
                  rw [x_mn_va2 XS (Nat.le_refl i)] at c131
                  rw [x_mn_va2 XS (Nat.le_refl i)] at c137
                  have hm : x_mi XS a b i = false := by simp [x_mi, c41, c51, c71, c95, c125, c131, c137]
                  have hd : x_dy XS a b i = true := by simp [x_dy, hm, c41, c51, c71, c95, c125, c131, c137]
                  have B2 := B
                  rw [← x_mn_S0 hm] at B2
                  rw [x_any_S, hd, Bool.true_or, Bool.or_true] at kt
                  refine rp_iinc (i := 2) (y := 1) d_sec_readFields_145 rfl (by decide) rfl (Nat.le_of_ble_eq_true rfl) ?_
                  refine rp_goto (tgt := 36) d_sec_readFields_148 (by decide) ?_
                  refine rp_lv [(0, .ref o), (1, .ref 2), (2, .int (nI (i + 1)))] (by simp only [nI_succ]; rfl) ?_
                  exact ih (i + 1) true _ (B2.pI (by decide) 1) ⟨fun k e1 e2 => by rw [cf_pI_k e2]; exact F.1 k e1 e2, F.2⟩ (by rw [cf_pI_k (by decide)]; exact g13) cf_pI_s (by omega) (by omega) (by simpa using kt)
          · refine rp_aload_n (i := 1) d_sec_readFields_98 rfl rfl ?_
            refine rp_iload_n (i := 2) d_sec_readFields_99 rfl rfl ?_
            refine rp_callV1 d_sec_readFields_100 q_sec_readFields_67 (Or.inl ⟨_, _, _, rfl, rfl⟩) (Nat.le_of_ble_eq_true rfl) (Nat.le_of_ble_eq_true rfl) ?_
            refine t_detailAt hB rfl (by omega) ?_
            refine rp_iconst (v := 2) d_sec_readFields_103 (by decide) ?_
            refine rp_icmp_gt (tgt := 122) d_sec_readFields_104 (by decide) (fun c104 => ?_) (fun c104 => ?_)
            · refine rp_iload_n (i := 3) d_sec_readFields_122 rfl rfl ?_
              refine rp_bipush (v := 121) d_sec_readFields_123 (by decide) ?_
              refine rp_icmp_eq (tgt := 140) d_sec_readFields_125 (by decide) (fun c125 => ?_) (fun c125 => ?_)
              · refine rp_aload_n (i := 0) d_sec_readFields_140 rfl rfl ?_
                refine rp_iconst (v := 1) d_sec_readFields_141 (by decide) ?_
                refine rp_putI d_sec_readFields_142 f_sec_112 ho (by first | rfl | decide | assumption) (by first | rfl | decide | assumption) ?_
                rw [c95] at c125
                exact absurd c125 (by decide)
              · refine rp_iload_n (i := 3) d_sec_readFields_128 rfl rfl ?_
                refine rp_bipush (v := 109) d_sec_readFields_129 (by decide) ?_
                refine rp_icmp_eq (tgt := 140) d_sec_readFields_131 (by decide) (fun c131 => ?_) (fun c131 => ?_)
                · refine rp_aload_n (i := 0) d_sec_readFields_140 rfl rfl ?_
                  refine rp_iconst (v := 1) d_sec_readFields_141 (by decide) ?_
                  refine rp_putI d_sec_readFields_142 f_sec_112 ho (by first | rfl | decide | assumption) (by first | rfl | decide | assumption) ?_
                  rw [x_mn_ty] at c51
                  rw [x_mn_lb] at c71
                  rw [x_mn_va2 XS (Nat.le_refl i)] at c95
                  rw [x_mn_va2 XS (Nat.le_refl i)] at c125
                  rw [x_mn_va2 XS (Nat.le_refl i)] at c131
                  rw [x_mn_de] at c104
                  have hm : x_mi XS a b i = false := by simp [x_mi, c41, c51, c71, c95, c104, c125, c131]
                  have hd : x_dy XS a b i = true := by simp [x_dy, hm, c41, c51, c71, c95, c104, c125, c131]
                  have B2 := B
                  rw [← x_mn_S0 hm] at B2
                  rw [x_any_S, hd, Bool.true_or, Bool.or_true] at kt
                  refine rp_iinc (i := 2) (y := 1) d_sec_readFields_145 rfl (by decide) rfl (Nat.le_of_ble_eq_true rfl) ?_
                  refine rp_goto (tgt := 36) d_sec_readFields_148 (by decide) ?_
                  refine rp_lv [(0, .ref o), (1, .ref 2), (2, .int (nI (i + 1)))] (by simp only [nI_succ]; rfl) ?_
                  exact ih (i + 1) true _ (B2.pI (by decide) 1) ⟨fun k e1 e2 => by rw [cf_pI_k e2]; exact F.1 k e1 e2, F.2⟩ (by rw [cf_pI_k (by decide)]; exact g13) cf_pI_s (by omega) (by omega) (by simpa using kt)
                · refine rp_iload_n (i := 3) d_sec_readFields_134 rfl rfl ?_
                  refine rp_bipush (v := 100) d_sec_readFields_135 (by decide) ?_
                  refine rp_icmp_ne (tgt := 145) d_sec_readFields_137 (by decide) (fun c137 => ?_) (fun c137 => ?_)
                  · exact absurd c95 c131
                  · refine rp_aload_n (i := 0) d_sec_readFields_140 rfl rfl ?_
                    refine rp_iconst (v := 1) d_sec_readFields_141 (by decide) ?_
                    refine rp_putI d_sec_readFields_142 f_sec_112 ho (by first | rfl | decide | assumption) (by first | rfl | decide | assumption) ?_
                    exact absurd c95 c131
            · refine rp_iload (i := 4) d_sec_readFields_107 rfl ?_
              refine rp_if_eq (tgt := 122) d_sec_readFields_109 (by decide) (fun c109 => ?_) (fun c109 => ?_)
              · exact absurd c109 (by decide)
              · refine rp_aload_n (i := 1) d_sec_readFields_112 rfl rfl ?_
                refine rp_iload_n (i := 2) d_sec_readFields_113 rfl rfl ?_
                refine rp_bipush (v := 110) d_sec_readFields_114 (by decide) ?_
                refine rp_callV2 d_sec_readFields_116 q_sec_readFields_122 (Or.inl ⟨_, _, _, rfl, rfl⟩) (Nat.le_of_ble_eq_true rfl) (Nat.le_of_ble_eq_true rfl) ?_
                refine s_tok_setValue hB rfl (by omega) ?_
                refine rp_goto (tgt := 145) d_sec_readFields_119 (by decide) ?_
                rw [x_mn_ty] at c51
                rw [x_mn_lb] at c71
                rw [x_mn_va2 XS (Nat.le_refl i)] at c95
                rw [x_mn_de] at c104
                have hm : x_mi XS a b i = true := by simp [x_mi, c41, c51, c71, c95, c104, c109]
                have hd : x_dy XS a b i = false := by simp [x_dy, hm]
                have hx : (x_mn XS a b i)[i]? = some ((x_mn XS a b i)[i]'(by omega)) := List.getElem?_eq_getElem (by omega)
                have hX := x_B_set hB hx 110 (by omega)
                rw [← x_mn_S1 hm (by omega) hx] at hX
                have B2 := B.set hX (by rw [x_mn_len, x_mn_len])
                rw [x_any_S, hd, Bool.false_or] at kt
                refine rp_iinc (i := 2) (y := 1) d_sec_readFields_145 rfl (by decide) rfl (Nat.le_of_ble_eq_true rfl) ?_
                refine rp_goto (tgt := 36) d_sec_readFields_148 (by decide) ?_
                refine rp_lv [(0, .ref o), (1, .ref 2), (2, .int (nI (i + 1)))] (by simp only [nI_succ]; rfl) ?_
                exact ih (i + 1) nd _ B2 ⟨fun k e1 e2 => by rw [g_A1]; exact F.1 k e1 e2, fun k => by rw [g_A2]; exact F.2 k⟩ (by rw [g_A1]; exact g13) (by rw [g_A1]; exact g14) (by omega) (by omega) kt
        · refine rp_aload_n (i := 0) d_sec_readFields_74 rfl rfl ?_
          refine rp_aload_n (i := 1) d_sec_readFields_75 rfl rfl ?_
          refine rp_iload_n (i := 2) d_sec_readFields_76 rfl rfl ?_
          refine rp_callV2 d_sec_readFields_77 q_sec_readFields_119 (Or.inl ⟨_, _, _, ho, rfl⟩) (Nat.le_of_ble_eq_true rfl) (Nat.le_of_ble_eq_true rfl) ?_
          refine s_sec_letterBehind B rfl (by omega) ?_
          refine rp_bipush (v := 115) d_sec_readFields_80 (by decide) ?_
          refine rp_icmp_ne (tgt := 89) d_sec_readFields_82 (by decide) (fun c82 => ?_) (fun c82 => ?_)
          · refine rp_iconst (v := 0) d_sec_readFields_89 (by decide) ?_
            refine rp_istore (i := 4) d_sec_readFields_90 rfl (Nat.le_of_ble_eq_true rfl) ?_
            refine rp_iload_n (i := 3) d_sec_readFields_92 rfl rfl ?_
            refine rp_bipush (v := 109) d_sec_readFields_93 (by decide) ?_
            refine rp_icmp_ne (tgt := 122) d_sec_readFields_95 (by decide) (fun c95 => ?_) (fun c95 => ?_)
            · refine rp_iload_n (i := 3) d_sec_readFields_122 rfl rfl ?_
              refine rp_bipush (v := 121) d_sec_readFields_123 (by decide) ?_
              refine rp_icmp_eq (tgt := 140) d_sec_readFields_125 (by decide) (fun c125 => ?_) (fun c125 => ?_)
              · refine rp_aload_n (i := 0) d_sec_readFields_140 rfl rfl ?_
                refine rp_iconst (v := 1) d_sec_readFields_141 (by decide) ?_
                refine rp_putI d_sec_readFields_142 f_sec_112 ho (by first | rfl | decide | assumption) (by first | rfl | decide | assumption) ?_
                rw [x_mn_ty] at c51
                rw [x_mn_lb] at c71
                rw [x_mn_lf] at c82
                rw [x_mn_va2 XS (Nat.le_refl i)] at c95
                rw [x_mn_va2 XS (Nat.le_refl i)] at c125
                have hm : x_mi XS a b i = false := by simp [x_mi, c41, c51, c71, c82, c95, c125]
                have hd : x_dy XS a b i = true := by simp [x_dy, hm, c41, c51, c71, c82, c95, c125]
                have B2 := B
                rw [← x_mn_S0 hm] at B2
                rw [x_any_S, hd, Bool.true_or, Bool.or_true] at kt
                refine rp_iinc (i := 2) (y := 1) d_sec_readFields_145 rfl (by decide) rfl (Nat.le_of_ble_eq_true rfl) ?_
                refine rp_goto (tgt := 36) d_sec_readFields_148 (by decide) ?_
                refine rp_lv [(0, .ref o), (1, .ref 2), (2, .int (nI (i + 1)))] (by simp only [nI_succ]; rfl) ?_
                exact ih (i + 1) true _ (B2.pI (by decide) 1) ⟨fun k e1 e2 => by rw [cf_pI_k e2]; exact F.1 k e1 e2, F.2⟩ (by rw [cf_pI_k (by decide)]; exact g13) cf_pI_s (by omega) (by omega) (by simpa using kt)
              · refine rp_iload_n (i := 3) d_sec_readFields_128 rfl rfl ?_
                refine rp_bipush (v := 109) d_sec_readFields_129 (by decide) ?_
                refine rp_icmp_eq (tgt := 140) d_sec_readFields_131 (by decide) (fun c131 => ?_) (fun c131 => ?_)
                · refine rp_aload_n (i := 0) d_sec_readFields_140 rfl rfl ?_
                  refine rp_iconst (v := 1) d_sec_readFields_141 (by decide) ?_
                  refine rp_putI d_sec_readFields_142 f_sec_112 ho (by first | rfl | decide | assumption) (by first | rfl | decide | assumption) ?_
                  exact absurd c131 c95
                · refine rp_iload_n (i := 3) d_sec_readFields_134 rfl rfl ?_
                  refine rp_bipush (v := 100) d_sec_readFields_135 (by decide) ?_
                  refine rp_icmp_ne (tgt := 145) d_sec_readFields_137 (by decide) (fun c137 => ?_) (fun c137 => ?_)
                  · rw [x_mn_ty] at c51
                    rw [x_mn_lb] at c71
                    rw [x_mn_lf] at c82
                    rw [x_mn_va2 XS (Nat.le_refl i)] at c95
                    rw [x_mn_va2 XS (Nat.le_refl i)] at c125
                    rw [x_mn_va2 XS (Nat.le_refl i)] at c131
                    rw [x_mn_va2 XS (Nat.le_refl i)] at c137
                    have hm : x_mi XS a b i = false := by simp [x_mi, c41, c51, c71, c82, c95, c125, c131, c137]
                    have hd : x_dy XS a b i = false := by simp [x_dy, hm, c41, c51, c71, c82, c95, c125, c131, c137]
                    have B2 := B
                    rw [← x_mn_S0 hm] at B2
                    rw [x_any_S, hd, Bool.false_or] at kt
                    refine rp_iinc (i := 2) (y := 1) d_sec_readFields_145 rfl (by decide) rfl (Nat.le_of_ble_eq_true rfl) ?_
                    refine rp_goto (tgt := 36) d_sec_readFields_148 (by decide) ?_
                    refine rp_lv [(0, .ref o), (1, .ref 2), (2, .int (nI (i + 1)))] (by simp only [nI_succ]; rfl) ?_
                    exact ih (i + 1) nd h B2 F g13 g14 (by omega) (by omega) kt
                  · refine rp_aload_n (i := 0) d_sec_readFields_140 rfl rfl ?_
                    refine rp_iconst (v := 1) d_sec_readFields_141 (by decide) ?_
                    refine rp_putI d_sec_readFields_142 f_sec_112 ho (by first | rfl | decide | assumption) (by first | rfl | decide | assumption) ?_
                    rw [x_mn_ty] at c51
                    rw [x_mn_lb] at c71
                    rw [x_mn_lf] at c82
                    rw [x_mn_va2 XS (Nat.le_refl i)] at c95
                    rw [x_mn_va2 XS (Nat.le_refl i)] at c125
                    rw [x_mn_va2 XS (Nat.le_refl i)] at c131
                    rw [x_mn_va2 XS (Nat.le_refl i)] at c137
                    have hm : x_mi XS a b i = false := by simp [x_mi, c41, c51, c71, c82, c95, c125, c131, c137]
                    have hd : x_dy XS a b i = true := by simp [x_dy, hm, c41, c51, c71, c82, c95, c125, c131, c137]
                    have B2 := B
                    rw [← x_mn_S0 hm] at B2
                    rw [x_any_S, hd, Bool.true_or, Bool.or_true] at kt
                    refine rp_iinc (i := 2) (y := 1) d_sec_readFields_145 rfl (by decide) rfl (Nat.le_of_ble_eq_true rfl) ?_
                    refine rp_goto (tgt := 36) d_sec_readFields_148 (by decide) ?_
                    refine rp_lv [(0, .ref o), (1, .ref 2), (2, .int (nI (i + 1)))] (by simp only [nI_succ]; rfl) ?_
                    exact ih (i + 1) true _ (B2.pI (by decide) 1) ⟨fun k e1 e2 => by rw [cf_pI_k e2]; exact F.1 k e1 e2, F.2⟩ (by rw [cf_pI_k (by decide)]; exact g13) cf_pI_s (by omega) (by omega) (by simpa using kt)
            · refine rp_aload_n (i := 1) d_sec_readFields_98 rfl rfl ?_
              refine rp_iload_n (i := 2) d_sec_readFields_99 rfl rfl ?_
              refine rp_callV1 d_sec_readFields_100 q_sec_readFields_67 (Or.inl ⟨_, _, _, rfl, rfl⟩) (Nat.le_of_ble_eq_true rfl) (Nat.le_of_ble_eq_true rfl) ?_
              refine t_detailAt hB rfl (by omega) ?_
              refine rp_iconst (v := 2) d_sec_readFields_103 (by decide) ?_
              refine rp_icmp_gt (tgt := 122) d_sec_readFields_104 (by decide) (fun c104 => ?_) (fun c104 => ?_)
              · refine rp_iload_n (i := 3) d_sec_readFields_122 rfl rfl ?_
                refine rp_bipush (v := 121) d_sec_readFields_123 (by decide) ?_
                refine rp_icmp_eq (tgt := 140) d_sec_readFields_125 (by decide) (fun c125 => ?_) (fun c125 => ?_)
                · refine rp_aload_n (i := 0) d_sec_readFields_140 rfl rfl ?_
                  refine rp_iconst (v := 1) d_sec_readFields_141 (by decide) ?_
                  refine rp_putI d_sec_readFields_142 f_sec_112 ho (by first | rfl | decide | assumption) (by first | rfl | decide | assumption) ?_
                  rw [c95] at c125
                  exact absurd c125 (by decide)
                · refine rp_iload_n (i := 3) d_sec_readFields_128 rfl rfl ?_
                  refine rp_bipush (v := 109) d_sec_readFields_129 (by decide) ?_
                  refine rp_icmp_eq (tgt := 140) d_sec_readFields_131 (by decide) (fun c131 => ?_) (fun c131 => ?_)
                  · refine rp_aload_n (i := 0) d_sec_readFields_140 rfl rfl ?_
                    refine rp_iconst (v := 1) d_sec_readFields_141 (by decide) ?_
                    refine rp_putI d_sec_readFields_142 f_sec_112 ho (by first | rfl | decide | assumption) (by first | rfl | decide | assumption) ?_
                    rw [x_mn_ty] at c51
                    rw [x_mn_lb] at c71
                    rw [x_mn_lf] at c82
                    rw [x_mn_va2 XS (Nat.le_refl i)] at c95
                    rw [x_mn_va2 XS (Nat.le_refl i)] at c125
                    rw [x_mn_va2 XS (Nat.le_refl i)] at c131
                    rw [x_mn_de] at c104
                    have hm : x_mi XS a b i = false := by simp [x_mi, c41, c51, c71, c82, c95, c104, c125, c131]
                    have hd : x_dy XS a b i = true := by simp [x_dy, hm, c41, c51, c71, c82, c95, c104, c125, c131]
                    have B2 := B
                    rw [← x_mn_S0 hm] at B2
                    rw [x_any_S, hd, Bool.true_or, Bool.or_true] at kt
                    refine rp_iinc (i := 2) (y := 1) d_sec_readFields_145 rfl (by decide) rfl (Nat.le_of_ble_eq_true rfl) ?_
                    refine rp_goto (tgt := 36) d_sec_readFields_148 (by decide) ?_
                    refine rp_lv [(0, .ref o), (1, .ref 2), (2, .int (nI (i + 1)))] (by simp only [nI_succ]; rfl) ?_
                    exact ih (i + 1) true _ (B2.pI (by decide) 1) ⟨fun k e1 e2 => by rw [cf_pI_k e2]; exact F.1 k e1 e2, F.2⟩ (by rw [cf_pI_k (by decide)]; exact g13) cf_pI_s (by omega) (by omega) (by simpa using kt)
                  · refine rp_iload_n (i := 3) d_sec_readFields_134 rfl rfl ?_
                    refine rp_bipush (v := 100) d_sec_readFields_135 (by decide) ?_
                    refine rp_icmp_ne (tgt := 145) d_sec_readFields_137 (by decide) (fun c137 => ?_) (fun c137 => ?_)
                    · exact absurd c95 c131
                    · refine rp_aload_n (i := 0) d_sec_readFields_140 rfl rfl ?_
                      refine rp_iconst (v := 1) d_sec_readFields_141 (by decide) ?_
                      refine rp_putI d_sec_readFields_142 f_sec_112 ho (by first | rfl | decide | assumption) (by first | rfl | decide | assumption) ?_
                      exact absurd c95 c131
              · refine rp_iload (i := 4) d_sec_readFields_107 rfl ?_
                refine rp_if_eq (tgt := 122) d_sec_readFields_109 (by decide) (fun c109 => ?_) (fun c109 => ?_)
                · refine rp_iload_n (i := 3) d_sec_readFields_122 rfl rfl ?_
                  refine rp_bipush (v := 121) d_sec_readFields_123 (by decide) ?_
                  refine rp_icmp_eq (tgt := 140) d_sec_readFields_125 (by decide) (fun c125 => ?_) (fun c125 => ?_)
                  · refine rp_aload_n (i := 0) d_sec_readFields_140 rfl rfl ?_
                    refine rp_iconst (v := 1) d_sec_readFields_141 (by decide) ?_
                    refine rp_putI d_sec_readFields_142 f_sec_112 ho (by first | rfl | decide | assumption) (by first | rfl | decide | assumption) ?_
                    rw [c95] at c125
                    exact absurd c125 (by decide)
                  · refine rp_iload_n (i := 3) d_sec_readFields_128 rfl rfl ?_
                    refine rp_bipush (v := 109) d_sec_readFields_129 (by decide) ?_
                    refine rp_icmp_eq (tgt := 140) d_sec_readFields_131 (by decide) (fun c131 => ?_) (fun c131 => ?_)
                    · refine rp_aload_n (i := 0) d_sec_readFields_140 rfl rfl ?_
                      refine rp_iconst (v := 1) d_sec_readFields_141 (by decide) ?_
                      refine rp_putI d_sec_readFields_142 f_sec_112 ho (by first | rfl | decide | assumption) (by first | rfl | decide | assumption) ?_
                      rw [x_mn_ty] at c51
                      rw [x_mn_lb] at c71
                      rw [x_mn_lf] at c82
                      rw [x_mn_va2 XS (Nat.le_refl i)] at c95
                      rw [x_mn_va2 XS (Nat.le_refl i)] at c125
                      rw [x_mn_va2 XS (Nat.le_refl i)] at c131
                      rw [x_mn_de] at c104
                      have hm : x_mi XS a b i = false := by simp [x_mi, c41, c51, c71, c82, c95, c104, c109, c125, c131]
                      have hd : x_dy XS a b i = true := by simp [x_dy, hm, c41, c51, c71, c82, c95, c104, c109, c125, c131]
                      have B2 := B
                      rw [← x_mn_S0 hm] at B2
                      rw [x_any_S, hd, Bool.true_or, Bool.or_true] at kt
                      refine rp_iinc (i := 2) (y := 1) d_sec_readFields_145 rfl (by decide) rfl (Nat.le_of_ble_eq_true rfl) ?_
                      refine rp_goto (tgt := 36) d_sec_readFields_148 (by decide) ?_
                      refine rp_lv [(0, .ref o), (1, .ref 2), (2, .int (nI (i + 1)))] (by simp only [nI_succ]; rfl) ?_
                      exact ih (i + 1) true _ (B2.pI (by decide) 1) ⟨fun k e1 e2 => by rw [cf_pI_k e2]; exact F.1 k e1 e2, F.2⟩ (by rw [cf_pI_k (by decide)]; exact g13) cf_pI_s (by omega) (by omega) (by simpa using kt)
                    · refine rp_iload_n (i := 3) d_sec_readFields_134 rfl rfl ?_
                      refine rp_bipush (v := 100) d_sec_readFields_135 (by decide) ?_
                      refine rp_icmp_ne (tgt := 145) d_sec_readFields_137 (by decide) (fun c137 => ?_) (fun c137 => ?_)
                      · exact absurd c95 c131
                      · refine rp_aload_n (i := 0) d_sec_readFields_140 rfl rfl ?_
                        refine rp_iconst (v := 1) d_sec_readFields_141 (by decide) ?_
                        refine rp_putI d_sec_readFields_142 f_sec_112 ho (by first | rfl | decide | assumption) (by first | rfl | decide | assumption) ?_
                        exact absurd c95 c131
                · exact absurd (by decide) c109
          · refine rp_iconst (v := 1) d_sec_readFields_85 (by decide) ?_
            refine rp_goto (tgt := 90) d_sec_readFields_86 (by decide) ?_
            refine rp_istore (i := 4) d_sec_readFields_90 rfl (Nat.le_of_ble_eq_true rfl) ?_
            refine rp_iload_n (i := 3) d_sec_readFields_92 rfl rfl ?_
            refine rp_bipush (v := 109) d_sec_readFields_93 (by decide) ?_
            refine rp_icmp_ne (tgt := 122) d_sec_readFields_95 (by decide) (fun c95 => ?_) (fun c95 => ?_)
            · refine rp_iload_n (i := 3) d_sec_readFields_122 rfl rfl ?_
              refine rp_bipush (v := 121) d_sec_readFields_123 (by decide) ?_
              refine rp_icmp_eq (tgt := 140) d_sec_readFields_125 (by decide) (fun c125 => ?_) (fun c125 => ?_)
              · refine rp_aload_n (i := 0) d_sec_readFields_140 rfl rfl ?_
                refine rp_iconst (v := 1) d_sec_readFields_141 (by decide) ?_
                refine rp_putI d_sec_readFields_142 f_sec_112 ho (by first | rfl | decide | assumption) (by first | rfl | decide | assumption) ?_
                rw [x_mn_ty] at c51
                rw [x_mn_lb] at c71
                rw [x_mn_lf] at c82
                rw [x_mn_va2 XS (Nat.le_refl i)] at c95
                rw [x_mn_va2 XS (Nat.le_refl i)] at c125
                have hm : x_mi XS a b i = false := by simp [x_mi, c41, c51, c71, c82, c95, c125]
                have hd : x_dy XS a b i = true := by simp [x_dy, hm, c41, c51, c71, c82, c95, c125]
                have B2 := B
                rw [← x_mn_S0 hm] at B2
                rw [x_any_S, hd, Bool.true_or, Bool.or_true] at kt
                refine rp_iinc (i := 2) (y := 1) d_sec_readFields_145 rfl (by decide) rfl (Nat.le_of_ble_eq_true rfl) ?_
                refine rp_goto (tgt := 36) d_sec_readFields_148 (by decide) ?_
                refine rp_lv [(0, .ref o), (1, .ref 2), (2, .int (nI (i + 1)))] (by simp only [nI_succ]; rfl) ?_
                exact ih (i + 1) true _ (B2.pI (by decide) 1) ⟨fun k e1 e2 => by rw [cf_pI_k e2]; exact F.1 k e1 e2, F.2⟩ (by rw [cf_pI_k (by decide)]; exact g13) cf_pI_s (by omega) (by omega) (by simpa using kt)
              · refine rp_iload_n (i := 3) d_sec_readFields_128 rfl rfl ?_
                refine rp_bipush (v := 109) d_sec_readFields_129 (by decide) ?_
                refine rp_icmp_eq (tgt := 140) d_sec_readFields_131 (by decide) (fun c131 => ?_) (fun c131 => ?_)
                · refine rp_aload_n (i := 0) d_sec_readFields_140 rfl rfl ?_
                  refine rp_iconst (v := 1) d_sec_readFields_141 (by decide) ?_
                  refine rp_putI d_sec_readFields_142 f_sec_112 ho (by first | rfl | decide | assumption) (by first | rfl | decide | assumption) ?_
                  exact absurd c131 c95
                · refine rp_iload_n (i := 3) d_sec_readFields_134 rfl rfl ?_
                  refine rp_bipush (v := 100) d_sec_readFields_135 (by decide) ?_
                  refine rp_icmp_ne (tgt := 145) d_sec_readFields_137 (by decide) (fun c137 => ?_) (fun c137 => ?_)
                  · rw [x_mn_ty] at c51
                    rw [x_mn_lb] at c71
                    rw [x_mn_lf] at c82
                    rw [x_mn_va2 XS (Nat.le_refl i)] at c95
                    rw [x_mn_va2 XS (Nat.le_refl i)] at c125
                    rw [x_mn_va2 XS (Nat.le_refl i)] at c131
                    rw [x_mn_va2 XS (Nat.le_refl i)] at c137
                    have hm : x_mi XS a b i = false := by simp [x_mi, c41, c51, c71, c82, c95, c125, c131, c137]
                    have hd : x_dy XS a b i = false := by simp [x_dy, hm, c41, c51, c71, c82, c95, c125, c131, c137]
                    have B2 := B
                    rw [← x_mn_S0 hm] at B2
                    rw [x_any_S, hd, Bool.false_or] at kt
                    refine rp_iinc (i := 2) (y := 1) d_sec_readFields_145 rfl (by decide) rfl (Nat.le_of_ble_eq_true rfl) ?_
                    refine rp_goto (tgt := 36) d_sec_readFields_148 (by decide) ?_
                    refine rp_lv [(0, .ref o), (1, .ref 2), (2, .int (nI (i + 1)))] (by simp only [nI_succ]; rfl) ?_
                    exact ih (i + 1) nd h B2 F g13 g14 (by omega) (by omega) kt
                  · refine rp_aload_n (i := 0) d_sec_readFields_140 rfl rfl ?_
                    refine rp_iconst (v := 1) d_sec_readFields_141 (by decide) ?_
                    refine rp_putI d_sec_readFields_142 f_sec_112 ho (by first | rfl | decide | assumption) (by first | rfl | decide | assumption) ?_
                    rw [x_mn_ty] at c51
                    rw [x_mn_lb] at c71
                    rw [x_mn_lf] at c82
                    rw [x_mn_va2 XS (Nat.le_refl i)] at c95
                    rw [x_mn_va2 XS (Nat.le_refl i)] at c125
                    rw [x_mn_va2 XS (Nat.le_refl i)] at c131
                    rw [x_mn_va2 XS (Nat.le_refl i)] at c137
                    have hm : x_mi XS a b i = false := by simp [x_mi, c41, c51, c71, c82, c95, c125, c131, c137]
                    have hd : x_dy XS a b i = true := by simp [x_dy, hm, c41, c51, c71, c82, c95, c125, c131, c137]
                    have B2 := B
                    rw [← x_mn_S0 hm] at B2
                    rw [x_any_S, hd, Bool.true_or, Bool.or_true] at kt
                    refine rp_iinc (i := 2) (y := 1) d_sec_readFields_145 rfl (by decide) rfl (Nat.le_of_ble_eq_true rfl) ?_
                    refine rp_goto (tgt := 36) d_sec_readFields_148 (by decide) ?_
                    refine rp_lv [(0, .ref o), (1, .ref 2), (2, .int (nI (i + 1)))] (by simp only [nI_succ]; rfl) ?_
                    exact ih (i + 1) true _ (B2.pI (by decide) 1) ⟨fun k e1 e2 => by rw [cf_pI_k e2]; exact F.1 k e1 e2, F.2⟩ (by rw [cf_pI_k (by decide)]; exact g13) cf_pI_s (by omega) (by omega) (by simpa using kt)
            · refine rp_aload_n (i := 1) d_sec_readFields_98 rfl rfl ?_
              refine rp_iload_n (i := 2) d_sec_readFields_99 rfl rfl ?_
              refine rp_callV1 d_sec_readFields_100 q_sec_readFields_67 (Or.inl ⟨_, _, _, rfl, rfl⟩) (Nat.le_of_ble_eq_true rfl) (Nat.le_of_ble_eq_true rfl) ?_
              refine t_detailAt hB rfl (by omega) ?_
              refine rp_iconst (v := 2) d_sec_readFields_103 (by decide) ?_
              refine rp_icmp_gt (tgt := 122) d_sec_readFields_104 (by decide) (fun c104 => ?_) (fun c104 => ?_)
              · refine rp_iload_n (i := 3) d_sec_readFields_122 rfl rfl ?_
                refine rp_bipush (v := 121) d_sec_readFields_123 (by decide) ?_
                refine rp_icmp_eq (tgt := 140) d_sec_readFields_125 (by decide) (fun c125 => ?_) (fun c125 => ?_)
                · refine rp_aload_n (i := 0) d_sec_readFields_140 rfl rfl ?_
                  refine rp_iconst (v := 1) d_sec_readFields_141 (by decide) ?_
                  refine rp_putI d_sec_readFields_142 f_sec_112 ho (by first | rfl | decide | assumption) (by first | rfl | decide | assumption) ?_
                  rw [c95] at c125
                  exact absurd c125 (by decide)
                · refine rp_iload_n (i := 3) d_sec_readFields_128 rfl rfl ?_
                  refine rp_bipush (v := 109) d_sec_readFields_129 (by decide) ?_
                  refine rp_icmp_eq (tgt := 140) d_sec_readFields_131 (by decide) (fun c131 => ?_) (fun c131 => ?_)
                  · refine rp_aload_n (i := 0) d_sec_readFields_140 rfl rfl ?_
                    refine rp_iconst (v := 1) d_sec_readFields_141 (by decide) ?_
                    refine rp_putI d_sec_readFields_142 f_sec_112 ho (by first | rfl | decide | assumption) (by first | rfl | decide | assumption) ?_
                    rw [x_mn_ty] at c51
                    rw [x_mn_lb] at c71
                    rw [x_mn_lf] at c82
                    rw [x_mn_va2 XS (Nat.le_refl i)] at c95
                    rw [x_mn_va2 XS (Nat.le_refl i)] at c125
                    rw [x_mn_va2 XS (Nat.le_refl i)] at c131
                    rw [x_mn_de] at c104
                    have hm : x_mi XS a b i = false := by simp [x_mi, c41, c51, c71, c82, c95, c104, c125, c131]
                    have hd : x_dy XS a b i = true := by simp [x_dy, hm, c41, c51, c71, c82, c95, c104, c125, c131]
                    have B2 := B
                    rw [← x_mn_S0 hm] at B2
                    rw [x_any_S, hd, Bool.true_or, Bool.or_true] at kt
                    refine rp_iinc (i := 2) (y := 1) d_sec_readFields_145 rfl (by decide) rfl (Nat.le_of_ble_eq_true rfl) ?_
                    refine rp_goto (tgt := 36) d_sec_readFields_148 (by decide) ?_
                    refine rp_lv [(0, .ref o), (1, .ref 2), (2, .int (nI (i + 1)))] (by simp only [nI_succ]; rfl) ?_
                    exact ih (i + 1) true _ (B2.pI (by decide) 1) ⟨fun k e1 e2 => by rw [cf_pI_k e2]; exact F.1 k e1 e2, F.2⟩ (by rw [cf_pI_k (by decide)]; exact g13) cf_pI_s (by omega) (by omega) (by simpa using kt)
                  · refine rp_iload_n (i := 3) d_sec_readFields_134 rfl rfl ?_
                    refine rp_bipush (v := 100) d_sec_readFields_135 (by decide) ?_
                    refine rp_icmp_ne (tgt := 145) d_sec_readFields_137 (by decide) (fun c137 => ?_) (fun c137 => ?_)
                    · exact absurd c95 c131
                    · refine rp_aload_n (i := 0) d_sec_readFields_140 rfl rfl ?_
                      refine rp_iconst (v := 1) d_sec_readFields_141 (by decide) ?_
                      refine rp_putI d_sec_readFields_142 f_sec_112 ho (by first | rfl | decide | assumption) (by first | rfl | decide | assumption) ?_
                      exact absurd c95 c131
              · refine rp_iload (i := 4) d_sec_readFields_107 rfl ?_
                refine rp_if_eq (tgt := 122) d_sec_readFields_109 (by decide) (fun c109 => ?_) (fun c109 => ?_)
                · exact absurd c109 (by decide)
                · refine rp_aload_n (i := 1) d_sec_readFields_112 rfl rfl ?_
                  refine rp_iload_n (i := 2) d_sec_readFields_113 rfl rfl ?_
                  refine rp_bipush (v := 110) d_sec_readFields_114 (by decide) ?_
                  refine rp_callV2 d_sec_readFields_116 q_sec_readFields_122 (Or.inl ⟨_, _, _, rfl, rfl⟩) (Nat.le_of_ble_eq_true rfl) (Nat.le_of_ble_eq_true rfl) ?_
                  refine s_tok_setValue hB rfl (by omega) ?_
                  refine rp_goto (tgt := 145) d_sec_readFields_119 (by decide) ?_
                  rw [x_mn_ty] at c51
                  rw [x_mn_lb] at c71
                  rw [x_mn_lf] at c82
                  rw [x_mn_va2 XS (Nat.le_refl i)] at c95
                  rw [x_mn_de] at c104
                  have hm : x_mi XS a b i = true := by simp [x_mi, c41, c51, c71, c82, c95, c104, c109]
                  have hd : x_dy XS a b i = false := by simp [x_dy, hm]
                  have hx : (x_mn XS a b i)[i]? = some ((x_mn XS a b i)[i]'(by omega)) := List.getElem?_eq_getElem (by omega)
                  have hX := x_B_set hB hx 110 (by omega)
                  rw [← x_mn_S1 hm (by omega) hx] at hX
                  have B2 := B.set hX (by rw [x_mn_len, x_mn_len])
                  rw [x_any_S, hd, Bool.false_or] at kt
                  refine rp_iinc (i := 2) (y := 1) d_sec_readFields_145 rfl (by decide) rfl (Nat.le_of_ble_eq_true rfl) ?_
                  refine rp_goto (tgt := 36) d_sec_readFields_148 (by decide) ?_
                  refine rp_lv [(0, .ref o), (1, .ref 2), (2, .int (nI (i + 1)))] (by simp only [nI_succ]; rfl) ?_
                  exact ih (i + 1) nd _ B2 ⟨fun k e1 e2 => by rw [g_A1]; exact F.1 k e1 e2, fun k => by rw [g_A2]; exact F.2 k⟩ (by rw [g_A1]; exact g13) (by rw [g_A1]; exact g14) (by omega) (by omega) kt
      · refine rp_goto (tgt := 145) d_sec_readFields_54 (by decide) ?_
        rw [x_mn_ty] at c51
        have hm : x_mi XS a b i = false := by simp [x_mi, c41, c51]
        have hd : x_dy XS a b i = false := by simp [x_dy, hm, c41, c51]
        have B2 := B
        rw [← x_mn_S0 hm] at B2
        rw [x_any_S, hd, Bool.false_or] at kt
        refine rp_iinc (i := 2) (y := 1) d_sec_readFields_145 rfl (by decide) rfl (Nat.le_of_ble_eq_true rfl) ?_
        refine rp_goto (tgt := 36) d_sec_readFields_148 (by decide) ?_
        refine rp_lv [(0, .ref o), (1, .ref 2), (2, .int (nI (i + 1)))] (by simp only [nI_succ]; rfl) ?_
        exact ih (i + 1) nd h B2 F g13 g14 (by omega) (by omega) kt
set_option maxHeartbeats 4000000 in
set_option maxRecDepth 100000 in
theorem s_sec_readFields {h0 h : cf_H} {P : Option Value → cf_H → Prop} {o : Nat} {XS : List r_K} {a b : Nat} (B : s_B h0 h o XS a b) (kt : ∀ h', s_B h0 h' o (x_mn XS a b b) a b → s_F o h h' → h'.1 o 13 = cf_b (!decide (r_ct (x_ty XS) 10 a b = 0)) → h'.1 o 14 = cf_b (x_any (x_dy XS a b) a (b - a)) → P none h') : RP k_sec_readFields 0 [(0, .ref o), (1, .ref 2)] [] h P := by
  obtain ⟨ho9, hB, ha, hb, hab, hbl, hfr⟩ := id B
  have ho := s_ho ho9
  have h40 := hB.2.2
  have m := r_ct_le (x_ty XS) 10 a b
  refine rp_aload_n (i := 0) d_sec_readFields_0 rfl rfl ?_
  refine rp_aload_n (i := 1) d_sec_readFields_1 rfl rfl ?_
  refine rp_bipush (v := 10) d_sec_readFields_2 (by decide) ?_
  refine rp_aload_n (i := 0) d_sec_readFields_4 rfl rfl ?_
  refine rp_getI d_sec_readFields_5 f_sec_15 ho ?_
  refine rp_aload_n (i := 0) d_sec_readFields_8 rfl rfl ?_
  refine rp_getI d_sec_readFields_9 f_sec_18 ho ?_
  refine rp_callV3 d_sec_readFields_12 q_sec_readFields_21 (Or.inl ⟨_, _, _, rfl, rfl⟩) (Nat.le_of_ble_eq_true rfl) (Nat.le_of_ble_eq_true rfl) ?_
  refine t_count hB ha hb hab (by omega) ?_
  refine rp_if_le (tgt := 22) d_sec_readFields_15 (by decide) (fun c15 => ?_) (fun c15 => ?_)
  · refine rp_iconst (v := 0) d_sec_readFields_22 (by decide) ?_
    refine rp_putI d_sec_readFields_23 f_sec_109 ho (by first | rfl | decide | assumption) (by first | rfl | decide | assumption) ?_
    refine rp_aload_n (i := 0) d_sec_readFields_26 rfl rfl ?_
    refine rp_iconst (v := 0) d_sec_readFields_27 (by decide) ?_
    refine rp_putI d_sec_readFields_28 f_sec_112 ho (by first | rfl | decide | assumption) (by first | rfl | decide | assumption) ?_
    rw [z_le (by omega)] at c15
    have B1 := (B.pI (k := 13) (by decide) 0).pI (k := 14) (by decide) 0
    have F1 : s_F o h (cf_pI (cf_pI h o 13 0) o 14 0) := ⟨fun k e1 e2 => by rw [cf_pI_k e2, cf_pI_k e1], fun k => rfl⟩
    have g13 : (cf_pI (cf_pI h o 13 0) o 14 0).1 o 13 = cf_b (!decide (r_ct (x_ty XS) 10 a b = 0)) := by rw [cf_pI_k (by decide), cf_pI_s]; simp [cf_b, c15]
    have g14 : (cf_pI (cf_pI h o 13 0) o 14 0).1 o 14 = cf_b false := cf_pI_s
    generalize cf_pI (cf_pI h o 13 0) o 14 0 = h2 at B1 F1 g13 g14 ⊢
    have a2 := B1.2.2.1
    refine rp_aload_n (i := 0) d_sec_readFields_31 rfl rfl ?_
    refine rp_getI d_sec_readFields_32 f_sec_15 ho ?_
    refine rp_istore_n (i := 2) d_sec_readFields_35 rfl rfl (Nat.le_of_ble_eq_true rfl) ?_
    refine rp_lv [(0, .ref o), (1, .ref 2), (2, .int (nI a))] (by rw [← a2]; rfl) ?_
    refine l_sec_fields (b - a) a false h2 (by rw [x_mn_0]; exact B1) F1 g13 g14 (by omega) (Nat.le_refl _) ?_
    rw [Bool.false_or]
    exact kt
  · refine rp_iconst (v := 1) d_sec_readFields_18 (by decide) ?_
    refine rp_goto (tgt := 23) d_sec_readFields_19 (by decide) ?_
    refine rp_putI d_sec_readFields_23 f_sec_109 ho (by first | rfl | decide | assumption) (by first | rfl | decide | assumption) ?_
    refine rp_aload_n (i := 0) d_sec_readFields_26 rfl rfl ?_
    refine rp_iconst (v := 0) d_sec_readFields_27 (by decide) ?_
    refine rp_putI d_sec_readFields_28 f_sec_112 ho (by first | rfl | decide | assumption) (by first | rfl | decide | assumption) ?_
    rw [z_le (by omega)] at c15
    have B1 := (B.pI (k := 13) (by decide) 1).pI (k := 14) (by decide) 0
    have F1 : s_F o h (cf_pI (cf_pI h o 13 1) o 14 0) := ⟨fun k e1 e2 => by rw [cf_pI_k e2, cf_pI_k e1], fun k => rfl⟩
    have g13 : (cf_pI (cf_pI h o 13 1) o 14 0).1 o 13 = cf_b (!decide (r_ct (x_ty XS) 10 a b = 0)) := by rw [cf_pI_k (by decide), cf_pI_s]; simp [cf_b, c15]
    have g14 : (cf_pI (cf_pI h o 13 1) o 14 0).1 o 14 = cf_b false := cf_pI_s
    generalize cf_pI (cf_pI h o 13 1) o 14 0 = h2 at B1 F1 g13 g14 ⊢
    have a2 := B1.2.2.1
    refine rp_aload_n (i := 0) d_sec_readFields_31 rfl rfl ?_
    refine rp_getI d_sec_readFields_32 f_sec_15 ho ?_
    refine rp_istore_n (i := 2) d_sec_readFields_35 rfl rfl (Nat.le_of_ble_eq_true rfl) ?_
    refine rp_lv [(0, .ref o), (1, .ref 2), (2, .int (nI a))] (by rw [← a2]; rfl) ?_
    refine l_sec_fields (b - a) a false h2 (by rw [x_mn_0]; exact B1) F1 g13 g14 (by omega) (Nat.le_refl _) ?_
    rw [Bool.false_or]
    exact kt
def c_kd (XS : List r_K) (a b : Nat) : Int32 := if cf_cnt (x_fd XS) a (b - a) = 0 then (if r_ct (x_ty XS) 2 a b = 0 then 0 else 1) else 2
def c_cond (XS : List r_K) (a b : Nat) : Bool := decide (r_ct (x_ty XS) 7 a b = 0) || (decide (r_ct (x_ty XS) 7 a b = 1) && decide (x_ty XS a = 7))
def c_tst2 (XS : List r_K) (a b : Nat) : Int32 := if r_ct (x_ty XS) 7 a b = 0 then 0 else x_de XS a
def c_bnd (XS : List r_K) (a b : Nat) : Int64 := if r_ct (x_ty XS) 7 a b = 0 then 0 else (x_va XS a).toInt64 * 1000000
def c_mk (XS : List r_K) (a b : Nat) : Bool := decide (r_ct (x_ty XS) 2 a b = 0) && decide (r_ct (x_ty XS) 3 a b = 0 ∧ r_ct (x_ty XS) 4 a b = 0 ∧ r_ct (x_ty XS) 5 a b = 0 ∧ r_ct (x_ty XS) 6 a b = 0)
/-- what a section knows once it is read and well made -/
def s_G (h : cf_H) (o : Nat) (XS : List r_K) (a b : Nat) : Prop := h.1 o 0 = nI a ∧ h.1 o 1 = nI b ∧ h.1 o 2 = c_kd XS a b ∧ h.1 o 3 = c_tst2 XS a b ∧ h.2.1 o 4 = c_bnd XS a b
theorem r_ct_mn (XS : List r_K) (a b x y : Nat) (w : Int32) : r_ct (x_ty (x_mn XS a b b)) w x y = r_ct (x_ty XS) w x y := cf_cnt_congr _ _ (fun j _ _ => by rw [x_mn_ty])

