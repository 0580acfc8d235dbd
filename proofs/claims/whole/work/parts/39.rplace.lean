/-! PLACES of the reference -/
def cma (grp : Bool) (r : Nat) (on : Bool) : List Int32 := if (grp = true ∧ 0 < r ∧ r % 3 = 0) ∧ on = true then [44] else []
theorem cma_f (grp : Bool) (r : Nat) : cma grp r false = [] := by unfold cma; rw [if_neg (fun z => absurd z.2 (by decide))]
theorem cma_g (r : Nat) (on : Bool) : cma false r on = [] := by unfold cma; rw [if_neg (fun z => absurd z.1.1 (by decide))]
theorem wI2_eq {a : Nat} {pw : Int} {pl : Int32} {r : Nat} {grp : Bool} (ha : a < 10 ^ 16) : wI2 a pw pl r grp = (if (r : Int) ≤ tp a pw then [nI (48 + dg a pw r)] else if pl = 48 then [48] else if pl = 63 then [32] else []) ++ cma grp r (decide ((r : Int) ≤ tp a pw) || decide (pl = 48)) := by
  unfold wI2
  by_cases h1 : (r : Int) ≤ tp a pw
  · rw [if_pos (Or.inl h1), if_pos h1, decide_eq_true h1, Bool.true_or, dgt, cma]
    by_cases h2 : grp = true ∧ 0 < r ∧ r % 3 = 0
    · rw [if_pos h2, if_pos ⟨h2, rfl⟩]; rfl
    · rw [if_neg h2, if_neg (fun z => h2 z.1)]; rfl
  · rw [if_neg h1, decide_eq_false h1, Bool.false_or]
    by_cases h3 : pl = 48
    · rw [if_pos (Or.inr h3), if_pos h3, decide_eq_true h3, dgt, dg_hi ha (by omega), cma]
      by_cases h2 : grp = true ∧ 0 < r ∧ r % 3 = 0
      · rw [if_pos h2, if_pos ⟨h2, rfl⟩]; rfl
      · rw [if_neg h2, if_neg (fun z => h2 z.1)]; rfl
    · rw [if_neg (fun z => z.elim h1 h3), if_neg h3, decide_eq_false h3, cma_f, List.append_nil]

set_option maxHeartbeats 4000000 in
set_option maxRecDepth 100000 in
theorem t_mod_iP162 {h0 h : cf_H} {P : Option Value → cf_H → Prop} {L : List Int32} (w : vT h0 L h) {K : Nat} (hK : K < 40) {pl : Int32} (hpl : h0.2.2.2 23 K = pl) {r : Nat} (hr : r ≤ 40) {grp has : Bool} (hl : L.length + (cma grp r (has || decide (pl = 48))).length ≤ 600) (k : ∀ h', vT h0 (L ++ cma grp r (has || decide (pl = 48))) h' → P none h') : RP k_mod_integerPlace 162 [(0, .ref 19), (1, .int (nI K)), (2, .int (nI r)), (4, .int (cf_b grp)), (6, .int (cf_b has))] [] h P := by
  have hR := w.ok
  have hpl' : h.2.2.2 23 K = pl := by rw [w.2.1.2.2.2 23 (by decide)]; exact hpl
  have e3 : nI r - nI r / 3 * 3 = nI (r % 3) := pk_rem (d := 3) (by omega) (by decide) (by decide)
  refine rp_iload (i := 4) d_mod_integerPlace_162 rfl ?_
  refine rp_if_eq (tgt := 199) d_mod_integerPlace_164 (by decide) (fun c164 => ?_) (fun c164 => ?_)
  · refine rp_return d_mod_integerPlace_199 rfl ?_
    have hc : ¬ ((grp = true ∧ 0 < r ∧ r % 3 = 0) ∧ (has || decide (pl = 48)) = true) := fun z => by rw [cf_b_f c164] at z; exact absurd z.1.1 (by decide)
    rw [cma, if_neg hc, List.append_nil] at k
    exact k h w
  · refine rp_iload_n (i := 2) d_mod_integerPlace_167 rfl rfl ?_
    refine rp_if_le (tgt := 199) d_mod_integerPlace_168 (by decide) (fun c168 => ?_) (fun c168 => ?_)
    · refine rp_return d_mod_integerPlace_199 rfl ?_
      have hc : ¬ ((grp = true ∧ 0 < r ∧ r % 3 = 0) ∧ (has || decide (pl = 48)) = true) := fun z => by have := (nI_leI (b := 0) (by omega) (by decide)).mp c168; omega
      rw [cma, if_neg hc, List.append_nil] at k
      exact k h w
    · refine rp_iload_n (i := 2) d_mod_integerPlace_171 rfl rfl ?_
      refine rp_iconst (v := 3) d_mod_integerPlace_172 (by decide) ?_
      refine rp_irem d_mod_integerPlace_173 (by decide) ?_
      rw [e3]
      refine rp_if_ne (tgt := 199) d_mod_integerPlace_174 (by decide) (fun c174 => ?_) (fun c174 => ?_)
      · refine rp_return d_mod_integerPlace_199 rfl ?_
        have hc : ¬ ((grp = true ∧ 0 < r ∧ r % 3 = 0) ∧ (has || decide (pl = 48)) = true) := fun z => c174 ((z_eq (by omega)).mpr z.1.2.2)
        rw [cma, if_neg hc, List.append_nil] at k
        exact k h w
      · refine rp_iload (i := 6) d_mod_integerPlace_177 rfl ?_
        refine rp_if_ne (tgt := 193) d_mod_integerPlace_179 (by decide) (fun c179 => ?_) (fun c179 => ?_)
        · refine rp_aload_n (i := 0) d_mod_integerPlace_193 rfl rfl ?_
          refine rp_bipush (v := 44) d_mod_integerPlace_194 (by decide) ?_
          refine rp_callV1 d_mod_integerPlace_196 q_mod_integerPlace_132 (Or.inl ⟨_, _, _, rfl, rfl⟩) (Nat.le_of_ble_eq_true rfl) (Nat.le_of_ble_eq_true rfl) ?_
          have hon : (has || decide (pl = 48)) = true := by rw [cf_b_t c179]; rfl
          have hc : (grp = true ∧ 0 < r ∧ r % 3 = 0) ∧ (has || decide (pl = 48)) = true := ⟨⟨cf_b_t c164, Nat.pos_of_ne_zero (fun z => c168 (by rw [z]; decide)), (z_eq (by omega)).mp c174⟩, hon⟩
          rw [cma, if_pos hc] at hl k
          refine s_mod_put w (by simp at hl; omega) (fun h2 w2 => ?_)
          refine rp_return d_mod_integerPlace_199 rfl ?_
          exact k h2 w2
        · refine rp_aload_n (i := 0) d_mod_integerPlace_182 rfl rfl ?_
          refine rp_getR d_mod_integerPlace_183 f_mod_19 rfl (hR _ _ _ rfl) ?_
          refine rp_iload_n (i := 1) d_mod_integerPlace_186 rfl rfl ?_
          refine rp_iaload d_mod_integerPlace_187 rfl (vp_in_nI hK (by decide)) ?_
          rw [nI_clamp (by omega), hpl']
          refine rp_bipush (v := 48) d_mod_integerPlace_188 (by decide) ?_
          refine rp_icmp_ne (tgt := 199) d_mod_integerPlace_190 (by decide) (fun c190 => ?_) (fun c190 => ?_)
          · refine rp_return d_mod_integerPlace_199 rfl ?_
            have hc : ¬ ((grp = true ∧ 0 < r ∧ r % 3 = 0) ∧ (has || decide (pl = 48)) = true) := fun z => by rw [cf_b_f c179, decide_eq_false c190] at z; exact absurd z.2 (by decide)
            rw [cma, if_neg hc, List.append_nil] at k
            exact k h w
          · refine rp_aload_n (i := 0) d_mod_integerPlace_193 rfl rfl ?_
            refine rp_bipush (v := 44) d_mod_integerPlace_194 (by decide) ?_
            refine rp_callV1 d_mod_integerPlace_196 q_mod_integerPlace_132 (Or.inl ⟨_, _, _, rfl, rfl⟩) (Nat.le_of_ble_eq_true rfl) (Nat.le_of_ble_eq_true rfl) ?_
            have hon : (has || decide (pl = 48)) = true := by rw [decide_eq_true c190, Bool.or_true]
            have hc : (grp = true ∧ 0 < r ∧ r % 3 = 0) ∧ (has || decide (pl = 48)) = true := ⟨⟨cf_b_t c164, Nat.pos_of_ne_zero (fun z => c168 (by rw [z]; decide)), (z_eq (by omega)).mp c174⟩, hon⟩
            rw [cma, if_pos hc] at hl k
            refine s_mod_put w (by simp at hl; omega) (fun h2 w2 => ?_)
            refine rp_return d_mod_integerPlace_199 rfl ?_
            exact k h2 w2
set_option maxHeartbeats 4000000 in
set_option maxRecDepth 100000 in
theorem t_mod_iP105 {h0 h : cf_H} {P : Option Value → cf_H → Prop} {L : List Int32} (w : vT h0 L h) {a z d : Nat} (hN : rN h0 a z d) (ha : a < 10 ^ 16) (hz : z ≤ 500) (hd : d ≤ 40) {K : Nat} (hK : K < 40) {pl : Int32} (hpl : h0.2.2.2 23 K = pl) {r : Nat} (hr : r ≤ 40) {grp has : Bool} (hhas : has = decide ((r : Int) ≤ tp a ((z : Int) - d))) (hl : L.length + (wI2 a ((z : Int) - d) pl r grp).length ≤ 600) (k : ∀ h', vT h0 (L ++ wI2 a ((z : Int) - d) pl r grp) h' → P none h') : RP k_mod_integerPlace 105 [(0, .ref 19), (1, .int (nI K)), (2, .int (nI r)), (4, .int (cf_b grp)), (6, .int (cf_b has))] [] h P := by
  have hR := w.ok
  have hpl' : h.2.2.2 23 K = pl := by rw [w.2.1.2.2.2 23 (by decide)]; exact hpl
  rw [wI2_eq ha, ← hhas] at hl k
  rw [List.length_append] at hl
  refine rp_iload (i := 6) d_mod_integerPlace_105 rfl ?_
  refine rp_if_eq (tgt := 125) d_mod_integerPlace_107 (by decide) (fun c107 => ?_) (fun c107 => ?_)
  · refine rp_aload_n (i := 0) d_mod_integerPlace_125 rfl rfl ?_
    refine rp_getR d_mod_integerPlace_126 f_mod_19 rfl (hR _ _ _ rfl) ?_
    refine rp_iload_n (i := 1) d_mod_integerPlace_129 rfl rfl ?_
    refine rp_iaload d_mod_integerPlace_130 rfl (vp_in_nI hK (by decide)) ?_
    rw [nI_clamp (by omega), hpl']
    refine rp_bipush (v := 48) d_mod_integerPlace_131 (by decide) ?_
    refine rp_icmp_ne (tgt := 145) d_mod_integerPlace_133 (by decide) (fun c133 => ?_) (fun c133 => ?_)
    · refine rp_aload_n (i := 0) d_mod_integerPlace_145 rfl rfl ?_
      refine rp_getR d_mod_integerPlace_146 f_mod_19 rfl (hR _ _ _ rfl) ?_
      refine rp_iload_n (i := 1) d_mod_integerPlace_149 rfl rfl ?_
      refine rp_iaload d_mod_integerPlace_150 rfl (vp_in_nI hK (by decide)) ?_
      rw [nI_clamp (by omega), hpl']
      refine rp_bipush (v := 63) d_mod_integerPlace_151 (by decide) ?_
      refine rp_icmp_ne (tgt := 162) d_mod_integerPlace_153 (by decide) (fun c153 => ?_) (fun c153 => ?_)
      · have hc := cf_b_f c107
        rw [hhas] at hc
        replace hc := of_decide_eq_false hc
        rw [if_neg hc, if_neg c133, if_neg c153, List.nil_append] at k
        refine rp_lv [(0, .ref 19), (1, .int (nI K)), (2, .int (nI r)), (4, .int (cf_b grp)), (6, .int (cf_b has))] rfl ?_
        exact t_mod_iP162 w hK hpl hr (by omega) k
      · refine rp_aload_n (i := 0) d_mod_integerPlace_156 rfl rfl ?_
        refine rp_bipush (v := 32) d_mod_integerPlace_157 (by decide) ?_
        refine rp_callV1 d_mod_integerPlace_159 q_mod_integerPlace_132 (Or.inl ⟨_, _, _, rfl, rfl⟩) (Nat.le_of_ble_eq_true rfl) (Nat.le_of_ble_eq_true rfl) ?_
        have hc := cf_b_f c107
        rw [hhas] at hc
        replace hc := of_decide_eq_false hc
        rw [if_neg hc, if_neg c133, if_pos c153] at hl k
        simp only [List.length_singleton] at hl
        refine s_mod_put w (by omega) (fun h2 w2 => ?_)
        refine rp_lv [(0, .ref 19), (1, .int (nI K)), (2, .int (nI r)), (4, .int (cf_b grp)), (6, .int (cf_b has))] rfl ?_
        refine t_mod_iP162 w2 hK hpl hr (by rw [List.length_append]; simp only [List.length_singleton]; omega) (fun h3 w3 => k h3 ?_)
        rw [← List.append_assoc]
        exact w3
    · refine rp_aload_n (i := 0) d_mod_integerPlace_136 rfl rfl ?_
      refine rp_bipush (v := 48) d_mod_integerPlace_137 (by decide) ?_
      refine rp_callV1 d_mod_integerPlace_139 q_mod_integerPlace_132 (Or.inl ⟨_, _, _, rfl, rfl⟩) (Nat.le_of_ble_eq_true rfl) (Nat.le_of_ble_eq_true rfl) ?_
      have hc := cf_b_f c107
      rw [hhas] at hc
      replace hc := of_decide_eq_false hc
      rw [if_neg hc, if_pos c133] at hl k
      simp only [List.length_singleton] at hl
      refine s_mod_put w (by omega) (fun h2 w2 => ?_)
      refine rp_goto (tgt := 162) d_mod_integerPlace_142 (by decide) ?_
      refine rp_lv [(0, .ref 19), (1, .int (nI K)), (2, .int (nI r)), (4, .int (cf_b grp)), (6, .int (cf_b has))] rfl ?_
      refine t_mod_iP162 w2 hK hpl hr (by rw [List.length_append]; simp only [List.length_singleton]; omega) (fun h3 w3 => k h3 ?_)
      rw [← List.append_assoc]
      exact w3
  · refine rp_aload_n (i := 0) d_mod_integerPlace_110 rfl rfl ?_
    refine rp_bipush (v := 48) d_mod_integerPlace_111 (by decide) ?_
    refine rp_aload_n (i := 0) d_mod_integerPlace_113 rfl rfl ?_
    refine rp_iload_n (i := 2) d_mod_integerPlace_114 rfl rfl ?_
    refine rp_callV1 d_mod_integerPlace_115 q_mod_integerPlace_169 (Or.inl ⟨_, _, _, rfl, rfl⟩) (Nat.le_of_ble_eq_true rfl) (Nat.le_of_ble_eq_true rfl) ?_
    have hc := cf_b_t c107
    rw [hhas] at hc
    replace hc := of_decide_eq_true hc
    rw [if_pos hc] at hl k
    refine s_mod_digitOf (w.dN hN) ha (by omega) hd (p := r) (by omega) (zI_n r) ?_
    refine rp_iadd d_mod_integerPlace_118 ?_
    rw [show (48 : Int32) + nI (dg a ((z : Int) - d) r) = nI (48 + dg a ((z : Int) - d) r) from nI_add 48 _]
    refine rp_callV1 d_mod_integerPlace_119 q_mod_integerPlace_132 (Or.inl ⟨_, _, _, rfl, rfl⟩) (Nat.le_of_ble_eq_true rfl) (Nat.le_of_ble_eq_true rfl) ?_
    simp only [List.length_singleton] at hl
    refine s_mod_put w (by omega) (fun h2 w2 => ?_)
    refine rp_goto (tgt := 162) d_mod_integerPlace_122 (by decide) ?_
    refine rp_lv [(0, .ref 19), (1, .int (nI K)), (2, .int (nI r)), (4, .int (cf_b grp)), (6, .int (cf_b has))] rfl ?_
    refine t_mod_iP162 w2 hK hpl hr (by rw [List.length_append]; simp only [List.length_singleton]; omega) (fun h3 w3 => k h3 ?_)
    rw [← List.append_assoc]
    exact w3
set_option maxHeartbeats 4000000 in
set_option maxRecDepth 100000 in
theorem t_mod_iP85 {h0 h : cf_H} {P : Option Value → cf_H → Prop} {L : List Int32} (w : vT h0 L h) {a z d : Nat} (hN : rN h0 a z d) (ha : a < 10 ^ 16) (hz : z ≤ 500) (hd : d ≤ 40) {K : Nat} (hK : K < 40) {pl : Int32} (hpl : h0.2.2.2 23 K = pl) {r : Nat} (hr : r ≤ 40) {grp : Bool} {an : Bool} (han : an = (!decide (a = 0) && decide (0 ≤ tp a ((z : Int) - d)))) (hl : L.length + (wI2 a ((z : Int) - d) pl r grp).length ≤ 600) (k : ∀ h', vT h0 (L ++ wI2 a ((z : Int) - d) pl r grp) h' → P none h') : RP k_mod_integerPlace 85 [(0, .ref 19), (1, .int (nI K)), (2, .int (nI r)), (4, .int (cf_b grp)), (5, .int (cf_b an))] [] h P := by
  have hln := ln_le16 ha
  have htr : zR (tp a ((z : Int) - d)) := by unfold zR tp; split <;> omega
  refine rp_iload (i := 5) d_mod_integerPlace_85 rfl ?_
  refine rp_if_eq (tgt := 102) d_mod_integerPlace_87 (by decide) (fun c87 => ?_) (fun c87 => ?_)
  · refine rp_iconst (v := 0) d_mod_integerPlace_102 (by decide) ?_
    refine rp_istore (i := 6) d_mod_integerPlace_103 rfl (Nat.le_of_ble_eq_true rfl) ?_
    have hh : false = decide ((r : Int) ≤ tp a ((z : Int) - d)) := by
      replace c87 := cf_b_f c87
      rw [han] at c87
      have hn : ¬ (r : Int) ≤ tp a ((z : Int) - d) := fun q => by
        by_cases h0 : a = 0
        · rw [tp, if_pos h0] at q; omega
        · rw [decide_eq_false h0, decide_eq_true (by omega)] at c87; exact absurd c87 (by decide)
      exact (decide_eq_false hn).symm
    refine rp_lv [(0, .ref 19), (1, .int (nI K)), (2, .int (nI r)), (4, .int (cf_b grp)), (6, .int (cf_b false))] rfl ?_
    exact t_mod_iP105 w hN ha hz hd hK hpl hr hh hl k
  · refine rp_iload_n (i := 2) d_mod_integerPlace_90 rfl rfl ?_
    refine rp_aload_n (i := 0) d_mod_integerPlace_91 rfl rfl ?_
    refine rp_callV0 d_mod_integerPlace_92 q_mod_integerPlace_165 (Or.inl ⟨_, _, _, rfl, rfl⟩) (Nat.le_of_ble_eq_true rfl) (Nat.le_of_ble_eq_true rfl) ?_
    replace c87 := cf_b_t c87
    rw [han] at c87
    simp only [Bool.and_eq_true, Bool.not_eq_true', decide_eq_false_iff_not, decide_eq_true_eq] at c87
    refine s_mod_top (w.dN hN) ha ?_
    rw [show (ln a : Int) - 1 + z - d = tp a ((z : Int) - d) from by rw [tp, if_neg c87.1]; omega]
    refine rp_icmp_gt (tgt := 102) d_mod_integerPlace_95 (by decide) (fun c95 => ?_) (fun c95 => ?_)
    · refine rp_iconst (v := 0) d_mod_integerPlace_102 (by decide) ?_
      refine rp_istore (i := 6) d_mod_integerPlace_103 rfl (Nat.le_of_ble_eq_true rfl) ?_
      have hh : false = decide ((r : Int) ≤ tp a ((z : Int) - d)) := (decide_eq_false (by rw [zI_n, zI_lt htr (by unfold zR; omega)] at c95; omega)).symm
      refine rp_lv [(0, .ref 19), (1, .int (nI K)), (2, .int (nI r)), (4, .int (cf_b grp)), (6, .int (cf_b false))] rfl ?_
      exact t_mod_iP105 w hN ha hz hd hK hpl hr hh hl k
    · refine rp_iconst (v := 1) d_mod_integerPlace_98 (by decide) ?_
      refine rp_goto (tgt := 103) d_mod_integerPlace_99 (by decide) ?_
      refine rp_istore (i := 6) d_mod_integerPlace_103 rfl (Nat.le_of_ble_eq_true rfl) ?_
      have hh : true = decide ((r : Int) ≤ tp a ((z : Int) - d)) := (decide_eq_true (Int.not_lt.mp (fun q => c95 (by rw [zI_n]; exact (zI_lt htr (by unfold zR; omega)).mpr q)))).symm
      refine rp_lv [(0, .ref 19), (1, .int (nI K)), (2, .int (nI r)), (4, .int (cf_b grp)), (6, .int (cf_b true))] rfl ?_
      exact t_mod_iP105 w hN ha hz hd hK hpl hr hh hl k
set_option maxHeartbeats 4000000 in
set_option maxRecDepth 100000 in
theorem l_mod_iP {h0 : cf_H} {P : Option Value → cf_H → Prop} {a z d : Nat} (hN : rN h0 a z d) (ha : a < 10 ^ 16) (hz : z ≤ 500) (hd : d ≤ 40) {K r : Nat} (hr : r ≤ 40) {grp an : Bool} : ∀ (i : Nat) (g : Int) (h : cf_H) (L : List Int32), g ≤ r + i → (0 < i → g = r + i) → i ≤ 700 → -600 ≤ g → vT h0 L h → L.length + (ld a ((z : Int) - d) grp r i).length ≤ 600 → (k : ∀ h', vT h0 (L ++ ld a ((z : Int) - d) grp r i) h' → RP k_mod_integerPlace 85 [(0, .ref 19), (1, .int (nI K)), (2, .int (nI r)), (4, .int (cf_b grp)), (5, .int (cf_b an))] [] h' P) → RP k_mod_integerPlace 38 [(0, .ref 19), (1, .int (nI K)), (2, .int (nI r)), (3, .int 1), (4, .int (cf_b grp)), (5, .int (cf_b an)), (6, .int (zI g))] [] h P := by
  intro i
  induction i with
  | zero =>
    intro g h L hg hg2 hi hgl w hl k
    refine rp_iload_n (i := 3) d_mod_integerPlace_38 rfl rfl ?_
    refine rp_if_eq (tgt := 85) d_mod_integerPlace_39 (by decide) (fun c39 => ?_) (fun c39 => ?_)
    · exact absurd c39 (by decide)
    · refine rp_iload (i := 6) d_mod_integerPlace_42 rfl ?_
      refine rp_iload_n (i := 2) d_mod_integerPlace_44 rfl rfl ?_
      refine rp_icmp_le (tgt := 85) d_mod_integerPlace_45 (by decide) (fun c45 => ?_) (fun c45 => ?_)
      · refine rp_lv [(0, .ref 19), (1, .int (nI K)), (2, .int (nI r)), (4, .int (cf_b grp)), (5, .int (cf_b an))] rfl ?_
        refine k h ?_
        rw [ld, List.append_nil]
        exact w
      · exact absurd (by rw [zI_n]; exact (zI_le (by unfold zR; omega) (by unfold zR; omega)).mpr (by omega)) c45
  | succ i ih =>
    intro g h L hg hg2 hi hgl w hl k
    have hgg := hg2 (by omega)
    have hgn : g = ((r + i + 1 : Nat) : Int) := by omega
    subst hgn
    have e3 : zI ((r + i + 1 : Nat) : Int) - zI ((r + i + 1 : Nat) : Int) / 3 * 3 = nI ((r + i + 1) % 3) := by rw [← zI_n]; exact pk_rem (d := 3) (by omega) (by decide) (by decide)
    rw [ld, List.length_append, dgt, List.length_cons] at hl
    have fin : ∀ h3, vT h0 (L ++ dgt a ((z : Int) - d) (r + i + 1) grp) h3 → RP k_mod_integerPlace 38 [(0, .ref 19), (1, .int (nI K)), (2, .int (nI r)), (3, .int 1), (4, .int (cf_b grp)), (5, .int (cf_b an)), (6, .int (zI ((r + i : Nat) : Int)))] [] h3 P := fun h3 w3 => by
      refine ih (r + i : Nat) h3 _ (by omega) (by omega) (by omega) (by omega) w3 (by rw [List.length_append, dgt, List.length_cons]; omega) (fun h4 w4 => k h4 ?_)
      rw [ld, ← List.append_assoc]; exact w4
    have esub : zI ((r + i : Nat) : Int) = zI ((r + i + 1 : Nat) : Int) + (-1) := by rw [show (-1 : Int32) = zI (-1) from by decide, zI_add]; congr 1; omega
    refine rp_iload_n (i := 3) d_mod_integerPlace_38 rfl rfl ?_
    refine rp_if_eq (tgt := 85) d_mod_integerPlace_39 (by decide) (fun c39 => ?_) (fun c39 => ?_)
    · exact absurd c39 (by decide)
    · refine rp_iload (i := 6) d_mod_integerPlace_42 rfl ?_
      refine rp_iload_n (i := 2) d_mod_integerPlace_44 rfl rfl ?_
      refine rp_icmp_le (tgt := 85) d_mod_integerPlace_45 (by decide) (fun c45 => ?_) (fun c45 => ?_)
      · exact absurd (by rw [zI_n r] at c45; exact (zI_le (by unfold zR; omega) (by unfold zR; omega)).mp c45) (by omega)
      · refine rp_aload_n (i := 0) d_mod_integerPlace_48 rfl rfl ?_
        refine rp_bipush (v := 48) d_mod_integerPlace_49 (by decide) ?_
        refine rp_aload_n (i := 0) d_mod_integerPlace_51 rfl rfl ?_
        refine rp_iload (i := 6) d_mod_integerPlace_52 rfl ?_
        refine rp_callV1 d_mod_integerPlace_54 q_mod_integerPlace_169 (Or.inl ⟨_, _, _, rfl, rfl⟩) (Nat.le_of_ble_eq_true rfl) (Nat.le_of_ble_eq_true rfl) ?_
        refine s_mod_digitOf (w.dN hN) ha (by omega) hd (p := ((r + i + 1 : Nat) : Int)) (by omega) rfl ?_
        refine rp_iadd d_mod_integerPlace_57 ?_
        rw [show (48 : Int32) + nI (dg a ((z : Int) - d) ((r + i + 1 : Nat) : Int)) = nI (48 + dg a ((z : Int) - d) ((r + i + 1 : Nat) : Int)) from nI_add 48 _]
        refine rp_callV1 d_mod_integerPlace_58 q_mod_integerPlace_132 (Or.inl ⟨_, _, _, rfl, rfl⟩) (Nat.le_of_ble_eq_true rfl) (Nat.le_of_ble_eq_true rfl) ?_
        refine s_mod_put w (by omega) (fun h2 w2 => ?_)
        refine rp_iload (i := 4) d_mod_integerPlace_61 rfl ?_
        refine rp_if_eq (tgt := 79) d_mod_integerPlace_63 (by decide) (fun c63 => ?_) (fun c63 => ?_)
        · refine rp_iinc (i := 6) (y := (-1)) d_mod_integerPlace_79 rfl (by decide) rfl (Nat.le_of_ble_eq_true rfl) ?_
          refine rp_goto (tgt := 38) d_mod_integerPlace_82 (by decide) ?_
          refine rp_lv [(0, .ref 19), (1, .int (nI K)), (2, .int (nI r)), (3, .int 1), (4, .int (cf_b grp)), (5, .int (cf_b an)), (6, .int (zI ((r + i : Nat) : Int)))] (by rw [esub]; rfl) ?_
          have hc : ¬ (grp = true ∧ 0 < r + i + 1 ∧ (r + i + 1) % 3 = 0) := fun q => by rw [cf_b_f c63] at q; exact absurd q.1 (by decide)
          refine fin h2 ?_
          rw [dgt, if_neg hc]
          exact w2
        · refine rp_iload (i := 6) d_mod_integerPlace_66 rfl ?_
          refine rp_iconst (v := 3) d_mod_integerPlace_68 (by decide) ?_
          refine rp_irem d_mod_integerPlace_69 (by decide) ?_
          rw [e3]
          refine rp_if_ne (tgt := 79) d_mod_integerPlace_70 (by decide) (fun c70 => ?_) (fun c70 => ?_)
          · refine rp_iinc (i := 6) (y := (-1)) d_mod_integerPlace_79 rfl (by decide) rfl (Nat.le_of_ble_eq_true rfl) ?_
            refine rp_goto (tgt := 38) d_mod_integerPlace_82 (by decide) ?_
            refine rp_lv [(0, .ref 19), (1, .int (nI K)), (2, .int (nI r)), (3, .int 1), (4, .int (cf_b grp)), (5, .int (cf_b an)), (6, .int (zI ((r + i : Nat) : Int)))] (by rw [esub]; rfl) ?_
            have hc : ¬ (grp = true ∧ 0 < r + i + 1 ∧ (r + i + 1) % 3 = 0) := fun q => c70 ((z_eq (by omega)).mpr q.2.2)
            refine fin h2 ?_
            rw [dgt, if_neg hc]
            exact w2
          · refine rp_aload_n (i := 0) d_mod_integerPlace_73 rfl rfl ?_
            refine rp_bipush (v := 44) d_mod_integerPlace_74 (by decide) ?_
            refine rp_callV1 d_mod_integerPlace_76 q_mod_integerPlace_132 (Or.inl ⟨_, _, _, rfl, rfl⟩) (Nat.le_of_ble_eq_true rfl) (Nat.le_of_ble_eq_true rfl) ?_
            have hc : grp = true ∧ 0 < r + i + 1 ∧ (r + i + 1) % 3 = 0 := ⟨cf_b_t c63, by omega, (z_eq (by omega)).mp c70⟩
            rw [if_pos hc] at hl
            refine s_mod_put w2 (by rw [List.length_append]; simp at hl ⊢; omega) (fun h3 w3 => ?_)
            refine rp_iinc (i := 6) (y := (-1)) d_mod_integerPlace_79 rfl (by decide) rfl (Nat.le_of_ble_eq_true rfl) ?_
            refine rp_goto (tgt := 38) d_mod_integerPlace_82 (by decide) ?_
            refine rp_lv [(0, .ref 19), (1, .int (nI K)), (2, .int (nI r)), (3, .int 1), (4, .int (cf_b grp)), (5, .int (cf_b an)), (6, .int (zI ((r + i : Nat) : Int)))] (by rw [esub]; rfl) ?_
            refine fin h3 ?_
            rw [dgt, if_pos hc]
            rw [ap1 L []] at w3
            exact w3
set_option maxHeartbeats 4000000 in
set_option maxRecDepth 100000 in
theorem t_mod_iP38 {h0 h : cf_H} {P : Option Value → cf_H → Prop} {L : List Int32} (w : vT h0 L h) {a z d : Nat} (hN : rN h0 a z d) (ha : a < 10 ^ 16) (hz : z ≤ 500) (hd : d ≤ 40) {K : Nat} (hK : K < 40) {pl : Int32} (hpl : h0.2.2.2 23 K = pl) {r : Nat} (hr : r ≤ 40) {first grp : Bool} {an : Bool} (han : an = (!decide (a = 0) && decide (0 ≤ tp a ((z : Int) - d)))) {g : Int} (hg1 : an = true → g = tp a ((z : Int) - d)) (hg2 : an = false → g = -1) (hl : L.length + (wI a ((z : Int) - d) pl r first grp).length ≤ 600) (k : ∀ h', vT h0 (L ++ wI a ((z : Int) - d) pl r first grp) h' → P none h') : RP k_mod_integerPlace 38 [(0, .ref 19), (1, .int (nI K)), (2, .int (nI r)), (3, .int (cf_b first)), (4, .int (cf_b grp)), (5, .int (cf_b an)), (6, .int (zI g))] [] h P := by
  have hln := ln_le16 ha
  have htp : -600 ≤ tp a ((z : Int) - d) ∧ tp a ((z : Int) - d) ≤ 600 := by unfold tp; split <;> omega
  have hgr : g ≤ r + ((tp a ((z : Int) - d) - r).toNat : Int) ∧ (0 < (tp a ((z : Int) - d) - r).toNat → g = r + ((tp a ((z : Int) - d) - r).toNat : Int)) ∧ -600 ≤ g := by
    cases an with
    | true => rw [hg1 rfl]; omega
    | false =>
      rw [hg2 rfl]
      have : tp a ((z : Int) - d) < 0 := by
        by_cases h0 : a = 0
        · rw [tp, if_pos h0]; decide
        · rw [decide_eq_false h0] at han
          have := han.symm
          simp at this; omega
      omega
  rw [wI, List.length_append] at hl
  rw [wI] at k
  cases first with
  | true =>
    simp only [cond] at hl k
    refine l_mod_iP hN ha hz hd hr (tp a ((z : Int) - d) - r).toNat g h L hgr.1 hgr.2.1 (by omega) hgr.2.2 w (by omega) (fun h2 w2 => ?_)
    refine t_mod_iP85 w2 hN ha hz hd hK hpl hr han (by rw [List.length_append]; omega) (fun h3 w3 => k h3 ?_)
    rw [← List.append_assoc]; exact w3
  | false =>
    simp only [cond, List.nil_append, List.length_nil] at hl k
    refine rp_iload_n (i := 3) d_mod_integerPlace_38 rfl rfl ?_
    refine rp_if_eq (tgt := 85) d_mod_integerPlace_39 (by decide) (fun c39 => ?_) (fun c39 => ?_)
    · refine rp_lv [(0, .ref 19), (1, .int (nI K)), (2, .int (nI r)), (4, .int (cf_b grp)), (5, .int (cf_b an))] rfl ?_
      exact t_mod_iP85 w hN ha hz hd hK hpl hr han (by omega) k
    · exact absurd rfl c39
set_option maxHeartbeats 4000000 in
set_option maxRecDepth 100000 in
theorem s_mod_integerPlace {h0 h : cf_H} {P : Option Value → cf_H → Prop} {L : List Int32} (w : vT h0 L h) {a z d : Nat} (hN : rN h0 a z d) (ha : a < 10 ^ 16) (hz : z ≤ 500) (hd : d ≤ 40) {K : Nat} (hK : K < 40) {pl : Int32} (hpl : h0.2.2.2 23 K = pl) {r : Nat} (hr : r ≤ 40) {first grp : Bool} {x1 x2 x3 x4 : Int32} (e1 : x1 = nI K) (e2 : x2 = nI r) (e3 : x3 = cf_b first) (e4 : x4 = cf_b grp) (hl : L.length + (wI a ((z : Int) - d) pl r first grp).length ≤ 600) (k : ∀ h', vT h0 (L ++ wI a ((z : Int) - d) pl r first grp) h' → P none h') : RP k_mod_integerPlace 0 [(0, .ref 19), (1, .int x1), (2, .int x2), (3, .int x3), (4, .int x4)] [] h P := by
  subst e1; subst e2; subst e3; subst e4
  have hln := ln_le16 ha
  have h16 := l16
  have htr : a ≠ 0 → zR ((ln a : Int) - 1 + z - d) := fun _ => by unfold zR; omega
  have htq : a ≠ 0 → (ln a : Int) - 1 + z - d = tp a ((z : Int) - d) := fun h0 => by rw [tp, if_neg h0]; omega
  refine rp_aload_n (i := 0) d_mod_integerPlace_0 rfl rfl ?_
  refine rp_getJ d_mod_integerPlace_1 f_mod_148 rfl ?_
  rw [(w.dN hN).1]
  refine rp_lconst (v := 0) d_mod_integerPlace_4 (by decide) ?_
  refine rp_lcmp d_mod_integerPlace_5 ?_
  refine rp_if_le (tgt := 20) d_mod_integerPlace_6 (by decide) (fun c6 => ?_) (fun c6 => ?_)
  · refine rp_iconst (v := 0) d_mod_integerPlace_20 (by decide) ?_
    refine rp_istore (i := 5) d_mod_integerPlace_21 rfl (Nat.le_of_ble_eq_true rfl) ?_
    refine rp_iload (i := 5) d_mod_integerPlace_23 rfl ?_
    refine rp_if_eq (tgt := 35) d_mod_integerPlace_25 (by decide) (fun c25 => ?_) (fun c25 => ?_)
    · refine rp_iconst (v := (-1)) d_mod_integerPlace_35 (by decide) ?_
      refine rp_istore (i := 6) d_mod_integerPlace_36 rfl (Nat.le_of_ble_eq_true rfl) ?_
      have ha0 : a = 0 := by
        rw [lg_cmp_le, show (0 : Int64) = lN 0 from rfl, pk_lLE (by omega) (by decide)] at c6; omega
      refine rp_lv [(0, .ref 19), (1, .int (nI K)), (2, .int (nI r)), (3, .int (cf_b first)), (4, .int (cf_b grp)), (5, .int (cf_b false)), (6, .int (zI (-1)))] rfl ?_
      exact t_mod_iP38 w hN ha hz hd hK hpl hr (an := false) (by rw [decide_eq_true ha0]; rfl) (fun q => absurd q (by decide)) (fun _ => rfl) hl k
    · exact absurd (by decide) c25
  · refine rp_aload_n (i := 0) d_mod_integerPlace_9 rfl rfl ?_
    refine rp_callV0 d_mod_integerPlace_10 q_mod_integerPlace_165 (Or.inl ⟨_, _, _, rfl, rfl⟩) (Nat.le_of_ble_eq_true rfl) (Nat.le_of_ble_eq_true rfl) ?_
    have ha0 : a ≠ 0 := fun q => c6 (by rw [q]; decide)
    refine s_mod_top (w.dN hN) ha ?_
    refine rp_if_lt (tgt := 20) d_mod_integerPlace_13 (by decide) (fun c13 => ?_) (fun c13 => ?_)
    · refine rp_iconst (v := 0) d_mod_integerPlace_20 (by decide) ?_
      refine rp_istore (i := 5) d_mod_integerPlace_21 rfl (Nat.le_of_ble_eq_true rfl) ?_
      refine rp_iload (i := 5) d_mod_integerPlace_23 rfl ?_
      refine rp_if_eq (tgt := 35) d_mod_integerPlace_25 (by decide) (fun c25 => ?_) (fun c25 => ?_)
      · refine rp_iconst (v := (-1)) d_mod_integerPlace_35 (by decide) ?_
        refine rp_istore (i := 6) d_mod_integerPlace_36 rfl (Nat.le_of_ble_eq_true rfl) ?_
        replace c13 : tp a ((z : Int) - d) < 0 := by rw [← htq ha0]; exact (zI_lt (b := 0) (htr ha0) zR0).mp c13
        refine rp_lv [(0, .ref 19), (1, .int (nI K)), (2, .int (nI r)), (3, .int (cf_b first)), (4, .int (cf_b grp)), (5, .int (cf_b false)), (6, .int (zI (-1)))] rfl ?_
        exact t_mod_iP38 w hN ha hz hd hK hpl hr (an := false) (by rw [decide_eq_false (show ¬ 0 ≤ tp a ((z : Int) - d) by omega), Bool.and_false]) (fun q => absurd q (by decide)) (fun _ => rfl) hl k
      · exact absurd (by decide) c25
    · refine rp_iconst (v := 1) d_mod_integerPlace_16 (by decide) ?_
      refine rp_goto (tgt := 21) d_mod_integerPlace_17 (by decide) ?_
      refine rp_istore (i := 5) d_mod_integerPlace_21 rfl (Nat.le_of_ble_eq_true rfl) ?_
      refine rp_iload (i := 5) d_mod_integerPlace_23 rfl ?_
      refine rp_if_eq (tgt := 35) d_mod_integerPlace_25 (by decide) (fun c25 => ?_) (fun c25 => ?_)
      · exact absurd c25 (by decide)
      · refine rp_aload_n (i := 0) d_mod_integerPlace_28 rfl rfl ?_
        refine rp_callV0 d_mod_integerPlace_29 q_mod_integerPlace_165 (Or.inl ⟨_, _, _, rfl, rfl⟩) (Nat.le_of_ble_eq_true rfl) (Nat.le_of_ble_eq_true rfl) ?_
        refine s_mod_top (w.dN hN) ha ?_
        refine rp_goto (tgt := 36) d_mod_integerPlace_32 (by decide) ?_
        refine rp_istore (i := 6) d_mod_integerPlace_36 rfl (Nat.le_of_ble_eq_true rfl) ?_
        replace c13 : ¬ tp a ((z : Int) - d) < 0 := fun q => c13 ((zI_lt (b := 0) (htr ha0) zR0).mpr (by rw [htq ha0]; exact q))
        refine rp_lv [(0, .ref 19), (1, .int (nI K)), (2, .int (nI r)), (3, .int (cf_b first)), (4, .int (cf_b grp)), (5, .int (cf_b true)), (6, .int (zI (tp a ((z : Int) - d))))] (by rw [← htq ha0]; rfl) ?_
        exact t_mod_iP38 w hN ha hz hd hK hpl hr (an := true) (by rw [decide_eq_false ha0, decide_eq_true (Int.not_lt.mp c13)]; rfl) (fun _ => rfl) (fun q => absurd q (by decide)) hl k
set_option maxHeartbeats 4000000 in
set_option maxRecDepth 100000 in
theorem l_mod_fP {h0 h : cf_H} {P : Option Value → cf_H → Prop} {L : List Int32} (w : vT h0 L h) {a z d : Nat} (hN : rN h0 a z d) (ha : a < 10 ^ 16) (hz : z ≤ 500) (hd : d ≤ 40) {K n : Nat} : ∀ (m i : Nat) (b : Bool), i + m = d + 1 → (k : RP k_mod_fractionPlace 40 [(0, .ref 19), (1, .int (nI K)), (2, .int (nI n)), (3, .int (cf_b (b || x_any (fz a ((z : Int) - d)) i m)))] [] h P) → RP k_mod_fractionPlace 5 [(0, .ref 19), (1, .int (nI K)), (2, .int (nI n)), (3, .int (cf_b b)), (4, .int (nI i))] [] h P := by
  intro m
  induction m with
  | zero =>
    intro i b e k
    have e : i = d + 1 := e
    subst e
    rw [show x_any (fz a ((z : Int) - d)) (d + 1) 0 = false from rfl, Bool.or_false] at k
    refine rp_iload (i := 4) d_mod_fractionPlace_5 rfl ?_
    refine rp_aload_n (i := 0) d_mod_fractionPlace_7 rfl rfl ?_
    refine rp_getI d_mod_fractionPlace_8 f_mod_142 rfl ?_
    rw [(w.dN hN).2.2]
    refine rp_icmp_gt (tgt := 40) d_mod_fractionPlace_11 (by decide) (fun c11 => ?_) (fun c11 => ?_)
    · refine rp_lv [(0, .ref 19), (1, .int (nI K)), (2, .int (nI n)), (3, .int (cf_b b))] rfl ?_
      exact k
    · exact absurd (nI_lt (by omega) (by omega)) c11
  | succ m ih =>
    intro i b e k
    rw [x_any_S] at k
    have hd10 := dg_lt a ((z : Int) - d) (-(i : Int))
    refine rp_iload (i := 4) d_mod_fractionPlace_5 rfl ?_
    refine rp_aload_n (i := 0) d_mod_fractionPlace_7 rfl rfl ?_
    refine rp_getI d_mod_fractionPlace_8 f_mod_142 rfl ?_
    rw [(w.dN hN).2.2]
    refine rp_icmp_gt (tgt := 40) d_mod_fractionPlace_11 (by decide) (fun c11 => ?_) (fun c11 => ?_)
    · exact absurd c11 (nI_nlt (by omega) (by omega))
    · refine rp_iload_n (i := 3) d_mod_fractionPlace_14 rfl rfl ?_
      refine rp_if_ne (tgt := 28) d_mod_fractionPlace_15 (by decide) (fun c15 => ?_) (fun c15 => ?_)
      · refine rp_iconst (v := 1) d_mod_fractionPlace_28 (by decide) ?_
        refine rp_goto (tgt := 33) d_mod_fractionPlace_29 (by decide) ?_
        refine rp_istore_n (i := 3) d_mod_fractionPlace_33 rfl rfl (Nat.le_of_ble_eq_true rfl) ?_
        refine rp_iinc (i := 4) (y := 1) d_mod_fractionPlace_34 rfl (by decide) rfl (Nat.le_of_ble_eq_true rfl) ?_
        refine rp_goto (tgt := 5) d_mod_fractionPlace_37 (by decide) ?_
        replace c15 := cf_b_t c15
        subst c15
        rw [Bool.true_or] at k
        refine rp_lv [(0, .ref 19), (1, .int (nI K)), (2, .int (nI n)), (3, .int (cf_b true)), (4, .int (nI (i + 1)))] (by simp only [← nI_1]; rfl) ?_
        exact ih (i + 1) true (by omega) (by rw [Bool.true_or]; exact k)
      · refine rp_aload_n (i := 0) d_mod_fractionPlace_18 rfl rfl ?_
        refine rp_iload (i := 4) d_mod_fractionPlace_19 rfl ?_
        refine rp_ineg d_mod_fractionPlace_21 ?_
        refine rp_callV1 d_mod_fractionPlace_22 q_mod_fractionPlace_169 (Or.inl ⟨_, _, _, rfl, rfl⟩) (Nat.le_of_ble_eq_true rfl) (Nat.le_of_ble_eq_true rfl) ?_
        refine s_mod_digitOf (w.dN hN) ha (by omega) hd (p := -(i : Int)) (by omega) (by rw [zI_n, zI_neg]) ?_
        refine rp_if_eq (tgt := 32) d_mod_fractionPlace_25 (by decide) (fun c25 => ?_) (fun c25 => ?_)
        · refine rp_iconst (v := 0) d_mod_fractionPlace_32 (by decide) ?_
          refine rp_istore_n (i := 3) d_mod_fractionPlace_33 rfl rfl (Nat.le_of_ble_eq_true rfl) ?_
          refine rp_iinc (i := 4) (y := 1) d_mod_fractionPlace_34 rfl (by decide) rfl (Nat.le_of_ble_eq_true rfl) ?_
          refine rp_goto (tgt := 5) d_mod_fractionPlace_37 (by decide) ?_
          replace c15 := cf_b_f c15
          subst c15
          rw [z_eq (by omega)] at c25
          rw [show fz a ((z : Int) - d) i = false from by simp [fz, c25], Bool.false_or] at k
          refine rp_lv [(0, .ref 19), (1, .int (nI K)), (2, .int (nI n)), (3, .int (cf_b false)), (4, .int (nI (i + 1)))] (by simp only [← nI_1]; rfl) ?_
          exact ih (i + 1) false (by omega) (by rw [Bool.false_or] at k ⊢; exact k)
        · refine rp_iconst (v := 1) d_mod_fractionPlace_28 (by decide) ?_
          refine rp_goto (tgt := 33) d_mod_fractionPlace_29 (by decide) ?_
          refine rp_istore_n (i := 3) d_mod_fractionPlace_33 rfl rfl (Nat.le_of_ble_eq_true rfl) ?_
          refine rp_iinc (i := 4) (y := 1) d_mod_fractionPlace_34 rfl (by decide) rfl (Nat.le_of_ble_eq_true rfl) ?_
          refine rp_goto (tgt := 5) d_mod_fractionPlace_37 (by decide) ?_
          replace c15 := cf_b_f c15
          subst c15
          rw [z_eq (by omega)] at c25
          rw [show fz a ((z : Int) - d) i = true from by simp [fz, c25], Bool.false_or] at k
          refine rp_lv [(0, .ref 19), (1, .int (nI K)), (2, .int (nI n)), (3, .int (cf_b true)), (4, .int (nI (i + 1)))] (by simp only [← nI_1]; rfl) ?_
          exact ih (i + 1) true (by omega) (by rw [Bool.true_or] at k ⊢; exact k)
set_option maxHeartbeats 4000000 in
set_option maxRecDepth 100000 in
theorem s_mod_fractionPlace {h0 h : cf_H} {P : Option Value → cf_H → Prop} {L : List Int32} (w : vT h0 L h) {a z d : Nat} (hN : rN h0 a z d) (ha : a < 10 ^ 16) (hz : z ≤ 500) (hd : d ≤ 40) {K : Nat} (hK : K < 40) {pl : Int32} (hpl : h0.2.2.2 23 K = pl) {n : Nat} (hn : n ≤ d + 1) {x1 x2 : Int32} (e1 : x1 = nI K) (e2 : x2 = nI n) (hl : L.length + (wF a ((z : Int) - d) d n pl).length ≤ 600) (k : ∀ h', vT h0 (L ++ wF a ((z : Int) - d) d n pl) h' → P none h') : RP k_mod_fractionPlace 0 [(0, .ref 19), (1, .int x1), (2, .int x2)] [] h P := by
  subst e1; subst e2
  have hR := w.ok
  have hpl' : h.2.2.2 23 K = pl := by rw [w.2.1.2.2.2 23 (by decide)]; exact hpl
  refine rp_iconst (v := 0) d_mod_fractionPlace_0 (by decide) ?_
  refine rp_istore_n (i := 3) d_mod_fractionPlace_1 rfl rfl (Nat.le_of_ble_eq_true rfl) ?_
  refine rp_iload_n (i := 2) d_mod_fractionPlace_2 rfl rfl ?_
  refine rp_istore (i := 4) d_mod_fractionPlace_3 rfl (Nat.le_of_ble_eq_true rfl) ?_
  refine rp_lv [(0, .ref 19), (1, .int (nI K)), (2, .int (nI n)), (3, .int (cf_b false)), (4, .int (nI n))] rfl ?_
  refine l_mod_fP w hN ha hz hd (d + 1 - n) n false (by omega) ?_
  rw [Bool.false_or]
  refine rp_iload_n (i := 3) d_mod_fractionPlace_40 rfl rfl ?_
  refine rp_if_ne (tgt := 55) d_mod_fractionPlace_41 (by decide) (fun c41 => ?_) (fun c41 => ?_)
  · refine rp_aload_n (i := 0) d_mod_fractionPlace_55 rfl rfl ?_
    refine rp_bipush (v := 48) d_mod_fractionPlace_56 (by decide) ?_
    refine rp_aload_n (i := 0) d_mod_fractionPlace_58 rfl rfl ?_
    refine rp_iload_n (i := 2) d_mod_fractionPlace_59 rfl rfl ?_
    refine rp_ineg d_mod_fractionPlace_60 ?_
    refine rp_callV1 d_mod_fractionPlace_61 q_mod_fractionPlace_169 (Or.inl ⟨_, _, _, rfl, rfl⟩) (Nat.le_of_ble_eq_true rfl) (Nat.le_of_ble_eq_true rfl) ?_
    have hc : pl = 48 ∨ x_any (fz a ((z : Int) - d)) n (d + 1 - n) = true := Or.inr (cf_b_t c41)
    rw [wF, if_pos hc] at hl k
    refine s_mod_digitOf (w.dN hN) ha (by omega) hd (p := -(n : Int)) (by omega) (by rw [zI_n, zI_neg]) ?_
    refine rp_iadd d_mod_fractionPlace_64 ?_
    rw [show (48 : Int32) + nI (dg a ((z : Int) - d) (-(n : Int))) = nI (48 + dg a ((z : Int) - d) (-(n : Int))) from nI_add 48 _]
    refine rp_callV1 d_mod_fractionPlace_65 q_mod_fractionPlace_132 (Or.inl ⟨_, _, _, rfl, rfl⟩) (Nat.le_of_ble_eq_true rfl) (Nat.le_of_ble_eq_true rfl) ?_
    refine s_mod_put w (by simp at hl; omega) (fun h2 w2 => ?_)
    refine rp_goto (tgt := 88) d_mod_fractionPlace_68 (by decide) ?_
    refine rp_return d_mod_fractionPlace_88 rfl ?_
    exact k h2 w2
  · refine rp_aload_n (i := 0) d_mod_fractionPlace_44 rfl rfl ?_
    refine rp_getR d_mod_fractionPlace_45 f_mod_19 rfl (hR _ _ _ rfl) ?_
    refine rp_iload_n (i := 1) d_mod_fractionPlace_48 rfl rfl ?_
    refine rp_iaload d_mod_fractionPlace_49 rfl (vp_in_nI hK (by decide)) ?_
    rw [nI_clamp (by omega), hpl']
    refine rp_bipush (v := 48) d_mod_fractionPlace_50 (by decide) ?_
    refine rp_icmp_ne (tgt := 71) d_mod_fractionPlace_52 (by decide) (fun c52 => ?_) (fun c52 => ?_)
    · refine rp_aload_n (i := 0) d_mod_fractionPlace_71 rfl rfl ?_
      refine rp_getR d_mod_fractionPlace_72 f_mod_19 rfl (hR _ _ _ rfl) ?_
      refine rp_iload_n (i := 1) d_mod_fractionPlace_75 rfl rfl ?_
      refine rp_iaload d_mod_fractionPlace_76 rfl (vp_in_nI hK (by decide)) ?_
      rw [nI_clamp (by omega), hpl']
      refine rp_bipush (v := 63) d_mod_fractionPlace_77 (by decide) ?_
      refine rp_icmp_ne (tgt := 88) d_mod_fractionPlace_79 (by decide) (fun c79 => ?_) (fun c79 => ?_)
      · refine rp_return d_mod_fractionPlace_88 rfl ?_
        have hc : ¬ (pl = 48 ∨ x_any (fz a ((z : Int) - d)) n (d + 1 - n) = true) := fun q => q.elim c52 (fun q => by have := cf_b_f c41; rw [q] at this; exact absurd this (by decide))
        rw [wF, if_neg hc, if_neg c79] at k
        refine k h ?_
        rw [List.append_nil]
        exact w
      · refine rp_aload_n (i := 0) d_mod_fractionPlace_82 rfl rfl ?_
        refine rp_bipush (v := 32) d_mod_fractionPlace_83 (by decide) ?_
        refine rp_callV1 d_mod_fractionPlace_85 q_mod_fractionPlace_132 (Or.inl ⟨_, _, _, rfl, rfl⟩) (Nat.le_of_ble_eq_true rfl) (Nat.le_of_ble_eq_true rfl) ?_
        have hc : ¬ (pl = 48 ∨ x_any (fz a ((z : Int) - d)) n (d + 1 - n) = true) := fun q => q.elim c52 (fun q => by have := cf_b_f c41; rw [q] at this; exact absurd this (by decide))
        rw [wF, if_neg hc, if_pos c79] at hl k
        refine s_mod_put w (by simp at hl; omega) (fun h2 w2 => ?_)
        refine rp_return d_mod_fractionPlace_88 rfl ?_
        exact k h2 w2
    · refine rp_aload_n (i := 0) d_mod_fractionPlace_55 rfl rfl ?_
      refine rp_bipush (v := 48) d_mod_fractionPlace_56 (by decide) ?_
      refine rp_aload_n (i := 0) d_mod_fractionPlace_58 rfl rfl ?_
      refine rp_iload_n (i := 2) d_mod_fractionPlace_59 rfl rfl ?_
      refine rp_ineg d_mod_fractionPlace_60 ?_
      refine rp_callV1 d_mod_fractionPlace_61 q_mod_fractionPlace_169 (Or.inl ⟨_, _, _, rfl, rfl⟩) (Nat.le_of_ble_eq_true rfl) (Nat.le_of_ble_eq_true rfl) ?_
      have hc : pl = 48 ∨ x_any (fz a ((z : Int) - d)) n (d + 1 - n) = true := Or.inl c52
      rw [wF, if_pos hc] at hl k
      refine s_mod_digitOf (w.dN hN) ha (by omega) hd (p := -(n : Int)) (by omega) (by rw [zI_n, zI_neg]) ?_
      refine rp_iadd d_mod_fractionPlace_64 ?_
      rw [show (48 : Int32) + nI (dg a ((z : Int) - d) (-(n : Int))) = nI (48 + dg a ((z : Int) - d) (-(n : Int))) from nI_add 48 _]
      refine rp_callV1 d_mod_fractionPlace_65 q_mod_fractionPlace_132 (Or.inl ⟨_, _, _, rfl, rfl⟩) (Nat.le_of_ble_eq_true rfl) (Nat.le_of_ble_eq_true rfl) ?_
      refine s_mod_put w (by simp at hl; omega) (fun h2 w2 => ?_)
      refine rp_goto (tgt := 88) d_mod_fractionPlace_68 (by decide) ?_
      refine rp_return d_mod_fractionPlace_88 rfl ?_
      exact k h2 w2
def ej (e r : Nat) : Nat := min r (ln e)
theorem ex_same : ∀ e, e < 100 → ∀ r, r < 41 → (if 10 ≤ e / 10 ^ ej e r then pn (e / 10 ^ ej e r / 10) 1 else []) = ld e 0 false r (tp e 0 - r).toNat ∧ (decide (10 ^ ej e r ≤ e) = decide ((r : Int) ≤ tp e 0)) ∧ (10 ^ ej e r ≤ e → e / 10 ^ ej e r % 10 = dg e 0 r) := by decide +kernel
theorem ln_100 {e : Nat} (h : e < 100) : ln e ≤ 2 := by
  have h3 := (ln_sp (n := e) (Nat.lt_trans h (by decide))).2.2
  apply Nat.not_lt.mp; intro z
  have := h3 2 z; omega

set_option maxHeartbeats 4000000 in
set_option maxRecDepth 100000 in
theorem l_mod_eP {h : cf_H} {P : Option Value → cf_H → Prop} {K r e : Nat} (hr : r ≤ 40) (he : e < 100) {first : Bool} (k : RP k_mod_exponentPlace 53 [(0, .ref 19), (1, .int (nI K)), (2, .int (nI r)), (3, .int (cf_b first)), (4, .int (nI e)), (5, .int (nI (10 ^ ej e r)))] [] h P) : ∀ (m i : Nat), i + m = ej e r → RP k_mod_exponentPlace 27 [(0, .ref 19), (1, .int (nI K)), (2, .int (nI r)), (3, .int (cf_b first)), (4, .int (nI e)), (5, .int (nI (10 ^ i))), (6, .int (nI i))] [] h P := by
  obtain ⟨l1, l2, l3⟩ := ln_sp (n := e) (Nat.lt_trans he (by decide))
  have l4 := ln_100 he
  intro m
  induction m with
  | zero =>
    intro i ei
    have ei : i = ej e r := ei
    have h100 : 10 ^ i ≤ 10 ^ 2 := Nat.pow_le_pow_right (by decide) (by unfold ej at ei; omega)
    have hex : r ≤ i ∨ e < 10 ^ i := by
      by_cases q : r ≤ ln e
      · exact Or.inl (by unfold ej at ei; omega)
      · refine Or.inr ?_; rw [show i = ln e by unfold ej at ei; omega]; exact l2
    refine rp_iload (i := 6) d_mod_exponentPlace_27 rfl ?_
    refine rp_iload_n (i := 2) d_mod_exponentPlace_29 rfl rfl ?_
    refine rp_icmp_ge (tgt := 53) d_mod_exponentPlace_30 (by decide) (fun c30 => ?_) (fun c30 => ?_)
    · refine rp_lv [(0, .ref 19), (1, .int (nI K)), (2, .int (nI r)), (3, .int (cf_b first)), (4, .int (nI e)), (5, .int (nI (10 ^ ej e r)))] (by rw [← ei]; rfl) ?_
      exact k
    · refine rp_iload (i := 5) d_mod_exponentPlace_33 rfl ?_
      refine rp_iload (i := 4) d_mod_exponentPlace_35 rfl ?_
      refine rp_icmp_gt (tgt := 53) d_mod_exponentPlace_37 (by decide) (fun c37 => ?_) (fun c37 => ?_)
      · refine rp_lv [(0, .ref 19), (1, .int (nI K)), (2, .int (nI r)), (3, .int (cf_b first)), (4, .int (nI e)), (5, .int (nI (10 ^ ej e r)))] (by rw [← ei]; rfl) ?_
        exact k
      · exact absurd hex (fun q => q.elim (fun q => c30 (nI_le q (by unfold ej at ei; omega))) (fun q => c37 (nI_lt q (by omega))))
  | succ m ih =>
    intro i ei
    have hi2 : i ≤ 1 := by unfold ej at ei; omega
    have h100 : 10 ^ i ≤ 10 ^ 2 := Nat.pow_le_pow_right (by decide) (by omega)
    have hle := l3 i (by unfold ej at ei; omega)
    refine rp_iload (i := 6) d_mod_exponentPlace_27 rfl ?_
    refine rp_iload_n (i := 2) d_mod_exponentPlace_29 rfl rfl ?_
    refine rp_icmp_ge (tgt := 53) d_mod_exponentPlace_30 (by decide) (fun c30 => ?_) (fun c30 => ?_)
    · exact absurd c30 (nI_ge (by unfold ej at ei; omega) (by omega))
    · refine rp_iload (i := 5) d_mod_exponentPlace_33 rfl ?_
      refine rp_iload (i := 4) d_mod_exponentPlace_35 rfl ?_
      refine rp_icmp_gt (tgt := 53) d_mod_exponentPlace_37 (by decide) (fun c37 => ?_) (fun c37 => ?_)
      · exact absurd c37 (nI_nlt hle (by omega))
      · refine rp_iload (i := 5) d_mod_exponentPlace_40 rfl ?_
        refine rp_bipush (v := 10) d_mod_exponentPlace_42 (by decide) ?_
        refine rp_imul d_mod_exponentPlace_44 ?_
        rw [show nI (10 ^ i) * 10 = nI (10 ^ i * 10) from pk_mul _ 10, ← Nat.pow_succ]
        refine rp_istore (i := 5) d_mod_exponentPlace_45 rfl (Nat.le_of_ble_eq_true rfl) ?_
        refine rp_iinc (i := 6) (y := 1) d_mod_exponentPlace_47 rfl (by decide) rfl (Nat.le_of_ble_eq_true rfl) ?_
        refine rp_goto (tgt := 27) d_mod_exponentPlace_50 (by decide) ?_
        refine rp_lv [(0, .ref 19), (1, .int (nI K)), (2, .int (nI r)), (3, .int (cf_b first)), (4, .int (nI e)), (5, .int (nI (10 ^ (i + 1)))), (6, .int (nI (i + 1)))] (by simp only [← nI_1]; rfl) ?_
        exact ih (i + 1) (by omega)
set_option maxHeartbeats 4000000 in
set_option maxRecDepth 100000 in
theorem t_mod_eP95 {h0 h : cf_H} {P : Option Value → cf_H → Prop} {L : List Int32} (w : vT h0 L h) {K : Nat} (hK : K < 40) {pl : Int32} (hpl : h0.2.2.2 23 K = pl) {r e : Nat} (hr : r ≤ 40) (he : e < 100) {has : Bool} (hh : has = decide (10 ^ ej e r ≤ e)) (hl : L.length + (wI2 e 0 pl r false).length ≤ 600) (k : ∀ h', vT h0 (L ++ wI2 e 0 pl r false) h' → P none h') : RP k_mod_exponentPlace 95 [(0, .ref 19), (1, .int (nI K)), (4, .int (nI e)), (5, .int (nI (10 ^ ej e r))), (6, .int (cf_b has))] [] h P := by
  have hR := w.ok
  have hpl' : h.2.2.2 23 K = pl := by rw [w.2.1.2.2.2 23 (by decide)]; exact hpl
  obtain ⟨x1, x2, x3⟩ := ex_same e he r (by omega)
  have l4 := ln_100 he
  have h100 : 10 ^ ej e r ≤ 10 ^ 2 := Nat.pow_le_pow_right (by decide) (by unfold ej; omega)
  rw [wI2_eq (Nat.lt_trans he (by decide)), cma_g, List.append_nil] at hl k
  rw [x2] at hh
  refine rp_iload (i := 6) d_mod_exponentPlace_95 rfl ?_
  refine rp_if_eq (tgt := 118) d_mod_exponentPlace_97 (by decide) (fun c97 => ?_) (fun c97 => ?_)
  · refine rp_aload_n (i := 0) d_mod_exponentPlace_118 rfl rfl ?_
    refine rp_getR d_mod_exponentPlace_119 f_mod_19 rfl (hR _ _ _ rfl) ?_
    refine rp_iload_n (i := 1) d_mod_exponentPlace_122 rfl rfl ?_
    refine rp_iaload d_mod_exponentPlace_123 rfl (vp_in_nI hK (by decide)) ?_
    rw [nI_clamp (by omega), hpl']
    refine rp_bipush (v := 48) d_mod_exponentPlace_124 (by decide) ?_
    refine rp_icmp_ne (tgt := 138) d_mod_exponentPlace_126 (by decide) (fun c126 => ?_) (fun c126 => ?_)
    · refine rp_aload_n (i := 0) d_mod_exponentPlace_138 rfl rfl ?_
      refine rp_getR d_mod_exponentPlace_139 f_mod_19 rfl (hR _ _ _ rfl) ?_
      refine rp_iload_n (i := 1) d_mod_exponentPlace_142 rfl rfl ?_
      refine rp_iaload d_mod_exponentPlace_143 rfl (vp_in_nI hK (by decide)) ?_
      rw [nI_clamp (by omega), hpl']
      refine rp_bipush (v := 63) d_mod_exponentPlace_144 (by decide) ?_
      refine rp_icmp_ne (tgt := 155) d_mod_exponentPlace_146 (by decide) (fun c146 => ?_) (fun c146 => ?_)
      · refine rp_return d_mod_exponentPlace_155 rfl ?_
        have hc := cf_b_f c97
        rw [hh] at hc
        rw [if_neg (of_decide_eq_false hc), if_neg c126, if_neg c146, List.append_nil] at k
        exact k h w
      · refine rp_aload_n (i := 0) d_mod_exponentPlace_149 rfl rfl ?_
        refine rp_bipush (v := 32) d_mod_exponentPlace_150 (by decide) ?_
        refine rp_callV1 d_mod_exponentPlace_152 q_mod_exponentPlace_132 (Or.inl ⟨_, _, _, rfl, rfl⟩) (Nat.le_of_ble_eq_true rfl) (Nat.le_of_ble_eq_true rfl) ?_
        have hc := cf_b_f c97
        rw [hh] at hc
        rw [if_neg (of_decide_eq_false hc), if_neg c126, if_pos c146] at hl k
        refine s_mod_put w (by simp at hl; omega) (fun h2 w2 => ?_)
        refine rp_return d_mod_exponentPlace_155 rfl ?_
        exact k h2 w2
    · refine rp_aload_n (i := 0) d_mod_exponentPlace_129 rfl rfl ?_
      refine rp_bipush (v := 48) d_mod_exponentPlace_130 (by decide) ?_
      refine rp_callV1 d_mod_exponentPlace_132 q_mod_exponentPlace_132 (Or.inl ⟨_, _, _, rfl, rfl⟩) (Nat.le_of_ble_eq_true rfl) (Nat.le_of_ble_eq_true rfl) ?_
      have hc := cf_b_f c97
      rw [hh] at hc
      rw [if_neg (of_decide_eq_false hc), if_pos c126] at hl k
      refine s_mod_put w (by simp at hl; omega) (fun h2 w2 => ?_)
      refine rp_goto (tgt := 155) d_mod_exponentPlace_135 (by decide) ?_
      refine rp_return d_mod_exponentPlace_155 rfl ?_
      exact k h2 w2
  · refine rp_aload_n (i := 0) d_mod_exponentPlace_100 rfl rfl ?_
    refine rp_bipush (v := 48) d_mod_exponentPlace_101 (by decide) ?_
    refine rp_iload (i := 4) d_mod_exponentPlace_103 rfl ?_
    refine rp_iload (i := 5) d_mod_exponentPlace_105 rfl ?_
    refine rp_idiv d_mod_exponentPlace_107 (fun q => by rw [z_eq (by omega)] at q; have := ten0 (ej e r); omega) ?_
    rw [pk_div (by omega) (ten0 _) (by omega)]
    refine rp_bipush (v := 10) d_mod_exponentPlace_108 (by decide) ?_
    refine rp_irem d_mod_exponentPlace_110 (by decide) ?_
    have hdl : e / 10 ^ ej e r ≤ e := Nat.div_le_self _ _
    rw [show nI (e / 10 ^ ej e r) - nI (e / 10 ^ ej e r) / 10 * 10 = nI (e / 10 ^ ej e r % 10) from pk_rem (d := 10) (by omega) (by decide) (by decide)]
    refine rp_iadd d_mod_exponentPlace_111 ?_
    rw [show (48 : Int32) + nI (e / 10 ^ ej e r % 10) = nI (48 + e / 10 ^ ej e r % 10) from nI_add 48 _]
    refine rp_callV1 d_mod_exponentPlace_112 q_mod_exponentPlace_132 (Or.inl ⟨_, _, _, rfl, rfl⟩) (Nat.le_of_ble_eq_true rfl) (Nat.le_of_ble_eq_true rfl) ?_
    have hc := cf_b_t c97
    rw [hh] at hc
    rw [← x2] at hc
    rw [if_pos (by rw [x2] at hc; exact of_decide_eq_true hc), ← x3 (of_decide_eq_true hc)] at hl k
    refine s_mod_put w (by simp at hl; omega) (fun h2 w2 => ?_)
    refine rp_goto (tgt := 155) d_mod_exponentPlace_115 (by decide) ?_
    refine rp_return d_mod_exponentPlace_155 rfl ?_
    exact k h2 w2
set_option maxHeartbeats 4000000 in
set_option maxRecDepth 100000 in
theorem t_mod_eP53 {h0 h : cf_H} {P : Option Value → cf_H → Prop} {L : List Int32} (w : vT h0 L h) {K : Nat} (hK : K < 40) {pl : Int32} (hpl : h0.2.2.2 23 K = pl) {r e : Nat} (hr : r ≤ 40) (he : e < 100) {first : Bool} (hl : L.length + ((bif first then ld e 0 false r (tp e 0 - r).toNat else []).length + (wI2 e 0 pl r false).length) ≤ 600) (k : ∀ h', vT h0 (L ++ ((bif first then ld e 0 false r (tp e 0 - r).toNat else []) ++ wI2 e 0 pl r false)) h' → P none h') : RP k_mod_exponentPlace 53 [(0, .ref 19), (1, .int (nI K)), (2, .int (nI r)), (3, .int (cf_b first)), (4, .int (nI e)), (5, .int (nI (10 ^ ej e r)))] [] h P := by
  obtain ⟨x1, x2, x3⟩ := ex_same e he r (by omega)
  have l4 := ln_100 he
  have h100 : 10 ^ ej e r ≤ 10 ^ 2 := Nat.pow_le_pow_right (by decide) (by unfold ej; omega)
  have hdl : e / 10 ^ ej e r ≤ e := Nat.div_le_self _ _
  rw [← x1] at hl k
  refine rp_iload (i := 5) d_mod_exponentPlace_53 rfl ?_
  refine rp_iload (i := 4) d_mod_exponentPlace_55 rfl ?_
  refine rp_icmp_gt (tgt := 64) d_mod_exponentPlace_57 (by decide) (fun c57 => ?_) (fun c57 => ?_)
  · refine rp_iconst (v := 0) d_mod_exponentPlace_64 (by decide) ?_
    refine rp_istore (i := 6) d_mod_exponentPlace_65 rfl (Nat.le_of_ble_eq_true rfl) ?_
    refine rp_iload_n (i := 3) d_mod_exponentPlace_67 rfl rfl ?_
    refine rp_if_eq (tgt := 95) d_mod_exponentPlace_68 (by decide) (fun c68 => ?_) (fun c68 => ?_)
    · refine rp_lv [(0, .ref 19), (1, .int (nI K)), (4, .int (nI e)), (5, .int (nI (10 ^ ej e r))), (6, .int (cf_b false))] rfl ?_
      replace c68 := cf_b_f c68
      subst c68
      simp only [cond, List.nil_append, List.length_nil] at hl k
      refine t_mod_eP95 w hK hpl hr he (has := false) (decide_eq_false (Nat.not_le.mpr ((nI_ltI (by omega) (by omega)).mp c57))).symm (by omega) k
    · refine rp_iload (i := 4) d_mod_exponentPlace_71 rfl ?_
      refine rp_iload (i := 5) d_mod_exponentPlace_73 rfl ?_
      refine rp_idiv d_mod_exponentPlace_75 (fun q => by rw [z_eq (by omega)] at q; have := ten0 (ej e r); omega) ?_
      rw [pk_div (by omega) (ten0 _) (by omega)]
      refine rp_bipush (v := 10) d_mod_exponentPlace_76 (by decide) ?_
      refine rp_icmp_lt (tgt := 95) d_mod_exponentPlace_78 (by decide) (fun c78 => ?_) (fun c78 => ?_)
      · refine rp_lv [(0, .ref 19), (1, .int (nI K)), (4, .int (nI e)), (5, .int (nI (10 ^ ej e r))), (6, .int (cf_b false))] rfl ?_
        replace c68 := cf_b_t c68
        subst c68
        replace c78 : ¬ 10 ≤ e / 10 ^ ej e r := Nat.not_le.mpr ((nI_ltI (b := 10) (by omega) (by decide)).mp c78)
        simp only [cond, if_neg c78, List.nil_append, List.length_nil] at hl k
        refine t_mod_eP95 w hK hpl hr he (has := false) (decide_eq_false (Nat.not_le.mpr ((nI_ltI (by omega) (by omega)).mp c57))).symm (by omega) k
      · refine rp_aload_n (i := 0) d_mod_exponentPlace_81 rfl rfl ?_
        refine rp_iload (i := 4) d_mod_exponentPlace_82 rfl ?_
        refine rp_iload (i := 5) d_mod_exponentPlace_84 rfl ?_
        refine rp_idiv d_mod_exponentPlace_86 (fun q => by rw [z_eq (by omega)] at q; have := ten0 (ej e r); omega) ?_
        rw [pk_div (by omega) (ten0 _) (by omega)]
        refine rp_bipush (v := 10) d_mod_exponentPlace_87 (by decide) ?_
        refine rp_idiv d_mod_exponentPlace_89 (by decide) ?_
        rw [show nI (e / 10 ^ ej e r) / 10 = nI (e / 10 ^ ej e r / 10) from pk_div (d := 10) (by omega) (by decide) (by decide)]
        refine rp_i2l d_mod_exponentPlace_90 ?_
        rw [nI_l (by omega)]
        refine rp_iconst (v := 1) d_mod_exponentPlace_91 (by decide) ?_
        refine rp_callV2 d_mod_exponentPlace_92 q_mod_exponentPlace_172 (Or.inl ⟨_, _, _, rfl, rfl⟩) (Nat.le_of_ble_eq_true rfl) (Nat.le_of_ble_eq_true rfl) ?_
        replace c68 := cf_b_t c68
        subst c68
        replace c78 : 10 ≤ e / 10 ^ ej e r := Nat.not_lt.mp (fun q => c78 (nI_lt (b := 10) q (by decide)))
        simp only [cond, if_pos c78] at hl k
        refine s_mod_putNumber w rfl (d := 1) rfl (Nat.lt_of_le_of_lt (Nat.le_trans (Nat.div_le_self _ _) hdl) (Nat.lt_trans he (by decide))) (by decide) (by omega) (fun h2 w2 => ?_)
        refine rp_lv [(0, .ref 19), (1, .int (nI K)), (4, .int (nI e)), (5, .int (nI (10 ^ ej e r))), (6, .int (cf_b false))] rfl ?_
        refine t_mod_eP95 w2 hK hpl hr he (has := false) (decide_eq_false (Nat.not_le.mpr ((nI_ltI (by omega) (by omega)).mp c57))).symm (by rw [List.length_append]; omega) (fun h3 w3 => k h3 ?_)
        rw [← List.append_assoc]
        exact w3
  · refine rp_iconst (v := 1) d_mod_exponentPlace_60 (by decide) ?_
    refine rp_goto (tgt := 65) d_mod_exponentPlace_61 (by decide) ?_
    refine rp_istore (i := 6) d_mod_exponentPlace_65 rfl (Nat.le_of_ble_eq_true rfl) ?_
    refine rp_iload_n (i := 3) d_mod_exponentPlace_67 rfl rfl ?_
    refine rp_if_eq (tgt := 95) d_mod_exponentPlace_68 (by decide) (fun c68 => ?_) (fun c68 => ?_)
    · refine rp_lv [(0, .ref 19), (1, .int (nI K)), (4, .int (nI e)), (5, .int (nI (10 ^ ej e r))), (6, .int (cf_b true))] rfl ?_
      replace c68 := cf_b_f c68
      subst c68
      simp only [cond, List.nil_append, List.length_nil] at hl k
      refine t_mod_eP95 w hK hpl hr he (has := true) (decide_eq_true (Nat.not_lt.mp (fun q => c57 (nI_lt q (by omega))))).symm (by omega) k
    · refine rp_iload (i := 4) d_mod_exponentPlace_71 rfl ?_
      refine rp_iload (i := 5) d_mod_exponentPlace_73 rfl ?_
      refine rp_idiv d_mod_exponentPlace_75 (fun q => by rw [z_eq (by omega)] at q; have := ten0 (ej e r); omega) ?_
      rw [pk_div (by omega) (ten0 _) (by omega)]
      refine rp_bipush (v := 10) d_mod_exponentPlace_76 (by decide) ?_
      refine rp_icmp_lt (tgt := 95) d_mod_exponentPlace_78 (by decide) (fun c78 => ?_) (fun c78 => ?_)
      · refine rp_lv [(0, .ref 19), (1, .int (nI K)), (4, .int (nI e)), (5, .int (nI (10 ^ ej e r))), (6, .int (cf_b true))] rfl ?_
        replace c68 := cf_b_t c68
        subst c68
        replace c78 : ¬ 10 ≤ e / 10 ^ ej e r := Nat.not_le.mpr ((nI_ltI (b := 10) (by omega) (by decide)).mp c78)
        simp only [cond, if_neg c78, List.nil_append, List.length_nil] at hl k
        refine t_mod_eP95 w hK hpl hr he (has := true) (decide_eq_true (Nat.not_lt.mp (fun q => c57 (nI_lt q (by omega))))).symm (by omega) k
      · refine rp_aload_n (i := 0) d_mod_exponentPlace_81 rfl rfl ?_
        refine rp_iload (i := 4) d_mod_exponentPlace_82 rfl ?_
        refine rp_iload (i := 5) d_mod_exponentPlace_84 rfl ?_
        refine rp_idiv d_mod_exponentPlace_86 (fun q => by rw [z_eq (by omega)] at q; have := ten0 (ej e r); omega) ?_
        rw [pk_div (by omega) (ten0 _) (by omega)]
        refine rp_bipush (v := 10) d_mod_exponentPlace_87 (by decide) ?_
        refine rp_idiv d_mod_exponentPlace_89 (by decide) ?_
        rw [show nI (e / 10 ^ ej e r) / 10 = nI (e / 10 ^ ej e r / 10) from pk_div (d := 10) (by omega) (by decide) (by decide)]
        refine rp_i2l d_mod_exponentPlace_90 ?_
        rw [nI_l (by omega)]
        refine rp_iconst (v := 1) d_mod_exponentPlace_91 (by decide) ?_
        refine rp_callV2 d_mod_exponentPlace_92 q_mod_exponentPlace_172 (Or.inl ⟨_, _, _, rfl, rfl⟩) (Nat.le_of_ble_eq_true rfl) (Nat.le_of_ble_eq_true rfl) ?_
        replace c68 := cf_b_t c68
        subst c68
        replace c78 : 10 ≤ e / 10 ^ ej e r := Nat.not_lt.mp (fun q => c78 (nI_lt (b := 10) q (by decide)))
        simp only [cond, if_pos c78] at hl k
        refine s_mod_putNumber w rfl (d := 1) rfl (Nat.lt_of_le_of_lt (Nat.le_trans (Nat.div_le_self _ _) hdl) (Nat.lt_trans he (by decide))) (by decide) (by omega) (fun h2 w2 => ?_)
        refine rp_lv [(0, .ref 19), (1, .int (nI K)), (4, .int (nI e)), (5, .int (nI (10 ^ ej e r))), (6, .int (cf_b true))] rfl ?_
        refine t_mod_eP95 w2 hK hpl hr he (has := true) (decide_eq_true (Nat.not_lt.mp (fun q => c57 (nI_lt q (by omega))))).symm (by rw [List.length_append]; omega) (fun h3 w3 => k h3 ?_)
        rw [← List.append_assoc]
        exact w3
set_option maxHeartbeats 4000000 in
set_option maxRecDepth 100000 in
theorem s_mod_exponentPlace {h0 h : cf_H} {P : Option Value → cf_H → Prop} {L : List Int32} (w : vT h0 L h) {K : Nat} (hK : K < 40) {pl : Int32} (hpl : h0.2.2.2 23 K = pl) {r : Nat} {E : Int} (hr : r ≤ 40) (hE : -99 ≤ E ∧ E ≤ 99) (h20 : h0.1 19 20 = zI E) {first : Bool} {x1 x2 x3 : Int32} (e1 : x1 = nI K) (e2 : x2 = nI r) (e3 : x3 = cf_b first) (hl : L.length + (wI E.natAbs 0 pl r first false).length ≤ 600) (k : ∀ h', vT h0 (L ++ wI E.natAbs 0 pl r first false) h' → P none h') : RP k_mod_exponentPlace 0 [(0, .ref 19), (1, .int x1), (2, .int x2), (3, .int x3)] [] h P := by
  subst e1; subst e2; subst e3
  have h20' : h.1 19 20 = zI E := (w.2.1.1 19 20 (by decide)).trans h20
  have hEr : zR E := by unfold zR; omega
  have he : E.natAbs < 100 := by omega
  obtain ⟨x1, x2, x3⟩ := ex_same E.natAbs he r (by omega)
  have l4 := ln_100 he
  have h100 : 10 ^ ej E.natAbs r ≤ 10 ^ 2 := Nat.pow_le_pow_right (by decide) (by unfold ej; omega)
  rw [wI, List.length_append] at hl
  rw [wI] at k
  refine rp_aload_n (i := 0) d_mod_exponentPlace_0 rfl rfl ?_
  refine rp_getI d_mod_exponentPlace_1 f_mod_158 rfl ?_
  rw [h20']
  refine rp_if_ge (tgt := 15) d_mod_exponentPlace_4 (by decide) (fun c4 => ?_) (fun c4 => ?_)
  · refine rp_aload_n (i := 0) d_mod_exponentPlace_15 rfl rfl ?_
    refine rp_getI d_mod_exponentPlace_16 f_mod_158 rfl ?_
    rw [h20']
    refine rp_istore (i := 4) d_mod_exponentPlace_19 rfl (Nat.le_of_ble_eq_true rfl) ?_
    refine rp_iconst (v := 1) d_mod_exponentPlace_21 (by decide) ?_
    refine rp_istore (i := 5) d_mod_exponentPlace_22 rfl (Nat.le_of_ble_eq_true rfl) ?_
    refine rp_iconst (v := 0) d_mod_exponentPlace_24 (by decide) ?_
    refine rp_istore (i := 6) d_mod_exponentPlace_25 rfl (Nat.le_of_ble_eq_true rfl) ?_
    have hab : nI E.natAbs = zI E := by rw [zI_n]; congr 1; have := (zI_le (a := 0) zR0 hEr).mp c4; omega
    refine rp_lv [(0, .ref 19), (1, .int (nI K)), (2, .int (nI r)), (3, .int (cf_b first)), (4, .int (nI E.natAbs)), (5, .int (nI (10 ^ 0))), (6, .int (nI 0))] (by rw [hab]; rfl) ?_
    generalize E.natAbs = e at he x1 x2 x3 l4 h100 hl k ⊢
    exact l_mod_eP hr he (t_mod_eP53 w hK hpl hr he hl k) (ej e r) 0 (by omega)
  · refine rp_aload_n (i := 0) d_mod_exponentPlace_7 rfl rfl ?_
    refine rp_getI d_mod_exponentPlace_8 f_mod_158 rfl ?_
    rw [h20']
    refine rp_ineg d_mod_exponentPlace_11 ?_
    refine rp_goto (tgt := 19) d_mod_exponentPlace_12 (by decide) ?_
    refine rp_istore (i := 4) d_mod_exponentPlace_19 rfl (Nat.le_of_ble_eq_true rfl) ?_
    refine rp_iconst (v := 1) d_mod_exponentPlace_21 (by decide) ?_
    refine rp_istore (i := 5) d_mod_exponentPlace_22 rfl (Nat.le_of_ble_eq_true rfl) ?_
    refine rp_iconst (v := 0) d_mod_exponentPlace_24 (by decide) ?_
    refine rp_istore (i := 6) d_mod_exponentPlace_25 rfl (Nat.le_of_ble_eq_true rfl) ?_
    have hab : nI E.natAbs = -zI E := by rw [zI_n, zI_neg]; congr 1; have := Int.not_le.mp (fun q => c4 ((zI_le (a := 0) zR0 hEr).mpr q)); omega
    refine rp_lv [(0, .ref 19), (1, .int (nI K)), (2, .int (nI r)), (3, .int (cf_b first)), (4, .int (nI E.natAbs)), (5, .int (nI (10 ^ 0))), (6, .int (nI 0))] (by rw [hab]; rfl) ?_
    generalize E.natAbs = e at he x1 x2 x3 l4 h100 hl k ⊢
    exact l_mod_eP hr he (t_mod_eP53 w hK hpl hr he hl k) (ej e r) 0 (by omega)
