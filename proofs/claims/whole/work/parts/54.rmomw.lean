/-! MOMENTS: the reference's moment -/
set_option maxHeartbeats 4000000 in
set_option maxRecDepth 100000 in
theorem l_mod_mom1 {h0 h : cf_H} {P : Option Value → cf_H → Prop} {L : List Int32} (w : vT h0 L h) {s a b D S : Nat} (hs : r_sec h0 s a b) : ∀ (n i : Nat) (g : Bool), i + n = b → a ≤ i → (k : RP k_mod_moment 103 [(0, .ref 19), (1, .int (nI s)), (4, .long (lN D)), (6, .int (nI S)), (7, .int (cf_b (g || x_any (rDy (h0.2.2.2 22) (h0.2.2.2 23) (h0.2.2.2 24) a b) i n)))] [] h P) → RP k_mod_moment 62 [(0, .ref 19), (1, .int (nI s)), (4, .long (lN D)), (6, .int (nI S)), (7, .int (cf_b g)), (8, .int (nI i))] [] h P := by
  intro n
  induction n with
  | zero =>
    intro i g e ha k
    have e : i = b := e
    obtain ⟨s1, s2, s3, s4, s5⟩ := id hs
    have hR := w.ok
    have hs1 := w.sec hs
    have e22 := w.2.1.2.2.2 22 (by decide)
    have e23 := w.2.1.2.2.2 23 (by decide)
    have e24 := w.2.1.2.2.2 24 (by decide)
    refine rp_iload (i := 8) d_mod_moment_62 rfl ?_
    refine rp_aload_n (i := 0) d_mod_moment_64 rfl rfl ?_
    refine rp_getR d_mod_moment_65 f_mod_25 rfl (hR _ _ _ rfl) ?_
    refine rp_iload_n (i := 1) d_mod_moment_68 rfl rfl ?_
    refine rp_iconst (v := 1) d_mod_moment_69 (by decide) ?_
    refine rp_iadd d_mod_moment_70 ?_
    refine rp_iaload d_mod_moment_71 rfl (by rw [nI_1]; exact vp_in_nI (by omega) (by decide)) ?_
    rw [r_s1 hs1]
    refine rp_icmp_ge (tgt := 103) d_mod_moment_72 (by decide) (fun c72 => ?_) (fun c72 => ?_)
    · rw [show x_any (rDy (h0.2.2.2 22) (h0.2.2.2 23) (h0.2.2.2 24) a b) i 0 = false from rfl, Bool.or_false] at k
      refine rp_lv [(0, .ref 19), (1, .int (nI s)), (4, .long (lN D)), (6, .int (nI S)), (7, .int (cf_b g))] rfl ?_
      exact k
    · exact absurd (by rw [e]; exact Int32.le_refl _) c72
  | succ n ih =>
    intro i g e ha k
    obtain ⟨s1, s2, s3, s4, s5⟩ := id hs
    have hR := w.ok
    have hs1 := w.sec hs
    have e22 := w.2.1.2.2.2 22 (by decide)
    have e23 := w.2.1.2.2.2 23 (by decide)
    have e24 := w.2.1.2.2.2 24 (by decide)
    refine rp_iload (i := 8) d_mod_moment_62 rfl ?_
    refine rp_aload_n (i := 0) d_mod_moment_64 rfl rfl ?_
    refine rp_getR d_mod_moment_65 f_mod_25 rfl (hR _ _ _ rfl) ?_
    refine rp_iload_n (i := 1) d_mod_moment_68 rfl rfl ?_
    refine rp_iconst (v := 1) d_mod_moment_69 (by decide) ?_
    refine rp_iadd d_mod_moment_70 ?_
    refine rp_iaload d_mod_moment_71 rfl (by rw [nI_1]; exact vp_in_nI (by omega) (by decide)) ?_
    rw [r_s1 hs1]
    refine rp_icmp_ge (tgt := 103) d_mod_moment_72 (by decide) (fun c72 => ?_) (fun c72 => ?_)
    · exact absurd c72 (nI_ge (by omega) (by omega))
    · refine rp_iload (i := 7) d_mod_moment_75 rfl ?_
      refine rp_if_ne (tgt := 90) d_mod_moment_77 (by decide) (fun c77 => ?_) (fun c77 => ?_)
      · refine rp_iconst (v := 1) d_mod_moment_90 (by decide) ?_
        refine rp_goto (tgt := 95) d_mod_moment_91 (by decide) ?_
        refine rp_istore (i := 7) d_mod_moment_95 rfl (Nat.le_of_ble_eq_true rfl) ?_
        refine rp_iinc (i := 8) (y := 1) d_mod_moment_97 rfl (by decide) rfl (Nat.le_of_ble_eq_true rfl) ?_
        refine rp_goto (tgt := 62) d_mod_moment_100 (by decide) ?_
        have eg : (g || (rDy (h0.2.2.2 22) (h0.2.2.2 23) (h0.2.2.2 24) a b) i) = true := by rw [cf_b_t c77]; rfl
        rw [x_any_S, ← Bool.or_assoc, eg] at k
        refine rp_lv [(0, .ref 19), (1, .int (nI s)), (4, .long (lN D)), (6, .int (nI S)), (7, .int (cf_b true)), (8, .int (nI (i + 1)))] (by rw [← nI_1]; rfl) ?_
        exact ih (i + 1) true (by omega) (by omega) k
      · refine rp_aload_n (i := 0) d_mod_moment_80 rfl rfl ?_
        refine rp_iload_n (i := 1) d_mod_moment_81 rfl rfl ?_
        refine rp_iload (i := 8) d_mod_moment_82 rfl ?_
        refine rp_callV2 d_mod_moment_84 q_mod_moment_233 (Or.inl ⟨_, _, _, rfl, rfl⟩) (Nat.le_of_ble_eq_true rfl) (Nat.le_of_ble_eq_true rfl) ?_
        refine s_mod_daily hR hs1 ha (by omega) rfl rfl ?_
        rw [e22, e23, e24]
        refine rp_if_eq (tgt := 94) d_mod_moment_87 (by decide) (fun c87 => ?_) (fun c87 => ?_)
        · refine rp_iconst (v := 0) d_mod_moment_94 (by decide) ?_
          refine rp_istore (i := 7) d_mod_moment_95 rfl (Nat.le_of_ble_eq_true rfl) ?_
          refine rp_iinc (i := 8) (y := 1) d_mod_moment_97 rfl (by decide) rfl (Nat.le_of_ble_eq_true rfl) ?_
          refine rp_goto (tgt := 62) d_mod_moment_100 (by decide) ?_
          have eg : (g || (rDy (h0.2.2.2 22) (h0.2.2.2 23) (h0.2.2.2 24) a b) i) = false := by rw [cf_b_f c77, cf_b_f c87]; rfl
          rw [x_any_S, ← Bool.or_assoc, eg] at k
          refine rp_lv [(0, .ref 19), (1, .int (nI s)), (4, .long (lN D)), (6, .int (nI S)), (7, .int (cf_b false)), (8, .int (nI (i + 1)))] (by rw [← nI_1]; rfl) ?_
          exact ih (i + 1) false (by omega) (by omega) k
        · refine rp_iconst (v := 1) d_mod_moment_90 (by decide) ?_
          refine rp_goto (tgt := 95) d_mod_moment_91 (by decide) ?_
          refine rp_istore (i := 7) d_mod_moment_95 rfl (Nat.le_of_ble_eq_true rfl) ?_
          refine rp_iinc (i := 8) (y := 1) d_mod_moment_97 rfl (by decide) rfl (Nat.le_of_ble_eq_true rfl) ?_
          refine rp_goto (tgt := 62) d_mod_moment_100 (by decide) ?_
          have eg : (g || (rDy (h0.2.2.2 22) (h0.2.2.2 23) (h0.2.2.2 24) a b) i) = true := by rw [cf_b_t c87]; exact Bool.or_true _
          rw [x_any_S, ← Bool.or_assoc, eg] at k
          refine rp_lv [(0, .ref 19), (1, .int (nI s)), (4, .long (lN D)), (6, .int (nI S)), (7, .int (cf_b true)), (8, .int (nI (i + 1)))] (by rw [← nI_1]; rfl) ?_
          exact ih (i + 1) true (by omega) (by omega) k
set_option maxHeartbeats 4000000 in
set_option maxRecDepth 100000 in
theorem l_mod_mom2 {h0 : cf_H} {P : Option Value → cf_H → Prop} {s a b D S y m dd : Nat} (hs : r_sec h0 s a b) {c : Bool} (hc : h0.1 19 9 = cf_b c) (hD : D ≤ k_hi c) (hS : S < 86400) (hO : ∀ j, a ≤ j → j < b → h0.2.2.2 22 j = 1 → lOk (h0.2.2.2 23 j) (h0.2.2.2 24 j)) (hR4 : ∀ j, a ≤ j → j < b → rFd (h0.2.2.2 22) j = true → ∃ r, h0.2.2.2 24 j = nI r ∧ r ≤ 4) (hq : ∀ j, a ≤ j → j < b → (rDy (h0.2.2.2 22) (h0.2.2.2 23) (h0.2.2.2 24) a b) j = true → k_lo c ≤ D ∧ q_day c D y m dd) : ∀ (n i : Nat) (h : cf_H) (L : List Int32), i + n = b → a ≤ i → vT h0 L h → L.length + (fl (rMt D S y m dd (k_wd c D) (h0.2.2.2 22) (h0.2.2.2 23) (h0.2.2.2 24) (h0.2.2.2 21) a b) i n).length ≤ 600 → (k : ∀ h', vT h0 (L ++ fl (rMt D S y m dd (k_wd c D) (h0.2.2.2 22) (h0.2.2.2 23) (h0.2.2.2 24) (h0.2.2.2 21) a b) i n) h' → P (some (.int 1)) h') → RP k_mod_moment 140 [(0, .ref 19), (1, .int (nI s)), (4, .long (lN D)), (6, .int (nI S)), (8, .int (nI i))] [] h P := by
  have hhi : k_hi c < 2 ^ 24 := by cases c <;> decide
  intro n
  induction n with
  | zero =>
    intro i h L e ha w hl k
    have e : i = b := e
    obtain ⟨s1, s2, s3, s4, s5⟩ := id hs
    have hR := w.ok
    have hs1 := w.sec hs
    have e22 := w.2.1.2.2.2 22 (by decide)
    have e23 := w.2.1.2.2.2 23 (by decide)
    have e24 := w.2.1.2.2.2 24 (by decide)
    refine rp_iload (i := 8) d_mod_moment_140 rfl ?_
    refine rp_aload_n (i := 0) d_mod_moment_142 rfl rfl ?_
    refine rp_getR d_mod_moment_143 f_mod_25 rfl (hR _ _ _ rfl) ?_
    refine rp_iload_n (i := 1) d_mod_moment_146 rfl rfl ?_
    refine rp_iconst (v := 1) d_mod_moment_147 (by decide) ?_
    refine rp_iadd d_mod_moment_148 ?_
    refine rp_iaload d_mod_moment_149 rfl (by rw [nI_1]; exact vp_in_nI (by omega) (by decide)) ?_
    rw [r_s1 hs1]
    refine rp_icmp_ge (tgt := 230) d_mod_moment_150 (by decide) (fun c150 => ?_) (fun c150 => ?_)
    · refine rp_iconst (v := 1) d_mod_moment_230 (by decide) ?_
      refine rp_ireturn (ty := .boolean) d_mod_moment_231 rfl (by first | rfl | decide | assumption) ?_
      refine k h ?_
      show vT h0 (L ++ []) h
      rw [List.append_nil]; exact w
    · exact absurd (by rw [e]; exact Int32.le_refl _) c150
  | succ n ih =>
    intro i h L e ha w hl k
    obtain ⟨s1, s2, s3, s4, s5⟩ := id hs
    have hR := w.ok
    have hs1 := w.sec hs
    have e22 := w.2.1.2.2.2 22 (by decide)
    have e23 := w.2.1.2.2.2 23 (by decide)
    have e24 := w.2.1.2.2.2 24 (by decide)
    refine rp_iload (i := 8) d_mod_moment_140 rfl ?_
    refine rp_aload_n (i := 0) d_mod_moment_142 rfl rfl ?_
    refine rp_getR d_mod_moment_143 f_mod_25 rfl (hR _ _ _ rfl) ?_
    refine rp_iload_n (i := 1) d_mod_moment_146 rfl rfl ?_
    refine rp_iconst (v := 1) d_mod_moment_147 (by decide) ?_
    refine rp_iadd d_mod_moment_148 ?_
    refine rp_iaload d_mod_moment_149 rfl (by rw [nI_1]; exact vp_in_nI (by omega) (by decide)) ?_
    rw [r_s1 hs1]
    refine rp_icmp_ge (tgt := 230) d_mod_moment_150 (by decide) (fun c150 => ?_) (fun c150 => ?_)
    · exact absurd c150 (nI_ge (by omega) (by omega))
    · refine rp_aload_n (i := 0) d_mod_moment_153 rfl rfl ?_
      refine rp_getR d_mod_moment_154 f_mod_16 rfl (hR _ _ _ rfl) ?_
      refine rp_iload (i := 8) d_mod_moment_157 rfl ?_
      refine rp_iaload d_mod_moment_159 rfl (vp_in_nI (by omega) (by decide)) ?_
      rw [e22, nI_clamp (by omega)]
      refine rp_iconst (v := 1) d_mod_moment_160 (by decide) ?_
      refine rp_icmp_ne (tgt := 173) d_mod_moment_161 (by decide) (fun c161 => ?_) (fun c161 => ?_)
      · refine rp_aload_n (i := 0) d_mod_moment_173 rfl rfl ?_
        refine rp_iload (i := 8) d_mod_moment_174 rfl ?_
        refine rp_callV1 d_mod_moment_176 q_mod_moment_209 (Or.inl ⟨_, _, _, rfl, rfl⟩) (Nat.le_of_ble_eq_true rfl) (Nat.le_of_ble_eq_true rfl) ?_
        refine s_mod_field hR (by omega) rfl ?_
        rw [e22]
        refine rp_if_eq (tgt := 204) d_mod_moment_179 (by decide) (fun c179 => ?_) (fun c179 => ?_)
        · refine rp_aload_n (i := 0) d_mod_moment_204 rfl rfl ?_
          refine rp_iload (i := 8) d_mod_moment_205 rfl ?_
          refine rp_callV1 d_mod_moment_207 q_mod_moment_209 (Or.inl ⟨_, _, _, rfl, rfl⟩) (Nat.le_of_ble_eq_true rfl) (Nat.le_of_ble_eq_true rfl) ?_
          refine s_mod_field hR (by omega) rfl ?_
          rw [e22]
          refine rp_if_eq (tgt := 224) d_mod_moment_210 (by decide) (fun c210 => ?_) (fun c210 => ?_)
          · refine rp_iinc (i := 8) (y := 1) d_mod_moment_224 rfl (by decide) rfl (Nat.le_of_ble_eq_true rfl) ?_
            refine rp_goto (tgt := 140) d_mod_moment_227 (by decide) ?_
            have ec : (rMt D S y m dd (k_wd c D) (h0.2.2.2 22) (h0.2.2.2 23) (h0.2.2.2 24) (h0.2.2.2 21) a b) i = [] := by unfold rMt; rw [if_neg c161, if_neg (fun q => by rw [q.1] at c210; exact absurd c210 (by decide)), if_neg (fun q => by rw [q] at c210; exact absurd c210 (by decide))]
            rw [fl_S, ec, List.nil_append] at hl k
            refine rp_lv [(0, .ref 19), (1, .int (nI s)), (4, .long (lN D)), (6, .int (nI S)), (8, .int (nI (i + 1)))] (by rw [← nI_1]; rfl) ?_
            exact ih (i + 1) h L (by omega) (by omega) w hl k
          · exact absurd c179 c210
        · refine rp_aload_n (i := 0) d_mod_moment_182 rfl rfl ?_
          refine rp_iload_n (i := 1) d_mod_moment_183 rfl rfl ?_
          refine rp_iload (i := 8) d_mod_moment_184 rfl ?_
          refine rp_callV2 d_mod_moment_186 q_mod_moment_233 (Or.inl ⟨_, _, _, rfl, rfl⟩) (Nat.le_of_ble_eq_true rfl) (Nat.le_of_ble_eq_true rfl) ?_
          refine s_mod_daily hR hs1 ha (by omega) rfl rfl ?_
          rw [e22, e23, e24]
          refine rp_if_eq (tgt := 204) d_mod_moment_189 (by decide) (fun c189 => ?_) (fun c189 => ?_)
          · refine rp_aload_n (i := 0) d_mod_moment_204 rfl rfl ?_
            refine rp_iload (i := 8) d_mod_moment_205 rfl ?_
            refine rp_callV1 d_mod_moment_207 q_mod_moment_209 (Or.inl ⟨_, _, _, rfl, rfl⟩) (Nat.le_of_ble_eq_true rfl) (Nat.le_of_ble_eq_true rfl) ?_
            refine s_mod_field hR (by omega) rfl ?_
            rw [e22]
            refine rp_if_eq (tgt := 224) d_mod_moment_210 (by decide) (fun c210 => ?_) (fun c210 => ?_)
            · exact absurd c210 c179
            · refine rp_aload_n (i := 0) d_mod_moment_213 rfl rfl ?_
              refine rp_iload_n (i := 1) d_mod_moment_214 rfl rfl ?_
              refine rp_iload (i := 8) d_mod_moment_215 rfl ?_
              refine rp_lload (i := 4) d_mod_moment_217 rfl ?_
              refine rp_iload (i := 6) d_mod_moment_219 rfl ?_
              refine rp_callV4 d_mod_moment_221 q_mod_moment_239 (Or.inl ⟨_, _, _, rfl, rfl⟩) (Nat.le_of_ble_eq_true rfl) (Nat.le_of_ble_eq_true rfl) ?_
              obtain ⟨r, r1, r2⟩ := hR4 i ha (by omega) (cf_b_t c210)
              have ec : (rMt D S y m dd (k_wd c D) (h0.2.2.2 22) (h0.2.2.2 23) (h0.2.2.2 24) (h0.2.2.2 21) a b) i = tFt (h0.2.2.2 22 i) (h0.2.2.2 23 i) r (!decide (r_ct (h0.2.2.2 22) 10 a b = 0)) D S := by unfold rMt; rw [if_neg c161, if_neg (fun q => by rw [q.2] at c189; exact absurd c189 (by decide)), if_pos (cf_b_t c210), r1, nI_clamp (by omega)]
              rw [fl_S, ec, List.length_append] at hl
              simp only [fl_S, ec] at k
              refine s_mod_timeField w (by omega) rfl r1 r2 hs (by omega) hS rfl rfl rfl rfl (by omega) (fun h w => ?_)
              refine rp_iinc (i := 8) (y := 1) d_mod_moment_224 rfl (by decide) rfl (Nat.le_of_ble_eq_true rfl) ?_
              refine rp_goto (tgt := 140) d_mod_moment_227 (by decide) ?_
              refine rp_lv [(0, .ref 19), (1, .int (nI s)), (4, .long (lN D)), (6, .int (nI S)), (8, .int (nI (i + 1)))] (by rw [← nI_1]; rfl) ?_
              refine ih (i + 1) h _ (by omega) (by omega) w (by rw [List.length_append]; omega) (fun h3 y => k h3 ?_)
              rw [List.append_assoc] at y; exact y
          · refine rp_aload_n (i := 0) d_mod_moment_192 rfl rfl ?_
            refine rp_iload (i := 8) d_mod_moment_193 rfl ?_
            refine rp_lload (i := 4) d_mod_moment_195 rfl ?_
            refine rp_l2i d_mod_moment_197 ?_
            rw [lN_i]
            refine rp_callV2 d_mod_moment_198 q_mod_moment_236 (Or.inl ⟨_, _, _, rfl, rfl⟩) (Nat.le_of_ble_eq_true rfl) (Nat.le_of_ble_eq_true rfl) ?_
            obtain ⟨r, r1, r2⟩ := hR4 i ha (by omega) (cf_b_t c179)
            obtain ⟨q1, q2⟩ := hq i ha (by omega) (cf_b_t c189)
            have ec : (rMt D S y m dd (k_wd c D) (h0.2.2.2 22) (h0.2.2.2 23) (h0.2.2.2 24) (h0.2.2.2 21) a b) i = dFt (h0.2.2.2 23 i) r y m dd (k_wd c D) := by unfold rMt; rw [if_neg c161, if_pos ⟨cf_b_t c179, cf_b_t c189⟩, r1, nI_clamp (by omega)]
            rw [fl_S, ec, List.length_append] at hl
            simp only [fl_S, ec] at k
            refine s_mod_dailyField w (by omega) rfl r1 r2 hc q1 hD q2 rfl rfl (by omega) (fun h w => ?_)
            refine rp_goto (tgt := 224) d_mod_moment_201 (by decide) ?_
            refine rp_iinc (i := 8) (y := 1) d_mod_moment_224 rfl (by decide) rfl (Nat.le_of_ble_eq_true rfl) ?_
            refine rp_goto (tgt := 140) d_mod_moment_227 (by decide) ?_
            refine rp_lv [(0, .ref 19), (1, .int (nI s)), (4, .long (lN D)), (6, .int (nI S)), (8, .int (nI (i + 1)))] (by rw [← nI_1]; rfl) ?_
            refine ih (i + 1) h _ (by omega) (by omega) w (by rw [List.length_append]; omega) (fun h3 y => k h3 ?_)
            rw [List.append_assoc] at y; exact y
      · refine rp_aload_n (i := 0) d_mod_moment_164 rfl rfl ?_
        refine rp_iload (i := 8) d_mod_moment_165 rfl ?_
        refine rp_callV1 d_mod_moment_167 q_mod_moment_139 (Or.inl ⟨_, _, _, rfl, rfl⟩) (Nat.le_of_ble_eq_true rfl) (Nat.le_of_ble_eq_true rfl) ?_
        have ec : (rMt D S y m dd (k_wd c D) (h0.2.2.2 22) (h0.2.2.2 23) (h0.2.2.2 24) (h0.2.2.2 21) a b) i = rLt (h0.2.2.2 21) (h0.2.2.2 23 i) (h0.2.2.2 24 i) := by unfold rMt; rw [if_pos c161]
        rw [fl_S, ec, List.length_append] at hl
        simp only [fl_S, ec] at k
        refine s_mod_putLiteral w (by omega) (hO i ha (by omega) c161) rfl (by omega) (fun h w => ?_)
        refine rp_goto (tgt := 224) d_mod_moment_170 (by decide) ?_
        refine rp_iinc (i := 8) (y := 1) d_mod_moment_224 rfl (by decide) rfl (Nat.le_of_ble_eq_true rfl) ?_
        refine rp_goto (tgt := 140) d_mod_moment_227 (by decide) ?_
        refine rp_lv [(0, .ref 19), (1, .int (nI s)), (4, .long (lN D)), (6, .int (nI S)), (8, .int (nI (i + 1)))] (by rw [← nI_1]; rfl) ?_
        refine ih (i + 1) h _ (by omega) (by omega) w (by rw [List.length_append]; omega) (fun h3 y => k h3 ?_)
        rw [List.append_assoc] at y; exact y
theorem any_of {p : Nat → Bool} {i n j : Nat} (h1 : i ≤ j) (h2 : j < i + n) (h : p j = true) : x_any p i n = true := by
  unfold x_any
  rw [decide_eq_false (fun z => by have := (cf_cnt_0 _ _).mp z j h1 h2; rw [h] at this; exact absurd this (by decide))]; rfl
set_option maxHeartbeats 4000000 in
set_option maxRecDepth 100000 in
theorem t_mod_mom51 {h0 h : cf_H} {P : Option Value → cf_H → Prop} {L : List Int32} (w : vT h0 L h) {s a b y m dd : Nat} (hs : r_sec h0 s a b) {c : Bool} (hc : h0.1 19 9 = cf_b c) (hO : ∀ j, a ≤ j → j < b → h0.2.2.2 22 j = 1 → lOk (h0.2.2.2 23 j) (h0.2.2.2 24 j)) (hR4 : ∀ j, a ≤ j → j < b → rFd (h0.2.2.2 22) j = true → ∃ r, h0.2.2.2 24 j = nI r ∧ r ≤ 4) {u : Nat} (hu : u ≤ 10 ^ 15) (hq : (x_any (rDy (h0.2.2.2 22) (h0.2.2.2 23) (h0.2.2.2 24) a b) a (b - a)) = true → k_lo c ≤ mDy u → mDy u ≤ k_hi c → q_day c (mDy u) y m dd) (hl : mDy u ≤ k_hi c → ((x_any (rDy (h0.2.2.2 22) (h0.2.2.2 23) (h0.2.2.2 24) a b) a (b - a)) = true → k_lo c ≤ mDy u) → L.length + (fl (rMt (mDy u) (mSe u) y m dd (k_wd c (mDy u)) (h0.2.2.2 22) (h0.2.2.2 23) (h0.2.2.2 24) (h0.2.2.2 21) a b) a (b - a)).length ≤ 600) (k0 : (k_hi c < mDy u ∨ ((x_any (rDy (h0.2.2.2 22) (h0.2.2.2 23) (h0.2.2.2 24) a b) a (b - a)) = true ∧ mDy u < k_lo c)) → P (some (.int 0)) h) (k1 : ∀ h', mDy u ≤ k_hi c → ((x_any (rDy (h0.2.2.2 22) (h0.2.2.2 23) (h0.2.2.2 24) a b) a (b - a)) = true → k_lo c ≤ mDy u) → vT h0 (L ++ fl (rMt (mDy u) (mSe u) y m dd (k_wd c (mDy u)) (h0.2.2.2 22) (h0.2.2.2 23) (h0.2.2.2 24) (h0.2.2.2 21) a b) a (b - a)) h' → P (some (.int 1)) h') : RP k_mod_moment 51 [(0, .ref 19), (1, .int (nI s)), (4, .long (lN (mDy u))), (6, .int (nI (mSe u)))] [] h P := by
  obtain ⟨s1, s2, s3, s4, s5⟩ := id hs
  have hR := w.ok
  have hs1 := w.sec hs
  have hhi : k_hi c < 2 ^ 24 := by cases c <;> decide
  have hlo : k_lo c < 2 ^ 24 := by cases c <;> decide
  have hc1 : h.1 19 9 = cf_b c := (w.2.1.1 19 9 (by decide)).trans hc
  have hdl := mDy_le hu
  refine rp_iconst (v := 0) d_mod_moment_51 (by decide) ?_
  refine rp_istore (i := 7) d_mod_moment_52 rfl (Nat.le_of_ble_eq_true rfl) ?_
  refine rp_aload_n (i := 0) d_mod_moment_54 rfl rfl ?_
  refine rp_getR d_mod_moment_55 f_mod_25 rfl (hR _ _ _ rfl) ?_
  refine rp_iload_n (i := 1) d_mod_moment_58 rfl rfl ?_
  refine rp_iaload d_mod_moment_59 rfl (vp_in_nI (by omega) (by decide)) ?_
  rw [r_s0 hs1]
  refine rp_istore (i := 8) d_mod_moment_60 rfl (Nat.le_of_ble_eq_true rfl) ?_
  refine rp_lv [(0, .ref 19), (1, .int (nI s)), (4, .long (lN (mDy u))), (6, .int (nI (mSe u))), (7, .int (cf_b false)), (8, .int (nI a))] rfl ?_
  refine l_mod_mom1 w hs (b - a) a false (by omega) (Nat.le_refl _) ?_
  rw [Bool.false_or]
  refine rp_lload (i := 4) d_mod_moment_103 rfl ?_
  refine rp_aload_n (i := 0) d_mod_moment_105 rfl rfl ?_
  refine rp_callV0 d_mod_moment_106 q_mod_moment_206 (Or.inl ⟨_, _, _, rfl, rfl⟩) (Nat.le_of_ble_eq_true rfl) (Nat.le_of_ble_eq_true rfl) ?_
  refine s_mod_lastSerial hc1 ?_
  refine rp_i2l d_mod_moment_109 ?_
  rw [nI_l (by omega)]
  refine rp_lcmp d_mod_moment_110 ?_
  refine rp_if_gt (tgt := 130) d_mod_moment_111 (by decide) (fun c111 => ?_) (fun c111 => ?_)
  · refine rp_iconst (v := 0) d_mod_moment_130 (by decide) ?_
    refine rp_ireturn (ty := .boolean) d_mod_moment_131 rfl (by first | rfl | decide | assumption) ?_
    refine k0 (Or.inl ((pk_lLT (by omega) (by omega)).mp ((lg_cmp_gt _ _).mp c111)))
  · refine rp_iload (i := 7) d_mod_moment_114 rfl ?_
    refine rp_if_eq (tgt := 132) d_mod_moment_116 (by decide) (fun c116 => ?_) (fun c116 => ?_)
    · have c111 : mDy u ≤ k_hi c := Nat.not_lt.mp (fun q => c111 ((lg_cmp_gt _ _).mpr ((pk_lLT (by omega) (by omega)).mpr q)))
      have need : (x_any (rDy (h0.2.2.2 22) (h0.2.2.2 23) (h0.2.2.2 24) a b) a (b - a)) = true → k_lo c ≤ mDy u := (fun q => absurd q (by rw [cf_b_f c116]; decide))
      refine rp_aload_n (i := 0) d_mod_moment_132 rfl rfl ?_
      refine rp_getR d_mod_moment_133 f_mod_25 rfl (hR _ _ _ rfl) ?_
      refine rp_iload_n (i := 1) d_mod_moment_136 rfl rfl ?_
      refine rp_iaload d_mod_moment_137 rfl (vp_in_nI (by omega) (by decide)) ?_
      rw [r_s0 hs1]
      refine rp_istore (i := 8) d_mod_moment_138 rfl (Nat.le_of_ble_eq_true rfl) ?_
      refine rp_lv [(0, .ref 19), (1, .int (nI s)), (4, .long (lN (mDy u))), (6, .int (nI (mSe u))), (8, .int (nI a))] rfl ?_
      refine l_mod_mom2 hs hc c111 (mSe_lt u) hO hR4 (fun j j1 j2 j3 => ?_) (b - a) a h L (by omega) (Nat.le_refl _) w (hl c111 need) (fun h2 w2 => k1 h2 c111 need w2)
      have hn : (x_any (rDy (h0.2.2.2 22) (h0.2.2.2 23) (h0.2.2.2 24) a b) a (b - a)) = true := any_of (by omega) (by omega) j3
      exact ⟨need hn, hq hn (need hn) c111⟩
    · refine rp_lload (i := 4) d_mod_moment_119 rfl ?_
      refine rp_aload_n (i := 0) d_mod_moment_121 rfl rfl ?_
      refine rp_callV0 d_mod_moment_122 q_mod_moment_197 (Or.inl ⟨_, _, _, rfl, rfl⟩) (Nat.le_of_ble_eq_true rfl) (Nat.le_of_ble_eq_true rfl) ?_
      refine s_mod_firstSerial hc1 ?_
      refine rp_i2l d_mod_moment_125 ?_
      rw [nI_l (by omega)]
      refine rp_lcmp d_mod_moment_126 ?_
      refine rp_if_ge (tgt := 132) d_mod_moment_127 (by decide) (fun c127 => ?_) (fun c127 => ?_)
      · have c111 : mDy u ≤ k_hi c := Nat.not_lt.mp (fun q => c111 ((lg_cmp_gt _ _).mpr ((pk_lLT (by omega) (by omega)).mpr q)))
        have need : (x_any (rDy (h0.2.2.2 22) (h0.2.2.2 23) (h0.2.2.2 24) a b) a (b - a)) = true → k_lo c ≤ mDy u := (fun _ => (pk_lLE (by omega) (by omega)).mp ((lg_cmp_ge _ _).mp c127))
        refine rp_aload_n (i := 0) d_mod_moment_132 rfl rfl ?_
        refine rp_getR d_mod_moment_133 f_mod_25 rfl (hR _ _ _ rfl) ?_
        refine rp_iload_n (i := 1) d_mod_moment_136 rfl rfl ?_
        refine rp_iaload d_mod_moment_137 rfl (vp_in_nI (by omega) (by decide)) ?_
        rw [r_s0 hs1]
        refine rp_istore (i := 8) d_mod_moment_138 rfl (Nat.le_of_ble_eq_true rfl) ?_
        refine rp_lv [(0, .ref 19), (1, .int (nI s)), (4, .long (lN (mDy u))), (6, .int (nI (mSe u))), (8, .int (nI a))] rfl ?_
        refine l_mod_mom2 hs hc c111 (mSe_lt u) hO hR4 (fun j j1 j2 j3 => ?_) (b - a) a h L (by omega) (Nat.le_refl _) w (hl c111 need) (fun h2 w2 => k1 h2 c111 need w2)
        have hn : (x_any (rDy (h0.2.2.2 22) (h0.2.2.2 23) (h0.2.2.2 24) a b) a (b - a)) = true := any_of (by omega) (by omega) j3
        exact ⟨need hn, hq hn (need hn) c111⟩
      · refine rp_iconst (v := 0) d_mod_moment_130 (by decide) ?_
        refine rp_ireturn (ty := .boolean) d_mod_moment_131 rfl (by first | rfl | decide | assumption) ?_
        refine k0 (Or.inr ⟨cf_b_t c116, Nat.not_le.mp (fun q => c127 ((lg_cmp_ge _ _).mpr ((pk_lLE (by omega) (by omega)).mpr q)))⟩)
set_option maxHeartbeats 4000000 in
set_option maxRecDepth 100000 in
theorem s_mod_moment {h0 h : cf_H} {P : Option Value → cf_H → Prop} {L : List Int32} (w : vT h0 L h) {s a b y m dd : Nat} (hs : r_sec h0 s a b) {c : Bool} (hc : h0.1 19 9 = cf_b c) (hO : ∀ j, a ≤ j → j < b → h0.2.2.2 22 j = 1 → lOk (h0.2.2.2 23 j) (h0.2.2.2 24 j)) (hR4 : ∀ j, a ≤ j → j < b → rFd (h0.2.2.2 22) j = true → ∃ r, h0.2.2.2 24 j = nI r ∧ r ≤ 4) {x : Int64} (hx2 : x ≤ lN (10 ^ 15)) (hq : ∀ u, x = lN u → (x_any (rDy (h0.2.2.2 22) (h0.2.2.2 23) (h0.2.2.2 24) a b) a (b - a)) = true → k_lo c ≤ mDy u → mDy u ≤ k_hi c → q_day c (mDy u) y m dd) (hl : ∀ u, x = lN u → u ≤ 10 ^ 15 → mDy u ≤ k_hi c → ((x_any (rDy (h0.2.2.2 22) (h0.2.2.2 23) (h0.2.2.2 24) a b) a (b - a)) = true → k_lo c ≤ mDy u) → L.length + (fl (rMt (mDy u) (mSe u) y m dd (k_wd c (mDy u)) (h0.2.2.2 22) (h0.2.2.2 23) (h0.2.2.2 24) (h0.2.2.2 21) a b) a (b - a)).length ≤ 600) {z : Int32} (hz : z = nI s) (k0 : (x < 0 ∨ ∃ u, x = lN u ∧ u ≤ 10 ^ 15 ∧ (k_hi c < mDy u ∨ ((x_any (rDy (h0.2.2.2 22) (h0.2.2.2 23) (h0.2.2.2 24) a b) a (b - a)) = true ∧ mDy u < k_lo c))) → P (some (.int 0)) h) (k1 : ∀ h' u, x = lN u → u ≤ 10 ^ 15 → mDy u ≤ k_hi c → ((x_any (rDy (h0.2.2.2 22) (h0.2.2.2 23) (h0.2.2.2 24) a b) a (b - a)) = true → k_lo c ≤ mDy u) → vT h0 (L ++ fl (rMt (mDy u) (mSe u) y m dd (k_wd c (mDy u)) (h0.2.2.2 22) (h0.2.2.2 23) (h0.2.2.2 24) (h0.2.2.2 21) a b) a (b - a)) h' → P (some (.int 1)) h') : RP k_mod_moment 0 [(0, .ref 19), (1, .int z), (2, .long x)] [] h P := by
  subst hz
  by_cases hx0 : x < 0
  · refine rp_lload_n (i := 2) d_mod_moment_0 rfl rfl ?_
    refine rp_lconst (v := 0) d_mod_moment_1 (by decide) ?_
    refine rp_lcmp d_mod_moment_2 ?_
    refine rp_if_ge (tgt := 8) d_mod_moment_3 (by decide) (fun c3 => ?_) (fun c3 => ?_)
    · exact absurd ((lg_cmp_ge _ _).mp c3) (Int64.not_le.mpr hx0)
    · refine rp_iconst (v := 0) d_mod_moment_6 (by decide) ?_
      refine rp_ireturn (ty := .boolean) d_mod_moment_7 rfl (by first | rfl | decide | assumption) ?_
      exact k0 (Or.inl hx0)
  · obtain ⟨u, hu0, rfl⟩ := pk_lOf hx0
    have hu : u ≤ 10 ^ 15 := (pk_lLE hu0 (by decide)).mp hx2
    have h15 : (10 : Nat) ^ 15 < 2 ^ 60 := by decide
    have hm := Nat.mod_lt u (show 0 < 1000000 by decide)
    have hsc := mSc_le u
    refine rp_lload_n (i := 2) d_mod_moment_0 rfl rfl ?_
    refine rp_lconst (v := 0) d_mod_moment_1 (by decide) ?_
    refine rp_lcmp d_mod_moment_2 ?_
    refine rp_if_ge (tgt := 8) d_mod_moment_3 (by decide) (fun c3 => ?_) (fun c3 => ?_)
    · refine rp_lload_n (i := 2) d_mod_moment_8 rfl rfl ?_
      refine rp_ldc2 (v := 1000000) d_mod_moment_9 l_mod_116 ?_
      refine rp_ldiv d_mod_moment_12 (by decide) ?_
      rw [show lN u / 1000000 = lN (u / 1000000) from pk_lDiv (b := 1000000) (by omega) (by decide) (by decide)]
      refine rp_lstore (i := 4) d_mod_moment_13 rfl (Nat.le_of_ble_eq_true rfl) ?_
      refine rp_lload_n (i := 2) d_mod_moment_15 rfl rfl ?_
      refine rp_ldc2 (v := 1000000) d_mod_moment_16 l_mod_116 ?_
      refine rp_lrem d_mod_moment_19 (by decide) ?_
      rw [show lN u - lN u / 1000000 * 1000000 = lN (u % 1000000) from pk_lRem (b := 1000000) (by omega) (by decide) (by decide)]
      refine rp_ldc2 (v := 86400) d_mod_moment_20 l_mod_224 ?_
      refine rp_lmul d_mod_moment_23 ?_
      refine rp_ldc2 (v := 500000) d_mod_moment_24 l_mod_230 ?_
      refine rp_ladd d_mod_moment_27 ?_
      refine rp_ldc2 (v := 1000000) d_mod_moment_28 l_mod_116 ?_
      refine rp_ldiv d_mod_moment_31 (by decide) ?_
      rw [show (lN (u % 1000000) * 86400 + 500000) / 1000000 = lN (mSc u) from by rw [show (86400 : Int64) = lN 86400 from rfl, show (500000 : Int64) = lN 500000 from rfl, lN_mul, lN_add]; exact pk_lDiv (b := 1000000) (by omega) (by decide) (by decide)]
      refine rp_l2i d_mod_moment_32 ?_
      rw [lN_i]
      refine rp_istore (i := 6) d_mod_moment_33 rfl (Nat.le_of_ble_eq_true rfl) ?_
      refine rp_iload (i := 6) d_mod_moment_35 rfl ?_
      refine rp_ldc (v := 86400) d_mod_moment_37 l_mod_232 ?_
      refine rp_icmp_ne (tgt := 51) d_mod_moment_39 (by decide) (fun c39 => ?_) (fun c39 => ?_)
      · have c39 : ¬ mSc u = 86400 := fun z => c39 (by rw [z]; rfl)
        have e1 : mDy u = u / 1000000 := if_neg c39
        have e2 : mSe u = mSc u := if_neg c39
        refine rp_lv [(0, .ref 19), (1, .int (nI s)), (4, .long (lN (mDy u))), (6, .int (nI (mSe u)))] (by rw [e1, e2]; rfl) ?_
        exact t_mod_mom51 w hs hc hO hR4 hu (hq u rfl) (fun q q2 => hl u rfl hu q q2) (fun q => k0 (Or.inr ⟨u, rfl, hu, q⟩)) (fun h2 q1 q2 q3 => k1 h2 u rfl hu q1 q2 q3)
      · refine rp_lload (i := 4) d_mod_moment_42 rfl ?_
        refine rp_lconst (v := 1) d_mod_moment_44 (by decide) ?_
        refine rp_ladd d_mod_moment_45 ?_
        rw [show (1 : Int64) = lN 1 from rfl, lN_add]
        refine rp_lstore (i := 4) d_mod_moment_46 rfl (Nat.le_of_ble_eq_true rfl) ?_
        refine rp_iconst (v := 0) d_mod_moment_48 (by decide) ?_
        refine rp_istore (i := 6) d_mod_moment_49 rfl (Nat.le_of_ble_eq_true rfl) ?_
        have c39 : mSc u = 86400 := (nI_eq (b := 86400) (by omega) (by decide)).mp c39
        have e1 : mDy u = u / 1000000 + 1 := if_pos c39
        have e2 : mSe u = 0 := if_pos c39
        refine rp_lv [(0, .ref 19), (1, .int (nI s)), (4, .long (lN (mDy u))), (6, .int (nI (mSe u)))] (by rw [e1, e2]; rfl) ?_
        exact t_mod_mom51 w hs hc hO hR4 hu (hq u rfl) (fun q q2 => hl u rfl hu q q2) (fun q => k0 (Or.inr ⟨u, rfl, hu, q⟩)) (fun h2 q1 q2 q3 => k1 h2 u rfl hu q1 q2 q3)
    · exact absurd ((lg_cmp_ge _ _).mpr (Int64.not_lt.mp hx0)) c3
