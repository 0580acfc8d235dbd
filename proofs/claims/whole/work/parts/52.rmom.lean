/-! MOMENTS: the reference's parts -/
def rFd (ty : Nat → Int32) (k : Nat) : Bool := decide (ty k = 9) || decide (ty k = 8) || decide (ty k = 10)
def rHr (ty fi : Nat → Int32) (a k : Nat) : Bool := decide (a < cf_lst (rFd ty) a (k - a)) && !decide (ty (cf_lst (rFd ty) a (k - a) - 1) = 10) && decide (fi (cf_lst (rFd ty) a (k - a) - 1) = 104)
def rSc (ty fi : Nat → Int32) (b k : Nat) : Bool := decide (cf_fst (rFd ty) (k + 1) (b - (k + 1)) < b) && !decide (ty (cf_fst (rFd ty) (k + 1) (b - (k + 1))) = 10) && decide (fi (cf_fst (rFd ty) (k + 1) (b - (k + 1))) = 115)
def rMin (ty fi : Nat → Int32) (a b k : Nat) : Bool := rHr ty fi a k || rSc ty fi b k
def rDy (ty fi se : Nat → Int32) (a b k : Nat) : Bool := decide (ty k = 9) && !decide (fi k = 104) && !decide (fi k = 115) && (!decide (fi k = 109) || decide (se k = 3) || !rMin ty fi a b k)

set_option maxHeartbeats 4000000 in
set_option maxRecDepth 100000 in
theorem s_mod_month {h0 h : cf_H} {P : Option Value → cf_H → Prop} {L : List Int32} (w : vT h0 L h) {m : Nat} (h1 : 1 ≤ m) (h2 : m ≤ 12) (hl : L.length + 3 ≤ 600) {x : Int32} (hx : x = nI m) (k : ∀ h', vT h0 (L ++ mth m) h' → P none h') : RP k_mod_month 0 [(0, .ref 19), (1, .int x)] [] h P := by
  subst hx
  rcases (show m = 1 ∨ m = 2 ∨ m = 3 ∨ m = 4 ∨ m = 5 ∨ m = 6 ∨ m = 7 ∨ m = 8 ∨ m = 9 ∨ m = 10 ∨ m = 11 ∨ m = 12 by omega) with e | e | e | e | e | e | e | e | e | e | e | e <;> subst e
  · show RP k_mod_month 0 [(0, .ref 19), (1, .int 1)] [] h P
    refine rp_iload_n (i := 1) d_mod_month_0 rfl rfl ?_
    refine rp_iconst (v := 1) d_mod_month_1 (by decide) ?_
    refine rp_icmp_eq (tgt := 17) d_mod_month_2 (by decide) (fun c2 => ?_) (fun c2 => ?_)
    · refine rp_bipush (v := 74) d_mod_month_17 (by decide) ?_
      refine rp_goto (tgt := 98) d_mod_month_19 (by decide) ?_
      refine rp_istore_n (i := 2) d_mod_month_98 rfl rfl (Nat.le_of_ble_eq_true rfl) ?_
      refine rp_iload_n (i := 1) d_mod_month_99 rfl rfl ?_
      refine rp_iconst (v := 1) d_mod_month_100 (by decide) ?_
      refine rp_icmp_eq (tgt := 114) d_mod_month_101 (by decide) (fun c101 => ?_) (fun c101 => ?_)
      · refine rp_bipush (v := 97) d_mod_month_114 (by decide) ?_
        refine rp_goto (tgt := 176) d_mod_month_116 (by decide) ?_
        refine rp_istore_n (i := 3) d_mod_month_176 rfl rfl (Nat.le_of_ble_eq_true rfl) ?_
        refine rp_iload_n (i := 1) d_mod_month_177 rfl rfl ?_
        refine rp_iconst (v := 1) d_mod_month_178 (by decide) ?_
        refine rp_icmp_eq (tgt := 188) d_mod_month_179 (by decide) (fun c179 => ?_) (fun c179 => ?_)
        · refine rp_bipush (v := 110) d_mod_month_188 (by decide) ?_
          refine rp_goto (tgt := 285) d_mod_month_190 (by decide) ?_
          refine rp_istore (i := 4) d_mod_month_285 rfl (Nat.le_of_ble_eq_true rfl) ?_
          refine rp_aload_n (i := 0) d_mod_month_287 rfl rfl ?_
          refine rp_iload_n (i := 2) d_mod_month_288 rfl rfl ?_
          refine rp_callV1 d_mod_month_289 q_mod_month_132 (Or.inl ⟨_, _, _, rfl, rfl⟩) (Nat.le_of_ble_eq_true rfl) (Nat.le_of_ble_eq_true rfl) ?_
          refine s_mod_put w (by first | omega | (simp only [List.length_append, List.length_cons, List.length_nil]; omega)) (fun h w => ?_)
          refine rp_aload_n (i := 0) d_mod_month_292 rfl rfl ?_
          refine rp_iload_n (i := 3) d_mod_month_293 rfl rfl ?_
          refine rp_callV1 d_mod_month_294 q_mod_month_132 (Or.inl ⟨_, _, _, rfl, rfl⟩) (Nat.le_of_ble_eq_true rfl) (Nat.le_of_ble_eq_true rfl) ?_
          refine s_mod_put w (by first | omega | (simp only [List.length_append, List.length_cons, List.length_nil]; omega)) (fun h w => ?_)
          refine rp_aload_n (i := 0) d_mod_month_297 rfl rfl ?_
          refine rp_iload (i := 4) d_mod_month_298 rfl ?_
          refine rp_callV1 d_mod_month_300 q_mod_month_132 (Or.inl ⟨_, _, _, rfl, rfl⟩) (Nat.le_of_ble_eq_true rfl) (Nat.le_of_ble_eq_true rfl) ?_
          refine s_mod_put w (by first | omega | (simp only [List.length_append, List.length_cons, List.length_nil]; omega)) (fun h w => ?_)
          refine rp_return d_mod_month_303 rfl ?_
          simp only [List.append_assoc, List.cons_append, List.nil_append] at w
          exact k h w
        · exact absurd (by decide) c179
      · exact absurd (by decide) c101
    · exact absurd (by decide) c2
  · show RP k_mod_month 0 [(0, .ref 19), (1, .int 2)] [] h P
    refine rp_iload_n (i := 1) d_mod_month_0 rfl rfl ?_
    refine rp_iconst (v := 1) d_mod_month_1 (by decide) ?_
    refine rp_icmp_eq (tgt := 17) d_mod_month_2 (by decide) (fun c2 => ?_) (fun c2 => ?_)
    · exact absurd c2 (by decide)
    · refine rp_iload_n (i := 1) d_mod_month_5 rfl rfl ?_
      refine rp_bipush (v := 6) d_mod_month_6 (by decide) ?_
      refine rp_icmp_eq (tgt := 17) d_mod_month_8 (by decide) (fun c8 => ?_) (fun c8 => ?_)
      · exact absurd c8 (by decide)
      · refine rp_iload_n (i := 1) d_mod_month_11 rfl rfl ?_
        refine rp_bipush (v := 7) d_mod_month_12 (by decide) ?_
        refine rp_icmp_ne (tgt := 22) d_mod_month_14 (by decide) (fun c14 => ?_) (fun c14 => ?_)
        · refine rp_iload_n (i := 1) d_mod_month_22 rfl rfl ?_
          refine rp_iconst (v := 2) d_mod_month_23 (by decide) ?_
          refine rp_icmp_ne (tgt := 32) d_mod_month_24 (by decide) (fun c24 => ?_) (fun c24 => ?_)
          · exact absurd (by decide) c24
          · refine rp_bipush (v := 70) d_mod_month_27 (by decide) ?_
            refine rp_goto (tgt := 98) d_mod_month_29 (by decide) ?_
            refine rp_istore_n (i := 2) d_mod_month_98 rfl rfl (Nat.le_of_ble_eq_true rfl) ?_
            refine rp_iload_n (i := 1) d_mod_month_99 rfl rfl ?_
            refine rp_iconst (v := 1) d_mod_month_100 (by decide) ?_
            refine rp_icmp_eq (tgt := 114) d_mod_month_101 (by decide) (fun c101 => ?_) (fun c101 => ?_)
            · exact absurd c101 (by decide)
            · refine rp_iload_n (i := 1) d_mod_month_104 rfl rfl ?_
              refine rp_iconst (v := 3) d_mod_month_105 (by decide) ?_
              refine rp_icmp_eq (tgt := 114) d_mod_month_106 (by decide) (fun c106 => ?_) (fun c106 => ?_)
              · exact absurd c106 (by decide)
              · refine rp_iload_n (i := 1) d_mod_month_109 rfl rfl ?_
                refine rp_iconst (v := 5) d_mod_month_110 (by decide) ?_
                refine rp_icmp_ne (tgt := 119) d_mod_month_111 (by decide) (fun c111 => ?_) (fun c111 => ?_)
                · refine rp_iload_n (i := 1) d_mod_month_119 rfl rfl ?_
                  refine rp_iconst (v := 4) d_mod_month_120 (by decide) ?_
                  refine rp_icmp_ne (tgt := 129) d_mod_month_121 (by decide) (fun c121 => ?_) (fun c121 => ?_)
                  · refine rp_iload_n (i := 1) d_mod_month_129 rfl rfl ?_
                    refine rp_bipush (v := 6) d_mod_month_130 (by decide) ?_
                    refine rp_icmp_eq (tgt := 147) d_mod_month_132 (by decide) (fun c132 => ?_) (fun c132 => ?_)
                    · exact absurd c132 (by decide)
                    · refine rp_iload_n (i := 1) d_mod_month_135 rfl rfl ?_
                      refine rp_bipush (v := 7) d_mod_month_136 (by decide) ?_
                      refine rp_icmp_eq (tgt := 147) d_mod_month_138 (by decide) (fun c138 => ?_) (fun c138 => ?_)
                      · exact absurd c138 (by decide)
                      · refine rp_iload_n (i := 1) d_mod_month_141 rfl rfl ?_
                        refine rp_bipush (v := 8) d_mod_month_142 (by decide) ?_
                        refine rp_icmp_ne (tgt := 152) d_mod_month_144 (by decide) (fun c144 => ?_) (fun c144 => ?_)
                        · refine rp_iload_n (i := 1) d_mod_month_152 rfl rfl ?_
                          refine rp_bipush (v := 10) d_mod_month_153 (by decide) ?_
                          refine rp_icmp_ne (tgt := 163) d_mod_month_155 (by decide) (fun c155 => ?_) (fun c155 => ?_)
                          · refine rp_iload_n (i := 1) d_mod_month_163 rfl rfl ?_
                            refine rp_bipush (v := 11) d_mod_month_164 (by decide) ?_
                            refine rp_icmp_ne (tgt := 174) d_mod_month_166 (by decide) (fun c166 => ?_) (fun c166 => ?_)
                            · refine rp_bipush (v := 101) d_mod_month_174 (by decide) ?_
                              refine rp_istore_n (i := 3) d_mod_month_176 rfl rfl (Nat.le_of_ble_eq_true rfl) ?_
                              refine rp_iload_n (i := 1) d_mod_month_177 rfl rfl ?_
                              refine rp_iconst (v := 1) d_mod_month_178 (by decide) ?_
                              refine rp_icmp_eq (tgt := 188) d_mod_month_179 (by decide) (fun c179 => ?_) (fun c179 => ?_)
                              · exact absurd c179 (by decide)
                              · refine rp_iload_n (i := 1) d_mod_month_182 rfl rfl ?_
                                refine rp_bipush (v := 6) d_mod_month_183 (by decide) ?_
                                refine rp_icmp_ne (tgt := 193) d_mod_month_185 (by decide) (fun c185 => ?_) (fun c185 => ?_)
                                · refine rp_iload_n (i := 1) d_mod_month_193 rfl rfl ?_
                                  refine rp_iconst (v := 2) d_mod_month_194 (by decide) ?_
                                  refine rp_icmp_ne (tgt := 203) d_mod_month_195 (by decide) (fun c195 => ?_) (fun c195 => ?_)
                                  · exact absurd (by decide) c195
                                  · refine rp_bipush (v := 98) d_mod_month_198 (by decide) ?_
                                    refine rp_goto (tgt := 285) d_mod_month_200 (by decide) ?_
                                    refine rp_istore (i := 4) d_mod_month_285 rfl (Nat.le_of_ble_eq_true rfl) ?_
                                    refine rp_aload_n (i := 0) d_mod_month_287 rfl rfl ?_
                                    refine rp_iload_n (i := 2) d_mod_month_288 rfl rfl ?_
                                    refine rp_callV1 d_mod_month_289 q_mod_month_132 (Or.inl ⟨_, _, _, rfl, rfl⟩) (Nat.le_of_ble_eq_true rfl) (Nat.le_of_ble_eq_true rfl) ?_
                                    refine s_mod_put w (by first | omega | (simp only [List.length_append, List.length_cons, List.length_nil]; omega)) (fun h w => ?_)
                                    refine rp_aload_n (i := 0) d_mod_month_292 rfl rfl ?_
                                    refine rp_iload_n (i := 3) d_mod_month_293 rfl rfl ?_
                                    refine rp_callV1 d_mod_month_294 q_mod_month_132 (Or.inl ⟨_, _, _, rfl, rfl⟩) (Nat.le_of_ble_eq_true rfl) (Nat.le_of_ble_eq_true rfl) ?_
                                    refine s_mod_put w (by first | omega | (simp only [List.length_append, List.length_cons, List.length_nil]; omega)) (fun h w => ?_)
                                    refine rp_aload_n (i := 0) d_mod_month_297 rfl rfl ?_
                                    refine rp_iload (i := 4) d_mod_month_298 rfl ?_
                                    refine rp_callV1 d_mod_month_300 q_mod_month_132 (Or.inl ⟨_, _, _, rfl, rfl⟩) (Nat.le_of_ble_eq_true rfl) (Nat.le_of_ble_eq_true rfl) ?_
                                    refine s_mod_put w (by first | omega | (simp only [List.length_append, List.length_cons, List.length_nil]; omega)) (fun h w => ?_)
                                    refine rp_return d_mod_month_303 rfl ?_
                                    simp only [List.append_assoc, List.cons_append, List.nil_append] at w
                                    exact k h w
                                · exact absurd c185 (by decide)
                            · exact absurd c166 (by decide)
                          · exact absurd c155 (by decide)
                        · exact absurd c144 (by decide)
                  · exact absurd c121 (by decide)
                · exact absurd c111 (by decide)
        · exact absurd c14 (by decide)
  · show RP k_mod_month 0 [(0, .ref 19), (1, .int 3)] [] h P
    refine rp_iload_n (i := 1) d_mod_month_0 rfl rfl ?_
    refine rp_iconst (v := 1) d_mod_month_1 (by decide) ?_
    refine rp_icmp_eq (tgt := 17) d_mod_month_2 (by decide) (fun c2 => ?_) (fun c2 => ?_)
    · exact absurd c2 (by decide)
    · refine rp_iload_n (i := 1) d_mod_month_5 rfl rfl ?_
      refine rp_bipush (v := 6) d_mod_month_6 (by decide) ?_
      refine rp_icmp_eq (tgt := 17) d_mod_month_8 (by decide) (fun c8 => ?_) (fun c8 => ?_)
      · exact absurd c8 (by decide)
      · refine rp_iload_n (i := 1) d_mod_month_11 rfl rfl ?_
        refine rp_bipush (v := 7) d_mod_month_12 (by decide) ?_
        refine rp_icmp_ne (tgt := 22) d_mod_month_14 (by decide) (fun c14 => ?_) (fun c14 => ?_)
        · refine rp_iload_n (i := 1) d_mod_month_22 rfl rfl ?_
          refine rp_iconst (v := 2) d_mod_month_23 (by decide) ?_
          refine rp_icmp_ne (tgt := 32) d_mod_month_24 (by decide) (fun c24 => ?_) (fun c24 => ?_)
          · refine rp_iload_n (i := 1) d_mod_month_32 rfl rfl ?_
            refine rp_iconst (v := 3) d_mod_month_33 (by decide) ?_
            refine rp_icmp_eq (tgt := 42) d_mod_month_34 (by decide) (fun c34 => ?_) (fun c34 => ?_)
            · refine rp_bipush (v := 77) d_mod_month_42 (by decide) ?_
              refine rp_goto (tgt := 98) d_mod_month_44 (by decide) ?_
              refine rp_istore_n (i := 2) d_mod_month_98 rfl rfl (Nat.le_of_ble_eq_true rfl) ?_
              refine rp_iload_n (i := 1) d_mod_month_99 rfl rfl ?_
              refine rp_iconst (v := 1) d_mod_month_100 (by decide) ?_
              refine rp_icmp_eq (tgt := 114) d_mod_month_101 (by decide) (fun c101 => ?_) (fun c101 => ?_)
              · exact absurd c101 (by decide)
              · refine rp_iload_n (i := 1) d_mod_month_104 rfl rfl ?_
                refine rp_iconst (v := 3) d_mod_month_105 (by decide) ?_
                refine rp_icmp_eq (tgt := 114) d_mod_month_106 (by decide) (fun c106 => ?_) (fun c106 => ?_)
                · refine rp_bipush (v := 97) d_mod_month_114 (by decide) ?_
                  refine rp_goto (tgt := 176) d_mod_month_116 (by decide) ?_
                  refine rp_istore_n (i := 3) d_mod_month_176 rfl rfl (Nat.le_of_ble_eq_true rfl) ?_
                  refine rp_iload_n (i := 1) d_mod_month_177 rfl rfl ?_
                  refine rp_iconst (v := 1) d_mod_month_178 (by decide) ?_
                  refine rp_icmp_eq (tgt := 188) d_mod_month_179 (by decide) (fun c179 => ?_) (fun c179 => ?_)
                  · exact absurd c179 (by decide)
                  · refine rp_iload_n (i := 1) d_mod_month_182 rfl rfl ?_
                    refine rp_bipush (v := 6) d_mod_month_183 (by decide) ?_
                    refine rp_icmp_ne (tgt := 193) d_mod_month_185 (by decide) (fun c185 => ?_) (fun c185 => ?_)
                    · refine rp_iload_n (i := 1) d_mod_month_193 rfl rfl ?_
                      refine rp_iconst (v := 2) d_mod_month_194 (by decide) ?_
                      refine rp_icmp_ne (tgt := 203) d_mod_month_195 (by decide) (fun c195 => ?_) (fun c195 => ?_)
                      · refine rp_iload_n (i := 1) d_mod_month_203 rfl rfl ?_
                        refine rp_iconst (v := 3) d_mod_month_204 (by decide) ?_
                        refine rp_icmp_eq (tgt := 213) d_mod_month_205 (by decide) (fun c205 => ?_) (fun c205 => ?_)
                        · refine rp_bipush (v := 114) d_mod_month_213 (by decide) ?_
                          refine rp_goto (tgt := 285) d_mod_month_215 (by decide) ?_
                          refine rp_istore (i := 4) d_mod_month_285 rfl (Nat.le_of_ble_eq_true rfl) ?_
                          refine rp_aload_n (i := 0) d_mod_month_287 rfl rfl ?_
                          refine rp_iload_n (i := 2) d_mod_month_288 rfl rfl ?_
                          refine rp_callV1 d_mod_month_289 q_mod_month_132 (Or.inl ⟨_, _, _, rfl, rfl⟩) (Nat.le_of_ble_eq_true rfl) (Nat.le_of_ble_eq_true rfl) ?_
                          refine s_mod_put w (by first | omega | (simp only [List.length_append, List.length_cons, List.length_nil]; omega)) (fun h w => ?_)
                          refine rp_aload_n (i := 0) d_mod_month_292 rfl rfl ?_
                          refine rp_iload_n (i := 3) d_mod_month_293 rfl rfl ?_
                          refine rp_callV1 d_mod_month_294 q_mod_month_132 (Or.inl ⟨_, _, _, rfl, rfl⟩) (Nat.le_of_ble_eq_true rfl) (Nat.le_of_ble_eq_true rfl) ?_
                          refine s_mod_put w (by first | omega | (simp only [List.length_append, List.length_cons, List.length_nil]; omega)) (fun h w => ?_)
                          refine rp_aload_n (i := 0) d_mod_month_297 rfl rfl ?_
                          refine rp_iload (i := 4) d_mod_month_298 rfl ?_
                          refine rp_callV1 d_mod_month_300 q_mod_month_132 (Or.inl ⟨_, _, _, rfl, rfl⟩) (Nat.le_of_ble_eq_true rfl) (Nat.le_of_ble_eq_true rfl) ?_
                          refine s_mod_put w (by first | omega | (simp only [List.length_append, List.length_cons, List.length_nil]; omega)) (fun h w => ?_)
                          refine rp_return d_mod_month_303 rfl ?_
                          simp only [List.append_assoc, List.cons_append, List.nil_append] at w
                          exact k h w
                        · exact absurd (by decide) c205
                      · exact absurd c195 (by decide)
                    · exact absurd c185 (by decide)
                · exact absurd (by decide) c106
            · exact absurd (by decide) c34
          · exact absurd c24 (by decide)
        · exact absurd c14 (by decide)
  · show RP k_mod_month 0 [(0, .ref 19), (1, .int 4)] [] h P
    refine rp_iload_n (i := 1) d_mod_month_0 rfl rfl ?_
    refine rp_iconst (v := 1) d_mod_month_1 (by decide) ?_
    refine rp_icmp_eq (tgt := 17) d_mod_month_2 (by decide) (fun c2 => ?_) (fun c2 => ?_)
    · exact absurd c2 (by decide)
    · refine rp_iload_n (i := 1) d_mod_month_5 rfl rfl ?_
      refine rp_bipush (v := 6) d_mod_month_6 (by decide) ?_
      refine rp_icmp_eq (tgt := 17) d_mod_month_8 (by decide) (fun c8 => ?_) (fun c8 => ?_)
      · exact absurd c8 (by decide)
      · refine rp_iload_n (i := 1) d_mod_month_11 rfl rfl ?_
        refine rp_bipush (v := 7) d_mod_month_12 (by decide) ?_
        refine rp_icmp_ne (tgt := 22) d_mod_month_14 (by decide) (fun c14 => ?_) (fun c14 => ?_)
        · refine rp_iload_n (i := 1) d_mod_month_22 rfl rfl ?_
          refine rp_iconst (v := 2) d_mod_month_23 (by decide) ?_
          refine rp_icmp_ne (tgt := 32) d_mod_month_24 (by decide) (fun c24 => ?_) (fun c24 => ?_)
          · refine rp_iload_n (i := 1) d_mod_month_32 rfl rfl ?_
            refine rp_iconst (v := 3) d_mod_month_33 (by decide) ?_
            refine rp_icmp_eq (tgt := 42) d_mod_month_34 (by decide) (fun c34 => ?_) (fun c34 => ?_)
            · exact absurd c34 (by decide)
            · refine rp_iload_n (i := 1) d_mod_month_37 rfl rfl ?_
              refine rp_iconst (v := 5) d_mod_month_38 (by decide) ?_
              refine rp_icmp_ne (tgt := 47) d_mod_month_39 (by decide) (fun c39 => ?_) (fun c39 => ?_)
              · refine rp_iload_n (i := 1) d_mod_month_47 rfl rfl ?_
                refine rp_iconst (v := 4) d_mod_month_48 (by decide) ?_
                refine rp_icmp_eq (tgt := 58) d_mod_month_49 (by decide) (fun c49 => ?_) (fun c49 => ?_)
                · refine rp_bipush (v := 65) d_mod_month_58 (by decide) ?_
                  refine rp_goto (tgt := 98) d_mod_month_60 (by decide) ?_
                  refine rp_istore_n (i := 2) d_mod_month_98 rfl rfl (Nat.le_of_ble_eq_true rfl) ?_
                  refine rp_iload_n (i := 1) d_mod_month_99 rfl rfl ?_
                  refine rp_iconst (v := 1) d_mod_month_100 (by decide) ?_
                  refine rp_icmp_eq (tgt := 114) d_mod_month_101 (by decide) (fun c101 => ?_) (fun c101 => ?_)
                  · exact absurd c101 (by decide)
                  · refine rp_iload_n (i := 1) d_mod_month_104 rfl rfl ?_
                    refine rp_iconst (v := 3) d_mod_month_105 (by decide) ?_
                    refine rp_icmp_eq (tgt := 114) d_mod_month_106 (by decide) (fun c106 => ?_) (fun c106 => ?_)
                    · exact absurd c106 (by decide)
                    · refine rp_iload_n (i := 1) d_mod_month_109 rfl rfl ?_
                      refine rp_iconst (v := 5) d_mod_month_110 (by decide) ?_
                      refine rp_icmp_ne (tgt := 119) d_mod_month_111 (by decide) (fun c111 => ?_) (fun c111 => ?_)
                      · refine rp_iload_n (i := 1) d_mod_month_119 rfl rfl ?_
                        refine rp_iconst (v := 4) d_mod_month_120 (by decide) ?_
                        refine rp_icmp_ne (tgt := 129) d_mod_month_121 (by decide) (fun c121 => ?_) (fun c121 => ?_)
                        · exact absurd (by decide) c121
                        · refine rp_bipush (v := 112) d_mod_month_124 (by decide) ?_
                          refine rp_goto (tgt := 176) d_mod_month_126 (by decide) ?_
                          refine rp_istore_n (i := 3) d_mod_month_176 rfl rfl (Nat.le_of_ble_eq_true rfl) ?_
                          refine rp_iload_n (i := 1) d_mod_month_177 rfl rfl ?_
                          refine rp_iconst (v := 1) d_mod_month_178 (by decide) ?_
                          refine rp_icmp_eq (tgt := 188) d_mod_month_179 (by decide) (fun c179 => ?_) (fun c179 => ?_)
                          · exact absurd c179 (by decide)
                          · refine rp_iload_n (i := 1) d_mod_month_182 rfl rfl ?_
                            refine rp_bipush (v := 6) d_mod_month_183 (by decide) ?_
                            refine rp_icmp_ne (tgt := 193) d_mod_month_185 (by decide) (fun c185 => ?_) (fun c185 => ?_)
                            · refine rp_iload_n (i := 1) d_mod_month_193 rfl rfl ?_
                              refine rp_iconst (v := 2) d_mod_month_194 (by decide) ?_
                              refine rp_icmp_ne (tgt := 203) d_mod_month_195 (by decide) (fun c195 => ?_) (fun c195 => ?_)
                              · refine rp_iload_n (i := 1) d_mod_month_203 rfl rfl ?_
                                refine rp_iconst (v := 3) d_mod_month_204 (by decide) ?_
                                refine rp_icmp_eq (tgt := 213) d_mod_month_205 (by decide) (fun c205 => ?_) (fun c205 => ?_)
                                · exact absurd c205 (by decide)
                                · refine rp_iload_n (i := 1) d_mod_month_208 rfl rfl ?_
                                  refine rp_iconst (v := 4) d_mod_month_209 (by decide) ?_
                                  refine rp_icmp_ne (tgt := 218) d_mod_month_210 (by decide) (fun c210 => ?_) (fun c210 => ?_)
                                  · exact absurd (by decide) c210
                                  · refine rp_bipush (v := 114) d_mod_month_213 (by decide) ?_
                                    refine rp_goto (tgt := 285) d_mod_month_215 (by decide) ?_
                                    refine rp_istore (i := 4) d_mod_month_285 rfl (Nat.le_of_ble_eq_true rfl) ?_
                                    refine rp_aload_n (i := 0) d_mod_month_287 rfl rfl ?_
                                    refine rp_iload_n (i := 2) d_mod_month_288 rfl rfl ?_
                                    refine rp_callV1 d_mod_month_289 q_mod_month_132 (Or.inl ⟨_, _, _, rfl, rfl⟩) (Nat.le_of_ble_eq_true rfl) (Nat.le_of_ble_eq_true rfl) ?_
                                    refine s_mod_put w (by first | omega | (simp only [List.length_append, List.length_cons, List.length_nil]; omega)) (fun h w => ?_)
                                    refine rp_aload_n (i := 0) d_mod_month_292 rfl rfl ?_
                                    refine rp_iload_n (i := 3) d_mod_month_293 rfl rfl ?_
                                    refine rp_callV1 d_mod_month_294 q_mod_month_132 (Or.inl ⟨_, _, _, rfl, rfl⟩) (Nat.le_of_ble_eq_true rfl) (Nat.le_of_ble_eq_true rfl) ?_
                                    refine s_mod_put w (by first | omega | (simp only [List.length_append, List.length_cons, List.length_nil]; omega)) (fun h w => ?_)
                                    refine rp_aload_n (i := 0) d_mod_month_297 rfl rfl ?_
                                    refine rp_iload (i := 4) d_mod_month_298 rfl ?_
                                    refine rp_callV1 d_mod_month_300 q_mod_month_132 (Or.inl ⟨_, _, _, rfl, rfl⟩) (Nat.le_of_ble_eq_true rfl) (Nat.le_of_ble_eq_true rfl) ?_
                                    refine s_mod_put w (by first | omega | (simp only [List.length_append, List.length_cons, List.length_nil]; omega)) (fun h w => ?_)
                                    refine rp_return d_mod_month_303 rfl ?_
                                    simp only [List.append_assoc, List.cons_append, List.nil_append] at w
                                    exact k h w
                              · exact absurd c195 (by decide)
                            · exact absurd c185 (by decide)
                      · exact absurd c111 (by decide)
                · exact absurd (by decide) c49
              · exact absurd c39 (by decide)
          · exact absurd c24 (by decide)
        · exact absurd c14 (by decide)
  · show RP k_mod_month 0 [(0, .ref 19), (1, .int 5)] [] h P
    refine rp_iload_n (i := 1) d_mod_month_0 rfl rfl ?_
    refine rp_iconst (v := 1) d_mod_month_1 (by decide) ?_
    refine rp_icmp_eq (tgt := 17) d_mod_month_2 (by decide) (fun c2 => ?_) (fun c2 => ?_)
    · exact absurd c2 (by decide)
    · refine rp_iload_n (i := 1) d_mod_month_5 rfl rfl ?_
      refine rp_bipush (v := 6) d_mod_month_6 (by decide) ?_
      refine rp_icmp_eq (tgt := 17) d_mod_month_8 (by decide) (fun c8 => ?_) (fun c8 => ?_)
      · exact absurd c8 (by decide)
      · refine rp_iload_n (i := 1) d_mod_month_11 rfl rfl ?_
        refine rp_bipush (v := 7) d_mod_month_12 (by decide) ?_
        refine rp_icmp_ne (tgt := 22) d_mod_month_14 (by decide) (fun c14 => ?_) (fun c14 => ?_)
        · refine rp_iload_n (i := 1) d_mod_month_22 rfl rfl ?_
          refine rp_iconst (v := 2) d_mod_month_23 (by decide) ?_
          refine rp_icmp_ne (tgt := 32) d_mod_month_24 (by decide) (fun c24 => ?_) (fun c24 => ?_)
          · refine rp_iload_n (i := 1) d_mod_month_32 rfl rfl ?_
            refine rp_iconst (v := 3) d_mod_month_33 (by decide) ?_
            refine rp_icmp_eq (tgt := 42) d_mod_month_34 (by decide) (fun c34 => ?_) (fun c34 => ?_)
            · exact absurd c34 (by decide)
            · refine rp_iload_n (i := 1) d_mod_month_37 rfl rfl ?_
              refine rp_iconst (v := 5) d_mod_month_38 (by decide) ?_
              refine rp_icmp_ne (tgt := 47) d_mod_month_39 (by decide) (fun c39 => ?_) (fun c39 => ?_)
              · exact absurd (by decide) c39
              · refine rp_bipush (v := 77) d_mod_month_42 (by decide) ?_
                refine rp_goto (tgt := 98) d_mod_month_44 (by decide) ?_
                refine rp_istore_n (i := 2) d_mod_month_98 rfl rfl (Nat.le_of_ble_eq_true rfl) ?_
                refine rp_iload_n (i := 1) d_mod_month_99 rfl rfl ?_
                refine rp_iconst (v := 1) d_mod_month_100 (by decide) ?_
                refine rp_icmp_eq (tgt := 114) d_mod_month_101 (by decide) (fun c101 => ?_) (fun c101 => ?_)
                · exact absurd c101 (by decide)
                · refine rp_iload_n (i := 1) d_mod_month_104 rfl rfl ?_
                  refine rp_iconst (v := 3) d_mod_month_105 (by decide) ?_
                  refine rp_icmp_eq (tgt := 114) d_mod_month_106 (by decide) (fun c106 => ?_) (fun c106 => ?_)
                  · exact absurd c106 (by decide)
                  · refine rp_iload_n (i := 1) d_mod_month_109 rfl rfl ?_
                    refine rp_iconst (v := 5) d_mod_month_110 (by decide) ?_
                    refine rp_icmp_ne (tgt := 119) d_mod_month_111 (by decide) (fun c111 => ?_) (fun c111 => ?_)
                    · exact absurd (by decide) c111
                    · refine rp_bipush (v := 97) d_mod_month_114 (by decide) ?_
                      refine rp_goto (tgt := 176) d_mod_month_116 (by decide) ?_
                      refine rp_istore_n (i := 3) d_mod_month_176 rfl rfl (Nat.le_of_ble_eq_true rfl) ?_
                      refine rp_iload_n (i := 1) d_mod_month_177 rfl rfl ?_
                      refine rp_iconst (v := 1) d_mod_month_178 (by decide) ?_
                      refine rp_icmp_eq (tgt := 188) d_mod_month_179 (by decide) (fun c179 => ?_) (fun c179 => ?_)
                      · exact absurd c179 (by decide)
                      · refine rp_iload_n (i := 1) d_mod_month_182 rfl rfl ?_
                        refine rp_bipush (v := 6) d_mod_month_183 (by decide) ?_
                        refine rp_icmp_ne (tgt := 193) d_mod_month_185 (by decide) (fun c185 => ?_) (fun c185 => ?_)
                        · refine rp_iload_n (i := 1) d_mod_month_193 rfl rfl ?_
                          refine rp_iconst (v := 2) d_mod_month_194 (by decide) ?_
                          refine rp_icmp_ne (tgt := 203) d_mod_month_195 (by decide) (fun c195 => ?_) (fun c195 => ?_)
                          · refine rp_iload_n (i := 1) d_mod_month_203 rfl rfl ?_
                            refine rp_iconst (v := 3) d_mod_month_204 (by decide) ?_
                            refine rp_icmp_eq (tgt := 213) d_mod_month_205 (by decide) (fun c205 => ?_) (fun c205 => ?_)
                            · exact absurd c205 (by decide)
                            · refine rp_iload_n (i := 1) d_mod_month_208 rfl rfl ?_
                              refine rp_iconst (v := 4) d_mod_month_209 (by decide) ?_
                              refine rp_icmp_ne (tgt := 218) d_mod_month_210 (by decide) (fun c210 => ?_) (fun c210 => ?_)
                              · refine rp_iload_n (i := 1) d_mod_month_218 rfl rfl ?_
                                refine rp_iconst (v := 5) d_mod_month_219 (by decide) ?_
                                refine rp_icmp_ne (tgt := 228) d_mod_month_220 (by decide) (fun c220 => ?_) (fun c220 => ?_)
                                · exact absurd (by decide) c220
                                · refine rp_bipush (v := 121) d_mod_month_223 (by decide) ?_
                                  refine rp_goto (tgt := 285) d_mod_month_225 (by decide) ?_
                                  refine rp_istore (i := 4) d_mod_month_285 rfl (Nat.le_of_ble_eq_true rfl) ?_
                                  refine rp_aload_n (i := 0) d_mod_month_287 rfl rfl ?_
                                  refine rp_iload_n (i := 2) d_mod_month_288 rfl rfl ?_
                                  refine rp_callV1 d_mod_month_289 q_mod_month_132 (Or.inl ⟨_, _, _, rfl, rfl⟩) (Nat.le_of_ble_eq_true rfl) (Nat.le_of_ble_eq_true rfl) ?_
                                  refine s_mod_put w (by first | omega | (simp only [List.length_append, List.length_cons, List.length_nil]; omega)) (fun h w => ?_)
                                  refine rp_aload_n (i := 0) d_mod_month_292 rfl rfl ?_
                                  refine rp_iload_n (i := 3) d_mod_month_293 rfl rfl ?_
                                  refine rp_callV1 d_mod_month_294 q_mod_month_132 (Or.inl ⟨_, _, _, rfl, rfl⟩) (Nat.le_of_ble_eq_true rfl) (Nat.le_of_ble_eq_true rfl) ?_
                                  refine s_mod_put w (by first | omega | (simp only [List.length_append, List.length_cons, List.length_nil]; omega)) (fun h w => ?_)
                                  refine rp_aload_n (i := 0) d_mod_month_297 rfl rfl ?_
                                  refine rp_iload (i := 4) d_mod_month_298 rfl ?_
                                  refine rp_callV1 d_mod_month_300 q_mod_month_132 (Or.inl ⟨_, _, _, rfl, rfl⟩) (Nat.le_of_ble_eq_true rfl) (Nat.le_of_ble_eq_true rfl) ?_
                                  refine s_mod_put w (by first | omega | (simp only [List.length_append, List.length_cons, List.length_nil]; omega)) (fun h w => ?_)
                                  refine rp_return d_mod_month_303 rfl ?_
                                  simp only [List.append_assoc, List.cons_append, List.nil_append] at w
                                  exact k h w
                              · exact absurd c210 (by decide)
                          · exact absurd c195 (by decide)
                        · exact absurd c185 (by decide)
          · exact absurd c24 (by decide)
        · exact absurd c14 (by decide)
  · show RP k_mod_month 0 [(0, .ref 19), (1, .int 6)] [] h P
    refine rp_iload_n (i := 1) d_mod_month_0 rfl rfl ?_
    refine rp_iconst (v := 1) d_mod_month_1 (by decide) ?_
    refine rp_icmp_eq (tgt := 17) d_mod_month_2 (by decide) (fun c2 => ?_) (fun c2 => ?_)
    · exact absurd c2 (by decide)
    · refine rp_iload_n (i := 1) d_mod_month_5 rfl rfl ?_
      refine rp_bipush (v := 6) d_mod_month_6 (by decide) ?_
      refine rp_icmp_eq (tgt := 17) d_mod_month_8 (by decide) (fun c8 => ?_) (fun c8 => ?_)
      · refine rp_bipush (v := 74) d_mod_month_17 (by decide) ?_
        refine rp_goto (tgt := 98) d_mod_month_19 (by decide) ?_
        refine rp_istore_n (i := 2) d_mod_month_98 rfl rfl (Nat.le_of_ble_eq_true rfl) ?_
        refine rp_iload_n (i := 1) d_mod_month_99 rfl rfl ?_
        refine rp_iconst (v := 1) d_mod_month_100 (by decide) ?_
        refine rp_icmp_eq (tgt := 114) d_mod_month_101 (by decide) (fun c101 => ?_) (fun c101 => ?_)
        · exact absurd c101 (by decide)
        · refine rp_iload_n (i := 1) d_mod_month_104 rfl rfl ?_
          refine rp_iconst (v := 3) d_mod_month_105 (by decide) ?_
          refine rp_icmp_eq (tgt := 114) d_mod_month_106 (by decide) (fun c106 => ?_) (fun c106 => ?_)
          · exact absurd c106 (by decide)
          · refine rp_iload_n (i := 1) d_mod_month_109 rfl rfl ?_
            refine rp_iconst (v := 5) d_mod_month_110 (by decide) ?_
            refine rp_icmp_ne (tgt := 119) d_mod_month_111 (by decide) (fun c111 => ?_) (fun c111 => ?_)
            · refine rp_iload_n (i := 1) d_mod_month_119 rfl rfl ?_
              refine rp_iconst (v := 4) d_mod_month_120 (by decide) ?_
              refine rp_icmp_ne (tgt := 129) d_mod_month_121 (by decide) (fun c121 => ?_) (fun c121 => ?_)
              · refine rp_iload_n (i := 1) d_mod_month_129 rfl rfl ?_
                refine rp_bipush (v := 6) d_mod_month_130 (by decide) ?_
                refine rp_icmp_eq (tgt := 147) d_mod_month_132 (by decide) (fun c132 => ?_) (fun c132 => ?_)
                · refine rp_bipush (v := 117) d_mod_month_147 (by decide) ?_
                  refine rp_goto (tgt := 176) d_mod_month_149 (by decide) ?_
                  refine rp_istore_n (i := 3) d_mod_month_176 rfl rfl (Nat.le_of_ble_eq_true rfl) ?_
                  refine rp_iload_n (i := 1) d_mod_month_177 rfl rfl ?_
                  refine rp_iconst (v := 1) d_mod_month_178 (by decide) ?_
                  refine rp_icmp_eq (tgt := 188) d_mod_month_179 (by decide) (fun c179 => ?_) (fun c179 => ?_)
                  · exact absurd c179 (by decide)
                  · refine rp_iload_n (i := 1) d_mod_month_182 rfl rfl ?_
                    refine rp_bipush (v := 6) d_mod_month_183 (by decide) ?_
                    refine rp_icmp_ne (tgt := 193) d_mod_month_185 (by decide) (fun c185 => ?_) (fun c185 => ?_)
                    · exact absurd (by decide) c185
                    · refine rp_bipush (v := 110) d_mod_month_188 (by decide) ?_
                      refine rp_goto (tgt := 285) d_mod_month_190 (by decide) ?_
                      refine rp_istore (i := 4) d_mod_month_285 rfl (Nat.le_of_ble_eq_true rfl) ?_
                      refine rp_aload_n (i := 0) d_mod_month_287 rfl rfl ?_
                      refine rp_iload_n (i := 2) d_mod_month_288 rfl rfl ?_
                      refine rp_callV1 d_mod_month_289 q_mod_month_132 (Or.inl ⟨_, _, _, rfl, rfl⟩) (Nat.le_of_ble_eq_true rfl) (Nat.le_of_ble_eq_true rfl) ?_
                      refine s_mod_put w (by first | omega | (simp only [List.length_append, List.length_cons, List.length_nil]; omega)) (fun h w => ?_)
                      refine rp_aload_n (i := 0) d_mod_month_292 rfl rfl ?_
                      refine rp_iload_n (i := 3) d_mod_month_293 rfl rfl ?_
                      refine rp_callV1 d_mod_month_294 q_mod_month_132 (Or.inl ⟨_, _, _, rfl, rfl⟩) (Nat.le_of_ble_eq_true rfl) (Nat.le_of_ble_eq_true rfl) ?_
                      refine s_mod_put w (by first | omega | (simp only [List.length_append, List.length_cons, List.length_nil]; omega)) (fun h w => ?_)
                      refine rp_aload_n (i := 0) d_mod_month_297 rfl rfl ?_
                      refine rp_iload (i := 4) d_mod_month_298 rfl ?_
                      refine rp_callV1 d_mod_month_300 q_mod_month_132 (Or.inl ⟨_, _, _, rfl, rfl⟩) (Nat.le_of_ble_eq_true rfl) (Nat.le_of_ble_eq_true rfl) ?_
                      refine s_mod_put w (by first | omega | (simp only [List.length_append, List.length_cons, List.length_nil]; omega)) (fun h w => ?_)
                      refine rp_return d_mod_month_303 rfl ?_
                      simp only [List.append_assoc, List.cons_append, List.nil_append] at w
                      exact k h w
                · exact absurd (by decide) c132
              · exact absurd c121 (by decide)
            · exact absurd c111 (by decide)
      · exact absurd (by decide) c8
  · show RP k_mod_month 0 [(0, .ref 19), (1, .int 7)] [] h P
    refine rp_iload_n (i := 1) d_mod_month_0 rfl rfl ?_
    refine rp_iconst (v := 1) d_mod_month_1 (by decide) ?_
    refine rp_icmp_eq (tgt := 17) d_mod_month_2 (by decide) (fun c2 => ?_) (fun c2 => ?_)
    · exact absurd c2 (by decide)
    · refine rp_iload_n (i := 1) d_mod_month_5 rfl rfl ?_
      refine rp_bipush (v := 6) d_mod_month_6 (by decide) ?_
      refine rp_icmp_eq (tgt := 17) d_mod_month_8 (by decide) (fun c8 => ?_) (fun c8 => ?_)
      · exact absurd c8 (by decide)
      · refine rp_iload_n (i := 1) d_mod_month_11 rfl rfl ?_
        refine rp_bipush (v := 7) d_mod_month_12 (by decide) ?_
        refine rp_icmp_ne (tgt := 22) d_mod_month_14 (by decide) (fun c14 => ?_) (fun c14 => ?_)
        · exact absurd (by decide) c14
        · refine rp_bipush (v := 74) d_mod_month_17 (by decide) ?_
          refine rp_goto (tgt := 98) d_mod_month_19 (by decide) ?_
          refine rp_istore_n (i := 2) d_mod_month_98 rfl rfl (Nat.le_of_ble_eq_true rfl) ?_
          refine rp_iload_n (i := 1) d_mod_month_99 rfl rfl ?_
          refine rp_iconst (v := 1) d_mod_month_100 (by decide) ?_
          refine rp_icmp_eq (tgt := 114) d_mod_month_101 (by decide) (fun c101 => ?_) (fun c101 => ?_)
          · exact absurd c101 (by decide)
          · refine rp_iload_n (i := 1) d_mod_month_104 rfl rfl ?_
            refine rp_iconst (v := 3) d_mod_month_105 (by decide) ?_
            refine rp_icmp_eq (tgt := 114) d_mod_month_106 (by decide) (fun c106 => ?_) (fun c106 => ?_)
            · exact absurd c106 (by decide)
            · refine rp_iload_n (i := 1) d_mod_month_109 rfl rfl ?_
              refine rp_iconst (v := 5) d_mod_month_110 (by decide) ?_
              refine rp_icmp_ne (tgt := 119) d_mod_month_111 (by decide) (fun c111 => ?_) (fun c111 => ?_)
              · refine rp_iload_n (i := 1) d_mod_month_119 rfl rfl ?_
                refine rp_iconst (v := 4) d_mod_month_120 (by decide) ?_
                refine rp_icmp_ne (tgt := 129) d_mod_month_121 (by decide) (fun c121 => ?_) (fun c121 => ?_)
                · refine rp_iload_n (i := 1) d_mod_month_129 rfl rfl ?_
                  refine rp_bipush (v := 6) d_mod_month_130 (by decide) ?_
                  refine rp_icmp_eq (tgt := 147) d_mod_month_132 (by decide) (fun c132 => ?_) (fun c132 => ?_)
                  · exact absurd c132 (by decide)
                  · refine rp_iload_n (i := 1) d_mod_month_135 rfl rfl ?_
                    refine rp_bipush (v := 7) d_mod_month_136 (by decide) ?_
                    refine rp_icmp_eq (tgt := 147) d_mod_month_138 (by decide) (fun c138 => ?_) (fun c138 => ?_)
                    · refine rp_bipush (v := 117) d_mod_month_147 (by decide) ?_
                      refine rp_goto (tgt := 176) d_mod_month_149 (by decide) ?_
                      refine rp_istore_n (i := 3) d_mod_month_176 rfl rfl (Nat.le_of_ble_eq_true rfl) ?_
                      refine rp_iload_n (i := 1) d_mod_month_177 rfl rfl ?_
                      refine rp_iconst (v := 1) d_mod_month_178 (by decide) ?_
                      refine rp_icmp_eq (tgt := 188) d_mod_month_179 (by decide) (fun c179 => ?_) (fun c179 => ?_)
                      · exact absurd c179 (by decide)
                      · refine rp_iload_n (i := 1) d_mod_month_182 rfl rfl ?_
                        refine rp_bipush (v := 6) d_mod_month_183 (by decide) ?_
                        refine rp_icmp_ne (tgt := 193) d_mod_month_185 (by decide) (fun c185 => ?_) (fun c185 => ?_)
                        · refine rp_iload_n (i := 1) d_mod_month_193 rfl rfl ?_
                          refine rp_iconst (v := 2) d_mod_month_194 (by decide) ?_
                          refine rp_icmp_ne (tgt := 203) d_mod_month_195 (by decide) (fun c195 => ?_) (fun c195 => ?_)
                          · refine rp_iload_n (i := 1) d_mod_month_203 rfl rfl ?_
                            refine rp_iconst (v := 3) d_mod_month_204 (by decide) ?_
                            refine rp_icmp_eq (tgt := 213) d_mod_month_205 (by decide) (fun c205 => ?_) (fun c205 => ?_)
                            · exact absurd c205 (by decide)
                            · refine rp_iload_n (i := 1) d_mod_month_208 rfl rfl ?_
                              refine rp_iconst (v := 4) d_mod_month_209 (by decide) ?_
                              refine rp_icmp_ne (tgt := 218) d_mod_month_210 (by decide) (fun c210 => ?_) (fun c210 => ?_)
                              · refine rp_iload_n (i := 1) d_mod_month_218 rfl rfl ?_
                                refine rp_iconst (v := 5) d_mod_month_219 (by decide) ?_
                                refine rp_icmp_ne (tgt := 228) d_mod_month_220 (by decide) (fun c220 => ?_) (fun c220 => ?_)
                                · refine rp_iload_n (i := 1) d_mod_month_228 rfl rfl ?_
                                  refine rp_bipush (v := 7) d_mod_month_229 (by decide) ?_
                                  refine rp_icmp_ne (tgt := 239) d_mod_month_231 (by decide) (fun c231 => ?_) (fun c231 => ?_)
                                  · exact absurd (by decide) c231
                                  · refine rp_bipush (v := 108) d_mod_month_234 (by decide) ?_
                                    refine rp_goto (tgt := 285) d_mod_month_236 (by decide) ?_
                                    refine rp_istore (i := 4) d_mod_month_285 rfl (Nat.le_of_ble_eq_true rfl) ?_
                                    refine rp_aload_n (i := 0) d_mod_month_287 rfl rfl ?_
                                    refine rp_iload_n (i := 2) d_mod_month_288 rfl rfl ?_
                                    refine rp_callV1 d_mod_month_289 q_mod_month_132 (Or.inl ⟨_, _, _, rfl, rfl⟩) (Nat.le_of_ble_eq_true rfl) (Nat.le_of_ble_eq_true rfl) ?_
                                    refine s_mod_put w (by first | omega | (simp only [List.length_append, List.length_cons, List.length_nil]; omega)) (fun h w => ?_)
                                    refine rp_aload_n (i := 0) d_mod_month_292 rfl rfl ?_
                                    refine rp_iload_n (i := 3) d_mod_month_293 rfl rfl ?_
                                    refine rp_callV1 d_mod_month_294 q_mod_month_132 (Or.inl ⟨_, _, _, rfl, rfl⟩) (Nat.le_of_ble_eq_true rfl) (Nat.le_of_ble_eq_true rfl) ?_
                                    refine s_mod_put w (by first | omega | (simp only [List.length_append, List.length_cons, List.length_nil]; omega)) (fun h w => ?_)
                                    refine rp_aload_n (i := 0) d_mod_month_297 rfl rfl ?_
                                    refine rp_iload (i := 4) d_mod_month_298 rfl ?_
                                    refine rp_callV1 d_mod_month_300 q_mod_month_132 (Or.inl ⟨_, _, _, rfl, rfl⟩) (Nat.le_of_ble_eq_true rfl) (Nat.le_of_ble_eq_true rfl) ?_
                                    refine s_mod_put w (by first | omega | (simp only [List.length_append, List.length_cons, List.length_nil]; omega)) (fun h w => ?_)
                                    refine rp_return d_mod_month_303 rfl ?_
                                    simp only [List.append_assoc, List.cons_append, List.nil_append] at w
                                    exact k h w
                                · exact absurd c220 (by decide)
                              · exact absurd c210 (by decide)
                          · exact absurd c195 (by decide)
                        · exact absurd c185 (by decide)
                    · exact absurd (by decide) c138
                · exact absurd c121 (by decide)
              · exact absurd c111 (by decide)
  · show RP k_mod_month 0 [(0, .ref 19), (1, .int 8)] [] h P
    refine rp_iload_n (i := 1) d_mod_month_0 rfl rfl ?_
    refine rp_iconst (v := 1) d_mod_month_1 (by decide) ?_
    refine rp_icmp_eq (tgt := 17) d_mod_month_2 (by decide) (fun c2 => ?_) (fun c2 => ?_)
    · exact absurd c2 (by decide)
    · refine rp_iload_n (i := 1) d_mod_month_5 rfl rfl ?_
      refine rp_bipush (v := 6) d_mod_month_6 (by decide) ?_
      refine rp_icmp_eq (tgt := 17) d_mod_month_8 (by decide) (fun c8 => ?_) (fun c8 => ?_)
      · exact absurd c8 (by decide)
      · refine rp_iload_n (i := 1) d_mod_month_11 rfl rfl ?_
        refine rp_bipush (v := 7) d_mod_month_12 (by decide) ?_
        refine rp_icmp_ne (tgt := 22) d_mod_month_14 (by decide) (fun c14 => ?_) (fun c14 => ?_)
        · refine rp_iload_n (i := 1) d_mod_month_22 rfl rfl ?_
          refine rp_iconst (v := 2) d_mod_month_23 (by decide) ?_
          refine rp_icmp_ne (tgt := 32) d_mod_month_24 (by decide) (fun c24 => ?_) (fun c24 => ?_)
          · refine rp_iload_n (i := 1) d_mod_month_32 rfl rfl ?_
            refine rp_iconst (v := 3) d_mod_month_33 (by decide) ?_
            refine rp_icmp_eq (tgt := 42) d_mod_month_34 (by decide) (fun c34 => ?_) (fun c34 => ?_)
            · exact absurd c34 (by decide)
            · refine rp_iload_n (i := 1) d_mod_month_37 rfl rfl ?_
              refine rp_iconst (v := 5) d_mod_month_38 (by decide) ?_
              refine rp_icmp_ne (tgt := 47) d_mod_month_39 (by decide) (fun c39 => ?_) (fun c39 => ?_)
              · refine rp_iload_n (i := 1) d_mod_month_47 rfl rfl ?_
                refine rp_iconst (v := 4) d_mod_month_48 (by decide) ?_
                refine rp_icmp_eq (tgt := 58) d_mod_month_49 (by decide) (fun c49 => ?_) (fun c49 => ?_)
                · exact absurd c49 (by decide)
                · refine rp_iload_n (i := 1) d_mod_month_52 rfl rfl ?_
                  refine rp_bipush (v := 8) d_mod_month_53 (by decide) ?_
                  refine rp_icmp_ne (tgt := 63) d_mod_month_55 (by decide) (fun c55 => ?_) (fun c55 => ?_)
                  · exact absurd (by decide) c55
                  · refine rp_bipush (v := 65) d_mod_month_58 (by decide) ?_
                    refine rp_goto (tgt := 98) d_mod_month_60 (by decide) ?_
                    refine rp_istore_n (i := 2) d_mod_month_98 rfl rfl (Nat.le_of_ble_eq_true rfl) ?_
                    refine rp_iload_n (i := 1) d_mod_month_99 rfl rfl ?_
                    refine rp_iconst (v := 1) d_mod_month_100 (by decide) ?_
                    refine rp_icmp_eq (tgt := 114) d_mod_month_101 (by decide) (fun c101 => ?_) (fun c101 => ?_)
                    · exact absurd c101 (by decide)
                    · refine rp_iload_n (i := 1) d_mod_month_104 rfl rfl ?_
                      refine rp_iconst (v := 3) d_mod_month_105 (by decide) ?_
                      refine rp_icmp_eq (tgt := 114) d_mod_month_106 (by decide) (fun c106 => ?_) (fun c106 => ?_)
                      · exact absurd c106 (by decide)
                      · refine rp_iload_n (i := 1) d_mod_month_109 rfl rfl ?_
                        refine rp_iconst (v := 5) d_mod_month_110 (by decide) ?_
                        refine rp_icmp_ne (tgt := 119) d_mod_month_111 (by decide) (fun c111 => ?_) (fun c111 => ?_)
                        · refine rp_iload_n (i := 1) d_mod_month_119 rfl rfl ?_
                          refine rp_iconst (v := 4) d_mod_month_120 (by decide) ?_
                          refine rp_icmp_ne (tgt := 129) d_mod_month_121 (by decide) (fun c121 => ?_) (fun c121 => ?_)
                          · refine rp_iload_n (i := 1) d_mod_month_129 rfl rfl ?_
                            refine rp_bipush (v := 6) d_mod_month_130 (by decide) ?_
                            refine rp_icmp_eq (tgt := 147) d_mod_month_132 (by decide) (fun c132 => ?_) (fun c132 => ?_)
                            · exact absurd c132 (by decide)
                            · refine rp_iload_n (i := 1) d_mod_month_135 rfl rfl ?_
                              refine rp_bipush (v := 7) d_mod_month_136 (by decide) ?_
                              refine rp_icmp_eq (tgt := 147) d_mod_month_138 (by decide) (fun c138 => ?_) (fun c138 => ?_)
                              · exact absurd c138 (by decide)
                              · refine rp_iload_n (i := 1) d_mod_month_141 rfl rfl ?_
                                refine rp_bipush (v := 8) d_mod_month_142 (by decide) ?_
                                refine rp_icmp_ne (tgt := 152) d_mod_month_144 (by decide) (fun c144 => ?_) (fun c144 => ?_)
                                · exact absurd (by decide) c144
                                · refine rp_bipush (v := 117) d_mod_month_147 (by decide) ?_
                                  refine rp_goto (tgt := 176) d_mod_month_149 (by decide) ?_
                                  refine rp_istore_n (i := 3) d_mod_month_176 rfl rfl (Nat.le_of_ble_eq_true rfl) ?_
                                  refine rp_iload_n (i := 1) d_mod_month_177 rfl rfl ?_
                                  refine rp_iconst (v := 1) d_mod_month_178 (by decide) ?_
                                  refine rp_icmp_eq (tgt := 188) d_mod_month_179 (by decide) (fun c179 => ?_) (fun c179 => ?_)
                                  · exact absurd c179 (by decide)
                                  · refine rp_iload_n (i := 1) d_mod_month_182 rfl rfl ?_
                                    refine rp_bipush (v := 6) d_mod_month_183 (by decide) ?_
                                    refine rp_icmp_ne (tgt := 193) d_mod_month_185 (by decide) (fun c185 => ?_) (fun c185 => ?_)
                                    · refine rp_iload_n (i := 1) d_mod_month_193 rfl rfl ?_
                                      refine rp_iconst (v := 2) d_mod_month_194 (by decide) ?_
                                      refine rp_icmp_ne (tgt := 203) d_mod_month_195 (by decide) (fun c195 => ?_) (fun c195 => ?_)
                                      · refine rp_iload_n (i := 1) d_mod_month_203 rfl rfl ?_
                                        refine rp_iconst (v := 3) d_mod_month_204 (by decide) ?_
                                        refine rp_icmp_eq (tgt := 213) d_mod_month_205 (by decide) (fun c205 => ?_) (fun c205 => ?_)
                                        · exact absurd c205 (by decide)
                                        · refine rp_iload_n (i := 1) d_mod_month_208 rfl rfl ?_
                                          refine rp_iconst (v := 4) d_mod_month_209 (by decide) ?_
                                          refine rp_icmp_ne (tgt := 218) d_mod_month_210 (by decide) (fun c210 => ?_) (fun c210 => ?_)
                                          · refine rp_iload_n (i := 1) d_mod_month_218 rfl rfl ?_
                                            refine rp_iconst (v := 5) d_mod_month_219 (by decide) ?_
                                            refine rp_icmp_ne (tgt := 228) d_mod_month_220 (by decide) (fun c220 => ?_) (fun c220 => ?_)
                                            · refine rp_iload_n (i := 1) d_mod_month_228 rfl rfl ?_
                                              refine rp_bipush (v := 7) d_mod_month_229 (by decide) ?_
                                              refine rp_icmp_ne (tgt := 239) d_mod_month_231 (by decide) (fun c231 => ?_) (fun c231 => ?_)
                                              · refine rp_iload_n (i := 1) d_mod_month_239 rfl rfl ?_
                                                refine rp_bipush (v := 8) d_mod_month_240 (by decide) ?_
                                                refine rp_icmp_ne (tgt := 250) d_mod_month_242 (by decide) (fun c242 => ?_) (fun c242 => ?_)
                                                · exact absurd (by decide) c242
                                                · refine rp_bipush (v := 103) d_mod_month_245 (by decide) ?_
                                                  refine rp_goto (tgt := 285) d_mod_month_247 (by decide) ?_
                                                  refine rp_istore (i := 4) d_mod_month_285 rfl (Nat.le_of_ble_eq_true rfl) ?_
                                                  refine rp_aload_n (i := 0) d_mod_month_287 rfl rfl ?_
                                                  refine rp_iload_n (i := 2) d_mod_month_288 rfl rfl ?_
                                                  refine rp_callV1 d_mod_month_289 q_mod_month_132 (Or.inl ⟨_, _, _, rfl, rfl⟩) (Nat.le_of_ble_eq_true rfl) (Nat.le_of_ble_eq_true rfl) ?_
                                                  refine s_mod_put w (by first | omega | (simp only [List.length_append, List.length_cons, List.length_nil]; omega)) (fun h w => ?_)
                                                  refine rp_aload_n (i := 0) d_mod_month_292 rfl rfl ?_
                                                  refine rp_iload_n (i := 3) d_mod_month_293 rfl rfl ?_
                                                  refine rp_callV1 d_mod_month_294 q_mod_month_132 (Or.inl ⟨_, _, _, rfl, rfl⟩) (Nat.le_of_ble_eq_true rfl) (Nat.le_of_ble_eq_true rfl) ?_
                                                  refine s_mod_put w (by first | omega | (simp only [List.length_append, List.length_cons, List.length_nil]; omega)) (fun h w => ?_)
                                                  refine rp_aload_n (i := 0) d_mod_month_297 rfl rfl ?_
                                                  refine rp_iload (i := 4) d_mod_month_298 rfl ?_
                                                  refine rp_callV1 d_mod_month_300 q_mod_month_132 (Or.inl ⟨_, _, _, rfl, rfl⟩) (Nat.le_of_ble_eq_true rfl) (Nat.le_of_ble_eq_true rfl) ?_
                                                  refine s_mod_put w (by first | omega | (simp only [List.length_append, List.length_cons, List.length_nil]; omega)) (fun h w => ?_)
                                                  refine rp_return d_mod_month_303 rfl ?_
                                                  simp only [List.append_assoc, List.cons_append, List.nil_append] at w
                                                  exact k h w
                                              · exact absurd c231 (by decide)
                                            · exact absurd c220 (by decide)
                                          · exact absurd c210 (by decide)
                                      · exact absurd c195 (by decide)
                                    · exact absurd c185 (by decide)
                          · exact absurd c121 (by decide)
                        · exact absurd c111 (by decide)
              · exact absurd c39 (by decide)
          · exact absurd c24 (by decide)
        · exact absurd c14 (by decide)
  · show RP k_mod_month 0 [(0, .ref 19), (1, .int 9)] [] h P
    refine rp_iload_n (i := 1) d_mod_month_0 rfl rfl ?_
    refine rp_iconst (v := 1) d_mod_month_1 (by decide) ?_
    refine rp_icmp_eq (tgt := 17) d_mod_month_2 (by decide) (fun c2 => ?_) (fun c2 => ?_)
    · exact absurd c2 (by decide)
    · refine rp_iload_n (i := 1) d_mod_month_5 rfl rfl ?_
      refine rp_bipush (v := 6) d_mod_month_6 (by decide) ?_
      refine rp_icmp_eq (tgt := 17) d_mod_month_8 (by decide) (fun c8 => ?_) (fun c8 => ?_)
      · exact absurd c8 (by decide)
      · refine rp_iload_n (i := 1) d_mod_month_11 rfl rfl ?_
        refine rp_bipush (v := 7) d_mod_month_12 (by decide) ?_
        refine rp_icmp_ne (tgt := 22) d_mod_month_14 (by decide) (fun c14 => ?_) (fun c14 => ?_)
        · refine rp_iload_n (i := 1) d_mod_month_22 rfl rfl ?_
          refine rp_iconst (v := 2) d_mod_month_23 (by decide) ?_
          refine rp_icmp_ne (tgt := 32) d_mod_month_24 (by decide) (fun c24 => ?_) (fun c24 => ?_)
          · refine rp_iload_n (i := 1) d_mod_month_32 rfl rfl ?_
            refine rp_iconst (v := 3) d_mod_month_33 (by decide) ?_
            refine rp_icmp_eq (tgt := 42) d_mod_month_34 (by decide) (fun c34 => ?_) (fun c34 => ?_)
            · exact absurd c34 (by decide)
            · refine rp_iload_n (i := 1) d_mod_month_37 rfl rfl ?_
              refine rp_iconst (v := 5) d_mod_month_38 (by decide) ?_
              refine rp_icmp_ne (tgt := 47) d_mod_month_39 (by decide) (fun c39 => ?_) (fun c39 => ?_)
              · refine rp_iload_n (i := 1) d_mod_month_47 rfl rfl ?_
                refine rp_iconst (v := 4) d_mod_month_48 (by decide) ?_
                refine rp_icmp_eq (tgt := 58) d_mod_month_49 (by decide) (fun c49 => ?_) (fun c49 => ?_)
                · exact absurd c49 (by decide)
                · refine rp_iload_n (i := 1) d_mod_month_52 rfl rfl ?_
                  refine rp_bipush (v := 8) d_mod_month_53 (by decide) ?_
                  refine rp_icmp_ne (tgt := 63) d_mod_month_55 (by decide) (fun c55 => ?_) (fun c55 => ?_)
                  · refine rp_iload_n (i := 1) d_mod_month_63 rfl rfl ?_
                    refine rp_bipush (v := 9) d_mod_month_64 (by decide) ?_
                    refine rp_icmp_ne (tgt := 74) d_mod_month_66 (by decide) (fun c66 => ?_) (fun c66 => ?_)
                    · exact absurd (by decide) c66
                    · refine rp_bipush (v := 83) d_mod_month_69 (by decide) ?_
                      refine rp_goto (tgt := 98) d_mod_month_71 (by decide) ?_
                      refine rp_istore_n (i := 2) d_mod_month_98 rfl rfl (Nat.le_of_ble_eq_true rfl) ?_
                      refine rp_iload_n (i := 1) d_mod_month_99 rfl rfl ?_
                      refine rp_iconst (v := 1) d_mod_month_100 (by decide) ?_
                      refine rp_icmp_eq (tgt := 114) d_mod_month_101 (by decide) (fun c101 => ?_) (fun c101 => ?_)
                      · exact absurd c101 (by decide)
                      · refine rp_iload_n (i := 1) d_mod_month_104 rfl rfl ?_
                        refine rp_iconst (v := 3) d_mod_month_105 (by decide) ?_
                        refine rp_icmp_eq (tgt := 114) d_mod_month_106 (by decide) (fun c106 => ?_) (fun c106 => ?_)
                        · exact absurd c106 (by decide)
                        · refine rp_iload_n (i := 1) d_mod_month_109 rfl rfl ?_
                          refine rp_iconst (v := 5) d_mod_month_110 (by decide) ?_
                          refine rp_icmp_ne (tgt := 119) d_mod_month_111 (by decide) (fun c111 => ?_) (fun c111 => ?_)
                          · refine rp_iload_n (i := 1) d_mod_month_119 rfl rfl ?_
                            refine rp_iconst (v := 4) d_mod_month_120 (by decide) ?_
                            refine rp_icmp_ne (tgt := 129) d_mod_month_121 (by decide) (fun c121 => ?_) (fun c121 => ?_)
                            · refine rp_iload_n (i := 1) d_mod_month_129 rfl rfl ?_
                              refine rp_bipush (v := 6) d_mod_month_130 (by decide) ?_
                              refine rp_icmp_eq (tgt := 147) d_mod_month_132 (by decide) (fun c132 => ?_) (fun c132 => ?_)
                              · exact absurd c132 (by decide)
                              · refine rp_iload_n (i := 1) d_mod_month_135 rfl rfl ?_
                                refine rp_bipush (v := 7) d_mod_month_136 (by decide) ?_
                                refine rp_icmp_eq (tgt := 147) d_mod_month_138 (by decide) (fun c138 => ?_) (fun c138 => ?_)
                                · exact absurd c138 (by decide)
                                · refine rp_iload_n (i := 1) d_mod_month_141 rfl rfl ?_
                                  refine rp_bipush (v := 8) d_mod_month_142 (by decide) ?_
                                  refine rp_icmp_ne (tgt := 152) d_mod_month_144 (by decide) (fun c144 => ?_) (fun c144 => ?_)
                                  · refine rp_iload_n (i := 1) d_mod_month_152 rfl rfl ?_
                                    refine rp_bipush (v := 10) d_mod_month_153 (by decide) ?_
                                    refine rp_icmp_ne (tgt := 163) d_mod_month_155 (by decide) (fun c155 => ?_) (fun c155 => ?_)
                                    · refine rp_iload_n (i := 1) d_mod_month_163 rfl rfl ?_
                                      refine rp_bipush (v := 11) d_mod_month_164 (by decide) ?_
                                      refine rp_icmp_ne (tgt := 174) d_mod_month_166 (by decide) (fun c166 => ?_) (fun c166 => ?_)
                                      · refine rp_bipush (v := 101) d_mod_month_174 (by decide) ?_
                                        refine rp_istore_n (i := 3) d_mod_month_176 rfl rfl (Nat.le_of_ble_eq_true rfl) ?_
                                        refine rp_iload_n (i := 1) d_mod_month_177 rfl rfl ?_
                                        refine rp_iconst (v := 1) d_mod_month_178 (by decide) ?_
                                        refine rp_icmp_eq (tgt := 188) d_mod_month_179 (by decide) (fun c179 => ?_) (fun c179 => ?_)
                                        · exact absurd c179 (by decide)
                                        · refine rp_iload_n (i := 1) d_mod_month_182 rfl rfl ?_
                                          refine rp_bipush (v := 6) d_mod_month_183 (by decide) ?_
                                          refine rp_icmp_ne (tgt := 193) d_mod_month_185 (by decide) (fun c185 => ?_) (fun c185 => ?_)
                                          · refine rp_iload_n (i := 1) d_mod_month_193 rfl rfl ?_
                                            refine rp_iconst (v := 2) d_mod_month_194 (by decide) ?_
                                            refine rp_icmp_ne (tgt := 203) d_mod_month_195 (by decide) (fun c195 => ?_) (fun c195 => ?_)
                                            · refine rp_iload_n (i := 1) d_mod_month_203 rfl rfl ?_
                                              refine rp_iconst (v := 3) d_mod_month_204 (by decide) ?_
                                              refine rp_icmp_eq (tgt := 213) d_mod_month_205 (by decide) (fun c205 => ?_) (fun c205 => ?_)
                                              · exact absurd c205 (by decide)
                                              · refine rp_iload_n (i := 1) d_mod_month_208 rfl rfl ?_
                                                refine rp_iconst (v := 4) d_mod_month_209 (by decide) ?_
                                                refine rp_icmp_ne (tgt := 218) d_mod_month_210 (by decide) (fun c210 => ?_) (fun c210 => ?_)
                                                · refine rp_iload_n (i := 1) d_mod_month_218 rfl rfl ?_
                                                  refine rp_iconst (v := 5) d_mod_month_219 (by decide) ?_
                                                  refine rp_icmp_ne (tgt := 228) d_mod_month_220 (by decide) (fun c220 => ?_) (fun c220 => ?_)
                                                  · refine rp_iload_n (i := 1) d_mod_month_228 rfl rfl ?_
                                                    refine rp_bipush (v := 7) d_mod_month_229 (by decide) ?_
                                                    refine rp_icmp_ne (tgt := 239) d_mod_month_231 (by decide) (fun c231 => ?_) (fun c231 => ?_)
                                                    · refine rp_iload_n (i := 1) d_mod_month_239 rfl rfl ?_
                                                      refine rp_bipush (v := 8) d_mod_month_240 (by decide) ?_
                                                      refine rp_icmp_ne (tgt := 250) d_mod_month_242 (by decide) (fun c242 => ?_) (fun c242 => ?_)
                                                      · refine rp_iload_n (i := 1) d_mod_month_250 rfl rfl ?_
                                                        refine rp_bipush (v := 9) d_mod_month_251 (by decide) ?_
                                                        refine rp_icmp_ne (tgt := 261) d_mod_month_253 (by decide) (fun c253 => ?_) (fun c253 => ?_)
                                                        · exact absurd (by decide) c253
                                                        · refine rp_bipush (v := 112) d_mod_month_256 (by decide) ?_
                                                          refine rp_goto (tgt := 285) d_mod_month_258 (by decide) ?_
                                                          refine rp_istore (i := 4) d_mod_month_285 rfl (Nat.le_of_ble_eq_true rfl) ?_
                                                          refine rp_aload_n (i := 0) d_mod_month_287 rfl rfl ?_
                                                          refine rp_iload_n (i := 2) d_mod_month_288 rfl rfl ?_
                                                          refine rp_callV1 d_mod_month_289 q_mod_month_132 (Or.inl ⟨_, _, _, rfl, rfl⟩) (Nat.le_of_ble_eq_true rfl) (Nat.le_of_ble_eq_true rfl) ?_
                                                          refine s_mod_put w (by first | omega | (simp only [List.length_append, List.length_cons, List.length_nil]; omega)) (fun h w => ?_)
                                                          refine rp_aload_n (i := 0) d_mod_month_292 rfl rfl ?_
                                                          refine rp_iload_n (i := 3) d_mod_month_293 rfl rfl ?_
                                                          refine rp_callV1 d_mod_month_294 q_mod_month_132 (Or.inl ⟨_, _, _, rfl, rfl⟩) (Nat.le_of_ble_eq_true rfl) (Nat.le_of_ble_eq_true rfl) ?_
                                                          refine s_mod_put w (by first | omega | (simp only [List.length_append, List.length_cons, List.length_nil]; omega)) (fun h w => ?_)
                                                          refine rp_aload_n (i := 0) d_mod_month_297 rfl rfl ?_
                                                          refine rp_iload (i := 4) d_mod_month_298 rfl ?_
                                                          refine rp_callV1 d_mod_month_300 q_mod_month_132 (Or.inl ⟨_, _, _, rfl, rfl⟩) (Nat.le_of_ble_eq_true rfl) (Nat.le_of_ble_eq_true rfl) ?_
                                                          refine s_mod_put w (by first | omega | (simp only [List.length_append, List.length_cons, List.length_nil]; omega)) (fun h w => ?_)
                                                          refine rp_return d_mod_month_303 rfl ?_
                                                          simp only [List.append_assoc, List.cons_append, List.nil_append] at w
                                                          exact k h w
                                                      · exact absurd c242 (by decide)
                                                    · exact absurd c231 (by decide)
                                                  · exact absurd c220 (by decide)
                                                · exact absurd c210 (by decide)
                                            · exact absurd c195 (by decide)
                                          · exact absurd c185 (by decide)
                                      · exact absurd c166 (by decide)
                                    · exact absurd c155 (by decide)
                                  · exact absurd c144 (by decide)
                            · exact absurd c121 (by decide)
                          · exact absurd c111 (by decide)
                  · exact absurd c55 (by decide)
              · exact absurd c39 (by decide)
          · exact absurd c24 (by decide)
        · exact absurd c14 (by decide)
  · show RP k_mod_month 0 [(0, .ref 19), (1, .int 10)] [] h P
    refine rp_iload_n (i := 1) d_mod_month_0 rfl rfl ?_
    refine rp_iconst (v := 1) d_mod_month_1 (by decide) ?_
    refine rp_icmp_eq (tgt := 17) d_mod_month_2 (by decide) (fun c2 => ?_) (fun c2 => ?_)
    · exact absurd c2 (by decide)
    · refine rp_iload_n (i := 1) d_mod_month_5 rfl rfl ?_
      refine rp_bipush (v := 6) d_mod_month_6 (by decide) ?_
      refine rp_icmp_eq (tgt := 17) d_mod_month_8 (by decide) (fun c8 => ?_) (fun c8 => ?_)
      · exact absurd c8 (by decide)
      · refine rp_iload_n (i := 1) d_mod_month_11 rfl rfl ?_
        refine rp_bipush (v := 7) d_mod_month_12 (by decide) ?_
        refine rp_icmp_ne (tgt := 22) d_mod_month_14 (by decide) (fun c14 => ?_) (fun c14 => ?_)
        · refine rp_iload_n (i := 1) d_mod_month_22 rfl rfl ?_
          refine rp_iconst (v := 2) d_mod_month_23 (by decide) ?_
          refine rp_icmp_ne (tgt := 32) d_mod_month_24 (by decide) (fun c24 => ?_) (fun c24 => ?_)
          · refine rp_iload_n (i := 1) d_mod_month_32 rfl rfl ?_
            refine rp_iconst (v := 3) d_mod_month_33 (by decide) ?_
            refine rp_icmp_eq (tgt := 42) d_mod_month_34 (by decide) (fun c34 => ?_) (fun c34 => ?_)
            · exact absurd c34 (by decide)
            · refine rp_iload_n (i := 1) d_mod_month_37 rfl rfl ?_
              refine rp_iconst (v := 5) d_mod_month_38 (by decide) ?_
              refine rp_icmp_ne (tgt := 47) d_mod_month_39 (by decide) (fun c39 => ?_) (fun c39 => ?_)
              · refine rp_iload_n (i := 1) d_mod_month_47 rfl rfl ?_
                refine rp_iconst (v := 4) d_mod_month_48 (by decide) ?_
                refine rp_icmp_eq (tgt := 58) d_mod_month_49 (by decide) (fun c49 => ?_) (fun c49 => ?_)
                · exact absurd c49 (by decide)
                · refine rp_iload_n (i := 1) d_mod_month_52 rfl rfl ?_
                  refine rp_bipush (v := 8) d_mod_month_53 (by decide) ?_
                  refine rp_icmp_ne (tgt := 63) d_mod_month_55 (by decide) (fun c55 => ?_) (fun c55 => ?_)
                  · refine rp_iload_n (i := 1) d_mod_month_63 rfl rfl ?_
                    refine rp_bipush (v := 9) d_mod_month_64 (by decide) ?_
                    refine rp_icmp_ne (tgt := 74) d_mod_month_66 (by decide) (fun c66 => ?_) (fun c66 => ?_)
                    · refine rp_iload_n (i := 1) d_mod_month_74 rfl rfl ?_
                      refine rp_bipush (v := 10) d_mod_month_75 (by decide) ?_
                      refine rp_icmp_ne (tgt := 85) d_mod_month_77 (by decide) (fun c77 => ?_) (fun c77 => ?_)
                      · exact absurd (by decide) c77
                      · refine rp_bipush (v := 79) d_mod_month_80 (by decide) ?_
                        refine rp_goto (tgt := 98) d_mod_month_82 (by decide) ?_
                        refine rp_istore_n (i := 2) d_mod_month_98 rfl rfl (Nat.le_of_ble_eq_true rfl) ?_
                        refine rp_iload_n (i := 1) d_mod_month_99 rfl rfl ?_
                        refine rp_iconst (v := 1) d_mod_month_100 (by decide) ?_
                        refine rp_icmp_eq (tgt := 114) d_mod_month_101 (by decide) (fun c101 => ?_) (fun c101 => ?_)
                        · exact absurd c101 (by decide)
                        · refine rp_iload_n (i := 1) d_mod_month_104 rfl rfl ?_
                          refine rp_iconst (v := 3) d_mod_month_105 (by decide) ?_
                          refine rp_icmp_eq (tgt := 114) d_mod_month_106 (by decide) (fun c106 => ?_) (fun c106 => ?_)
                          · exact absurd c106 (by decide)
                          · refine rp_iload_n (i := 1) d_mod_month_109 rfl rfl ?_
                            refine rp_iconst (v := 5) d_mod_month_110 (by decide) ?_
                            refine rp_icmp_ne (tgt := 119) d_mod_month_111 (by decide) (fun c111 => ?_) (fun c111 => ?_)
                            · refine rp_iload_n (i := 1) d_mod_month_119 rfl rfl ?_
                              refine rp_iconst (v := 4) d_mod_month_120 (by decide) ?_
                              refine rp_icmp_ne (tgt := 129) d_mod_month_121 (by decide) (fun c121 => ?_) (fun c121 => ?_)
                              · refine rp_iload_n (i := 1) d_mod_month_129 rfl rfl ?_
                                refine rp_bipush (v := 6) d_mod_month_130 (by decide) ?_
                                refine rp_icmp_eq (tgt := 147) d_mod_month_132 (by decide) (fun c132 => ?_) (fun c132 => ?_)
                                · exact absurd c132 (by decide)
                                · refine rp_iload_n (i := 1) d_mod_month_135 rfl rfl ?_
                                  refine rp_bipush (v := 7) d_mod_month_136 (by decide) ?_
                                  refine rp_icmp_eq (tgt := 147) d_mod_month_138 (by decide) (fun c138 => ?_) (fun c138 => ?_)
                                  · exact absurd c138 (by decide)
                                  · refine rp_iload_n (i := 1) d_mod_month_141 rfl rfl ?_
                                    refine rp_bipush (v := 8) d_mod_month_142 (by decide) ?_
                                    refine rp_icmp_ne (tgt := 152) d_mod_month_144 (by decide) (fun c144 => ?_) (fun c144 => ?_)
                                    · refine rp_iload_n (i := 1) d_mod_month_152 rfl rfl ?_
                                      refine rp_bipush (v := 10) d_mod_month_153 (by decide) ?_
                                      refine rp_icmp_ne (tgt := 163) d_mod_month_155 (by decide) (fun c155 => ?_) (fun c155 => ?_)
                                      · exact absurd (by decide) c155
                                      · refine rp_bipush (v := 99) d_mod_month_158 (by decide) ?_
                                        refine rp_goto (tgt := 176) d_mod_month_160 (by decide) ?_
                                        refine rp_istore_n (i := 3) d_mod_month_176 rfl rfl (Nat.le_of_ble_eq_true rfl) ?_
                                        refine rp_iload_n (i := 1) d_mod_month_177 rfl rfl ?_
                                        refine rp_iconst (v := 1) d_mod_month_178 (by decide) ?_
                                        refine rp_icmp_eq (tgt := 188) d_mod_month_179 (by decide) (fun c179 => ?_) (fun c179 => ?_)
                                        · exact absurd c179 (by decide)
                                        · refine rp_iload_n (i := 1) d_mod_month_182 rfl rfl ?_
                                          refine rp_bipush (v := 6) d_mod_month_183 (by decide) ?_
                                          refine rp_icmp_ne (tgt := 193) d_mod_month_185 (by decide) (fun c185 => ?_) (fun c185 => ?_)
                                          · refine rp_iload_n (i := 1) d_mod_month_193 rfl rfl ?_
                                            refine rp_iconst (v := 2) d_mod_month_194 (by decide) ?_
                                            refine rp_icmp_ne (tgt := 203) d_mod_month_195 (by decide) (fun c195 => ?_) (fun c195 => ?_)
                                            · refine rp_iload_n (i := 1) d_mod_month_203 rfl rfl ?_
                                              refine rp_iconst (v := 3) d_mod_month_204 (by decide) ?_
                                              refine rp_icmp_eq (tgt := 213) d_mod_month_205 (by decide) (fun c205 => ?_) (fun c205 => ?_)
                                              · exact absurd c205 (by decide)
                                              · refine rp_iload_n (i := 1) d_mod_month_208 rfl rfl ?_
                                                refine rp_iconst (v := 4) d_mod_month_209 (by decide) ?_
                                                refine rp_icmp_ne (tgt := 218) d_mod_month_210 (by decide) (fun c210 => ?_) (fun c210 => ?_)
                                                · refine rp_iload_n (i := 1) d_mod_month_218 rfl rfl ?_
                                                  refine rp_iconst (v := 5) d_mod_month_219 (by decide) ?_
                                                  refine rp_icmp_ne (tgt := 228) d_mod_month_220 (by decide) (fun c220 => ?_) (fun c220 => ?_)
                                                  · refine rp_iload_n (i := 1) d_mod_month_228 rfl rfl ?_
                                                    refine rp_bipush (v := 7) d_mod_month_229 (by decide) ?_
                                                    refine rp_icmp_ne (tgt := 239) d_mod_month_231 (by decide) (fun c231 => ?_) (fun c231 => ?_)
                                                    · refine rp_iload_n (i := 1) d_mod_month_239 rfl rfl ?_
                                                      refine rp_bipush (v := 8) d_mod_month_240 (by decide) ?_
                                                      refine rp_icmp_ne (tgt := 250) d_mod_month_242 (by decide) (fun c242 => ?_) (fun c242 => ?_)
                                                      · refine rp_iload_n (i := 1) d_mod_month_250 rfl rfl ?_
                                                        refine rp_bipush (v := 9) d_mod_month_251 (by decide) ?_
                                                        refine rp_icmp_ne (tgt := 261) d_mod_month_253 (by decide) (fun c253 => ?_) (fun c253 => ?_)
                                                        · refine rp_iload_n (i := 1) d_mod_month_261 rfl rfl ?_
                                                          refine rp_bipush (v := 10) d_mod_month_262 (by decide) ?_
                                                          refine rp_icmp_ne (tgt := 272) d_mod_month_264 (by decide) (fun c264 => ?_) (fun c264 => ?_)
                                                          · exact absurd (by decide) c264
                                                          · refine rp_bipush (v := 116) d_mod_month_267 (by decide) ?_
                                                            refine rp_goto (tgt := 285) d_mod_month_269 (by decide) ?_
                                                            refine rp_istore (i := 4) d_mod_month_285 rfl (Nat.le_of_ble_eq_true rfl) ?_
                                                            refine rp_aload_n (i := 0) d_mod_month_287 rfl rfl ?_
                                                            refine rp_iload_n (i := 2) d_mod_month_288 rfl rfl ?_
                                                            refine rp_callV1 d_mod_month_289 q_mod_month_132 (Or.inl ⟨_, _, _, rfl, rfl⟩) (Nat.le_of_ble_eq_true rfl) (Nat.le_of_ble_eq_true rfl) ?_
                                                            refine s_mod_put w (by first | omega | (simp only [List.length_append, List.length_cons, List.length_nil]; omega)) (fun h w => ?_)
                                                            refine rp_aload_n (i := 0) d_mod_month_292 rfl rfl ?_
                                                            refine rp_iload_n (i := 3) d_mod_month_293 rfl rfl ?_
                                                            refine rp_callV1 d_mod_month_294 q_mod_month_132 (Or.inl ⟨_, _, _, rfl, rfl⟩) (Nat.le_of_ble_eq_true rfl) (Nat.le_of_ble_eq_true rfl) ?_
                                                            refine s_mod_put w (by first | omega | (simp only [List.length_append, List.length_cons, List.length_nil]; omega)) (fun h w => ?_)
                                                            refine rp_aload_n (i := 0) d_mod_month_297 rfl rfl ?_
                                                            refine rp_iload (i := 4) d_mod_month_298 rfl ?_
                                                            refine rp_callV1 d_mod_month_300 q_mod_month_132 (Or.inl ⟨_, _, _, rfl, rfl⟩) (Nat.le_of_ble_eq_true rfl) (Nat.le_of_ble_eq_true rfl) ?_
                                                            refine s_mod_put w (by first | omega | (simp only [List.length_append, List.length_cons, List.length_nil]; omega)) (fun h w => ?_)
                                                            refine rp_return d_mod_month_303 rfl ?_
                                                            simp only [List.append_assoc, List.cons_append, List.nil_append] at w
                                                            exact k h w
                                                        · exact absurd c253 (by decide)
                                                      · exact absurd c242 (by decide)
                                                    · exact absurd c231 (by decide)
                                                  · exact absurd c220 (by decide)
                                                · exact absurd c210 (by decide)
                                            · exact absurd c195 (by decide)
                                          · exact absurd c185 (by decide)
                                    · exact absurd c144 (by decide)
                              · exact absurd c121 (by decide)
                            · exact absurd c111 (by decide)
                    · exact absurd c66 (by decide)
                  · exact absurd c55 (by decide)
              · exact absurd c39 (by decide)
          · exact absurd c24 (by decide)
        · exact absurd c14 (by decide)
  · show RP k_mod_month 0 [(0, .ref 19), (1, .int 11)] [] h P
    refine rp_iload_n (i := 1) d_mod_month_0 rfl rfl ?_
    refine rp_iconst (v := 1) d_mod_month_1 (by decide) ?_
    refine rp_icmp_eq (tgt := 17) d_mod_month_2 (by decide) (fun c2 => ?_) (fun c2 => ?_)
    · exact absurd c2 (by decide)
    · refine rp_iload_n (i := 1) d_mod_month_5 rfl rfl ?_
      refine rp_bipush (v := 6) d_mod_month_6 (by decide) ?_
      refine rp_icmp_eq (tgt := 17) d_mod_month_8 (by decide) (fun c8 => ?_) (fun c8 => ?_)
      · exact absurd c8 (by decide)
      · refine rp_iload_n (i := 1) d_mod_month_11 rfl rfl ?_
        refine rp_bipush (v := 7) d_mod_month_12 (by decide) ?_
        refine rp_icmp_ne (tgt := 22) d_mod_month_14 (by decide) (fun c14 => ?_) (fun c14 => ?_)
        · refine rp_iload_n (i := 1) d_mod_month_22 rfl rfl ?_
          refine rp_iconst (v := 2) d_mod_month_23 (by decide) ?_
          refine rp_icmp_ne (tgt := 32) d_mod_month_24 (by decide) (fun c24 => ?_) (fun c24 => ?_)
          · refine rp_iload_n (i := 1) d_mod_month_32 rfl rfl ?_
            refine rp_iconst (v := 3) d_mod_month_33 (by decide) ?_
            refine rp_icmp_eq (tgt := 42) d_mod_month_34 (by decide) (fun c34 => ?_) (fun c34 => ?_)
            · exact absurd c34 (by decide)
            · refine rp_iload_n (i := 1) d_mod_month_37 rfl rfl ?_
              refine rp_iconst (v := 5) d_mod_month_38 (by decide) ?_
              refine rp_icmp_ne (tgt := 47) d_mod_month_39 (by decide) (fun c39 => ?_) (fun c39 => ?_)
              · refine rp_iload_n (i := 1) d_mod_month_47 rfl rfl ?_
                refine rp_iconst (v := 4) d_mod_month_48 (by decide) ?_
                refine rp_icmp_eq (tgt := 58) d_mod_month_49 (by decide) (fun c49 => ?_) (fun c49 => ?_)
                · exact absurd c49 (by decide)
                · refine rp_iload_n (i := 1) d_mod_month_52 rfl rfl ?_
                  refine rp_bipush (v := 8) d_mod_month_53 (by decide) ?_
                  refine rp_icmp_ne (tgt := 63) d_mod_month_55 (by decide) (fun c55 => ?_) (fun c55 => ?_)
                  · refine rp_iload_n (i := 1) d_mod_month_63 rfl rfl ?_
                    refine rp_bipush (v := 9) d_mod_month_64 (by decide) ?_
                    refine rp_icmp_ne (tgt := 74) d_mod_month_66 (by decide) (fun c66 => ?_) (fun c66 => ?_)
                    · refine rp_iload_n (i := 1) d_mod_month_74 rfl rfl ?_
                      refine rp_bipush (v := 10) d_mod_month_75 (by decide) ?_
                      refine rp_icmp_ne (tgt := 85) d_mod_month_77 (by decide) (fun c77 => ?_) (fun c77 => ?_)
                      · refine rp_iload_n (i := 1) d_mod_month_85 rfl rfl ?_
                        refine rp_bipush (v := 11) d_mod_month_86 (by decide) ?_
                        refine rp_icmp_ne (tgt := 96) d_mod_month_88 (by decide) (fun c88 => ?_) (fun c88 => ?_)
                        · exact absurd (by decide) c88
                        · refine rp_bipush (v := 78) d_mod_month_91 (by decide) ?_
                          refine rp_goto (tgt := 98) d_mod_month_93 (by decide) ?_
                          refine rp_istore_n (i := 2) d_mod_month_98 rfl rfl (Nat.le_of_ble_eq_true rfl) ?_
                          refine rp_iload_n (i := 1) d_mod_month_99 rfl rfl ?_
                          refine rp_iconst (v := 1) d_mod_month_100 (by decide) ?_
                          refine rp_icmp_eq (tgt := 114) d_mod_month_101 (by decide) (fun c101 => ?_) (fun c101 => ?_)
                          · exact absurd c101 (by decide)
                          · refine rp_iload_n (i := 1) d_mod_month_104 rfl rfl ?_
                            refine rp_iconst (v := 3) d_mod_month_105 (by decide) ?_
                            refine rp_icmp_eq (tgt := 114) d_mod_month_106 (by decide) (fun c106 => ?_) (fun c106 => ?_)
                            · exact absurd c106 (by decide)
                            · refine rp_iload_n (i := 1) d_mod_month_109 rfl rfl ?_
                              refine rp_iconst (v := 5) d_mod_month_110 (by decide) ?_
                              refine rp_icmp_ne (tgt := 119) d_mod_month_111 (by decide) (fun c111 => ?_) (fun c111 => ?_)
                              · refine rp_iload_n (i := 1) d_mod_month_119 rfl rfl ?_
                                refine rp_iconst (v := 4) d_mod_month_120 (by decide) ?_
                                refine rp_icmp_ne (tgt := 129) d_mod_month_121 (by decide) (fun c121 => ?_) (fun c121 => ?_)
                                · refine rp_iload_n (i := 1) d_mod_month_129 rfl rfl ?_
                                  refine rp_bipush (v := 6) d_mod_month_130 (by decide) ?_
                                  refine rp_icmp_eq (tgt := 147) d_mod_month_132 (by decide) (fun c132 => ?_) (fun c132 => ?_)
                                  · exact absurd c132 (by decide)
                                  · refine rp_iload_n (i := 1) d_mod_month_135 rfl rfl ?_
                                    refine rp_bipush (v := 7) d_mod_month_136 (by decide) ?_
                                    refine rp_icmp_eq (tgt := 147) d_mod_month_138 (by decide) (fun c138 => ?_) (fun c138 => ?_)
                                    · exact absurd c138 (by decide)
                                    · refine rp_iload_n (i := 1) d_mod_month_141 rfl rfl ?_
                                      refine rp_bipush (v := 8) d_mod_month_142 (by decide) ?_
                                      refine rp_icmp_ne (tgt := 152) d_mod_month_144 (by decide) (fun c144 => ?_) (fun c144 => ?_)
                                      · refine rp_iload_n (i := 1) d_mod_month_152 rfl rfl ?_
                                        refine rp_bipush (v := 10) d_mod_month_153 (by decide) ?_
                                        refine rp_icmp_ne (tgt := 163) d_mod_month_155 (by decide) (fun c155 => ?_) (fun c155 => ?_)
                                        · refine rp_iload_n (i := 1) d_mod_month_163 rfl rfl ?_
                                          refine rp_bipush (v := 11) d_mod_month_164 (by decide) ?_
                                          refine rp_icmp_ne (tgt := 174) d_mod_month_166 (by decide) (fun c166 => ?_) (fun c166 => ?_)
                                          · exact absurd (by decide) c166
                                          · refine rp_bipush (v := 111) d_mod_month_169 (by decide) ?_
                                            refine rp_goto (tgt := 176) d_mod_month_171 (by decide) ?_
                                            refine rp_istore_n (i := 3) d_mod_month_176 rfl rfl (Nat.le_of_ble_eq_true rfl) ?_
                                            refine rp_iload_n (i := 1) d_mod_month_177 rfl rfl ?_
                                            refine rp_iconst (v := 1) d_mod_month_178 (by decide) ?_
                                            refine rp_icmp_eq (tgt := 188) d_mod_month_179 (by decide) (fun c179 => ?_) (fun c179 => ?_)
                                            · exact absurd c179 (by decide)
                                            · refine rp_iload_n (i := 1) d_mod_month_182 rfl rfl ?_
                                              refine rp_bipush (v := 6) d_mod_month_183 (by decide) ?_
                                              refine rp_icmp_ne (tgt := 193) d_mod_month_185 (by decide) (fun c185 => ?_) (fun c185 => ?_)
                                              · refine rp_iload_n (i := 1) d_mod_month_193 rfl rfl ?_
                                                refine rp_iconst (v := 2) d_mod_month_194 (by decide) ?_
                                                refine rp_icmp_ne (tgt := 203) d_mod_month_195 (by decide) (fun c195 => ?_) (fun c195 => ?_)
                                                · refine rp_iload_n (i := 1) d_mod_month_203 rfl rfl ?_
                                                  refine rp_iconst (v := 3) d_mod_month_204 (by decide) ?_
                                                  refine rp_icmp_eq (tgt := 213) d_mod_month_205 (by decide) (fun c205 => ?_) (fun c205 => ?_)
                                                  · exact absurd c205 (by decide)
                                                  · refine rp_iload_n (i := 1) d_mod_month_208 rfl rfl ?_
                                                    refine rp_iconst (v := 4) d_mod_month_209 (by decide) ?_
                                                    refine rp_icmp_ne (tgt := 218) d_mod_month_210 (by decide) (fun c210 => ?_) (fun c210 => ?_)
                                                    · refine rp_iload_n (i := 1) d_mod_month_218 rfl rfl ?_
                                                      refine rp_iconst (v := 5) d_mod_month_219 (by decide) ?_
                                                      refine rp_icmp_ne (tgt := 228) d_mod_month_220 (by decide) (fun c220 => ?_) (fun c220 => ?_)
                                                      · refine rp_iload_n (i := 1) d_mod_month_228 rfl rfl ?_
                                                        refine rp_bipush (v := 7) d_mod_month_229 (by decide) ?_
                                                        refine rp_icmp_ne (tgt := 239) d_mod_month_231 (by decide) (fun c231 => ?_) (fun c231 => ?_)
                                                        · refine rp_iload_n (i := 1) d_mod_month_239 rfl rfl ?_
                                                          refine rp_bipush (v := 8) d_mod_month_240 (by decide) ?_
                                                          refine rp_icmp_ne (tgt := 250) d_mod_month_242 (by decide) (fun c242 => ?_) (fun c242 => ?_)
                                                          · refine rp_iload_n (i := 1) d_mod_month_250 rfl rfl ?_
                                                            refine rp_bipush (v := 9) d_mod_month_251 (by decide) ?_
                                                            refine rp_icmp_ne (tgt := 261) d_mod_month_253 (by decide) (fun c253 => ?_) (fun c253 => ?_)
                                                            · refine rp_iload_n (i := 1) d_mod_month_261 rfl rfl ?_
                                                              refine rp_bipush (v := 10) d_mod_month_262 (by decide) ?_
                                                              refine rp_icmp_ne (tgt := 272) d_mod_month_264 (by decide) (fun c264 => ?_) (fun c264 => ?_)
                                                              · refine rp_iload_n (i := 1) d_mod_month_272 rfl rfl ?_
                                                                refine rp_bipush (v := 11) d_mod_month_273 (by decide) ?_
                                                                refine rp_icmp_ne (tgt := 283) d_mod_month_275 (by decide) (fun c275 => ?_) (fun c275 => ?_)
                                                                · exact absurd (by decide) c275
                                                                · refine rp_bipush (v := 118) d_mod_month_278 (by decide) ?_
                                                                  refine rp_goto (tgt := 285) d_mod_month_280 (by decide) ?_
                                                                  refine rp_istore (i := 4) d_mod_month_285 rfl (Nat.le_of_ble_eq_true rfl) ?_
                                                                  refine rp_aload_n (i := 0) d_mod_month_287 rfl rfl ?_
                                                                  refine rp_iload_n (i := 2) d_mod_month_288 rfl rfl ?_
                                                                  refine rp_callV1 d_mod_month_289 q_mod_month_132 (Or.inl ⟨_, _, _, rfl, rfl⟩) (Nat.le_of_ble_eq_true rfl) (Nat.le_of_ble_eq_true rfl) ?_
                                                                  refine s_mod_put w (by first | omega | (simp only [List.length_append, List.length_cons, List.length_nil]; omega)) (fun h w => ?_)
                                                                  refine rp_aload_n (i := 0) d_mod_month_292 rfl rfl ?_
                                                                  refine rp_iload_n (i := 3) d_mod_month_293 rfl rfl ?_
                                                                  refine rp_callV1 d_mod_month_294 q_mod_month_132 (Or.inl ⟨_, _, _, rfl, rfl⟩) (Nat.le_of_ble_eq_true rfl) (Nat.le_of_ble_eq_true rfl) ?_
                                                                  refine s_mod_put w (by first | omega | (simp only [List.length_append, List.length_cons, List.length_nil]; omega)) (fun h w => ?_)
                                                                  refine rp_aload_n (i := 0) d_mod_month_297 rfl rfl ?_
                                                                  refine rp_iload (i := 4) d_mod_month_298 rfl ?_
                                                                  refine rp_callV1 d_mod_month_300 q_mod_month_132 (Or.inl ⟨_, _, _, rfl, rfl⟩) (Nat.le_of_ble_eq_true rfl) (Nat.le_of_ble_eq_true rfl) ?_
                                                                  refine s_mod_put w (by first | omega | (simp only [List.length_append, List.length_cons, List.length_nil]; omega)) (fun h w => ?_)
                                                                  refine rp_return d_mod_month_303 rfl ?_
                                                                  simp only [List.append_assoc, List.cons_append, List.nil_append] at w
                                                                  exact k h w
                                                              · exact absurd c264 (by decide)
                                                            · exact absurd c253 (by decide)
                                                          · exact absurd c242 (by decide)
                                                        · exact absurd c231 (by decide)
                                                      · exact absurd c220 (by decide)
                                                    · exact absurd c210 (by decide)
                                                · exact absurd c195 (by decide)
                                              · exact absurd c185 (by decide)
                                        · exact absurd c155 (by decide)
                                      · exact absurd c144 (by decide)
                                · exact absurd c121 (by decide)
                              · exact absurd c111 (by decide)
                      · exact absurd c77 (by decide)
                    · exact absurd c66 (by decide)
                  · exact absurd c55 (by decide)
              · exact absurd c39 (by decide)
          · exact absurd c24 (by decide)
        · exact absurd c14 (by decide)
  · show RP k_mod_month 0 [(0, .ref 19), (1, .int 12)] [] h P
    refine rp_iload_n (i := 1) d_mod_month_0 rfl rfl ?_
    refine rp_iconst (v := 1) d_mod_month_1 (by decide) ?_
    refine rp_icmp_eq (tgt := 17) d_mod_month_2 (by decide) (fun c2 => ?_) (fun c2 => ?_)
    · exact absurd c2 (by decide)
    · refine rp_iload_n (i := 1) d_mod_month_5 rfl rfl ?_
      refine rp_bipush (v := 6) d_mod_month_6 (by decide) ?_
      refine rp_icmp_eq (tgt := 17) d_mod_month_8 (by decide) (fun c8 => ?_) (fun c8 => ?_)
      · exact absurd c8 (by decide)
      · refine rp_iload_n (i := 1) d_mod_month_11 rfl rfl ?_
        refine rp_bipush (v := 7) d_mod_month_12 (by decide) ?_
        refine rp_icmp_ne (tgt := 22) d_mod_month_14 (by decide) (fun c14 => ?_) (fun c14 => ?_)
        · refine rp_iload_n (i := 1) d_mod_month_22 rfl rfl ?_
          refine rp_iconst (v := 2) d_mod_month_23 (by decide) ?_
          refine rp_icmp_ne (tgt := 32) d_mod_month_24 (by decide) (fun c24 => ?_) (fun c24 => ?_)
          · refine rp_iload_n (i := 1) d_mod_month_32 rfl rfl ?_
            refine rp_iconst (v := 3) d_mod_month_33 (by decide) ?_
            refine rp_icmp_eq (tgt := 42) d_mod_month_34 (by decide) (fun c34 => ?_) (fun c34 => ?_)
            · exact absurd c34 (by decide)
            · refine rp_iload_n (i := 1) d_mod_month_37 rfl rfl ?_
              refine rp_iconst (v := 5) d_mod_month_38 (by decide) ?_
              refine rp_icmp_ne (tgt := 47) d_mod_month_39 (by decide) (fun c39 => ?_) (fun c39 => ?_)
              · refine rp_iload_n (i := 1) d_mod_month_47 rfl rfl ?_
                refine rp_iconst (v := 4) d_mod_month_48 (by decide) ?_
                refine rp_icmp_eq (tgt := 58) d_mod_month_49 (by decide) (fun c49 => ?_) (fun c49 => ?_)
                · exact absurd c49 (by decide)
                · refine rp_iload_n (i := 1) d_mod_month_52 rfl rfl ?_
                  refine rp_bipush (v := 8) d_mod_month_53 (by decide) ?_
                  refine rp_icmp_ne (tgt := 63) d_mod_month_55 (by decide) (fun c55 => ?_) (fun c55 => ?_)
                  · refine rp_iload_n (i := 1) d_mod_month_63 rfl rfl ?_
                    refine rp_bipush (v := 9) d_mod_month_64 (by decide) ?_
                    refine rp_icmp_ne (tgt := 74) d_mod_month_66 (by decide) (fun c66 => ?_) (fun c66 => ?_)
                    · refine rp_iload_n (i := 1) d_mod_month_74 rfl rfl ?_
                      refine rp_bipush (v := 10) d_mod_month_75 (by decide) ?_
                      refine rp_icmp_ne (tgt := 85) d_mod_month_77 (by decide) (fun c77 => ?_) (fun c77 => ?_)
                      · refine rp_iload_n (i := 1) d_mod_month_85 rfl rfl ?_
                        refine rp_bipush (v := 11) d_mod_month_86 (by decide) ?_
                        refine rp_icmp_ne (tgt := 96) d_mod_month_88 (by decide) (fun c88 => ?_) (fun c88 => ?_)
                        · refine rp_bipush (v := 68) d_mod_month_96 (by decide) ?_
                          refine rp_istore_n (i := 2) d_mod_month_98 rfl rfl (Nat.le_of_ble_eq_true rfl) ?_
                          refine rp_iload_n (i := 1) d_mod_month_99 rfl rfl ?_
                          refine rp_iconst (v := 1) d_mod_month_100 (by decide) ?_
                          refine rp_icmp_eq (tgt := 114) d_mod_month_101 (by decide) (fun c101 => ?_) (fun c101 => ?_)
                          · exact absurd c101 (by decide)
                          · refine rp_iload_n (i := 1) d_mod_month_104 rfl rfl ?_
                            refine rp_iconst (v := 3) d_mod_month_105 (by decide) ?_
                            refine rp_icmp_eq (tgt := 114) d_mod_month_106 (by decide) (fun c106 => ?_) (fun c106 => ?_)
                            · exact absurd c106 (by decide)
                            · refine rp_iload_n (i := 1) d_mod_month_109 rfl rfl ?_
                              refine rp_iconst (v := 5) d_mod_month_110 (by decide) ?_
                              refine rp_icmp_ne (tgt := 119) d_mod_month_111 (by decide) (fun c111 => ?_) (fun c111 => ?_)
                              · refine rp_iload_n (i := 1) d_mod_month_119 rfl rfl ?_
                                refine rp_iconst (v := 4) d_mod_month_120 (by decide) ?_
                                refine rp_icmp_ne (tgt := 129) d_mod_month_121 (by decide) (fun c121 => ?_) (fun c121 => ?_)
                                · refine rp_iload_n (i := 1) d_mod_month_129 rfl rfl ?_
                                  refine rp_bipush (v := 6) d_mod_month_130 (by decide) ?_
                                  refine rp_icmp_eq (tgt := 147) d_mod_month_132 (by decide) (fun c132 => ?_) (fun c132 => ?_)
                                  · exact absurd c132 (by decide)
                                  · refine rp_iload_n (i := 1) d_mod_month_135 rfl rfl ?_
                                    refine rp_bipush (v := 7) d_mod_month_136 (by decide) ?_
                                    refine rp_icmp_eq (tgt := 147) d_mod_month_138 (by decide) (fun c138 => ?_) (fun c138 => ?_)
                                    · exact absurd c138 (by decide)
                                    · refine rp_iload_n (i := 1) d_mod_month_141 rfl rfl ?_
                                      refine rp_bipush (v := 8) d_mod_month_142 (by decide) ?_
                                      refine rp_icmp_ne (tgt := 152) d_mod_month_144 (by decide) (fun c144 => ?_) (fun c144 => ?_)
                                      · refine rp_iload_n (i := 1) d_mod_month_152 rfl rfl ?_
                                        refine rp_bipush (v := 10) d_mod_month_153 (by decide) ?_
                                        refine rp_icmp_ne (tgt := 163) d_mod_month_155 (by decide) (fun c155 => ?_) (fun c155 => ?_)
                                        · refine rp_iload_n (i := 1) d_mod_month_163 rfl rfl ?_
                                          refine rp_bipush (v := 11) d_mod_month_164 (by decide) ?_
                                          refine rp_icmp_ne (tgt := 174) d_mod_month_166 (by decide) (fun c166 => ?_) (fun c166 => ?_)
                                          · refine rp_bipush (v := 101) d_mod_month_174 (by decide) ?_
                                            refine rp_istore_n (i := 3) d_mod_month_176 rfl rfl (Nat.le_of_ble_eq_true rfl) ?_
                                            refine rp_iload_n (i := 1) d_mod_month_177 rfl rfl ?_
                                            refine rp_iconst (v := 1) d_mod_month_178 (by decide) ?_
                                            refine rp_icmp_eq (tgt := 188) d_mod_month_179 (by decide) (fun c179 => ?_) (fun c179 => ?_)
                                            · exact absurd c179 (by decide)
                                            · refine rp_iload_n (i := 1) d_mod_month_182 rfl rfl ?_
                                              refine rp_bipush (v := 6) d_mod_month_183 (by decide) ?_
                                              refine rp_icmp_ne (tgt := 193) d_mod_month_185 (by decide) (fun c185 => ?_) (fun c185 => ?_)
                                              · refine rp_iload_n (i := 1) d_mod_month_193 rfl rfl ?_
                                                refine rp_iconst (v := 2) d_mod_month_194 (by decide) ?_
                                                refine rp_icmp_ne (tgt := 203) d_mod_month_195 (by decide) (fun c195 => ?_) (fun c195 => ?_)
                                                · refine rp_iload_n (i := 1) d_mod_month_203 rfl rfl ?_
                                                  refine rp_iconst (v := 3) d_mod_month_204 (by decide) ?_
                                                  refine rp_icmp_eq (tgt := 213) d_mod_month_205 (by decide) (fun c205 => ?_) (fun c205 => ?_)
                                                  · exact absurd c205 (by decide)
                                                  · refine rp_iload_n (i := 1) d_mod_month_208 rfl rfl ?_
                                                    refine rp_iconst (v := 4) d_mod_month_209 (by decide) ?_
                                                    refine rp_icmp_ne (tgt := 218) d_mod_month_210 (by decide) (fun c210 => ?_) (fun c210 => ?_)
                                                    · refine rp_iload_n (i := 1) d_mod_month_218 rfl rfl ?_
                                                      refine rp_iconst (v := 5) d_mod_month_219 (by decide) ?_
                                                      refine rp_icmp_ne (tgt := 228) d_mod_month_220 (by decide) (fun c220 => ?_) (fun c220 => ?_)
                                                      · refine rp_iload_n (i := 1) d_mod_month_228 rfl rfl ?_
                                                        refine rp_bipush (v := 7) d_mod_month_229 (by decide) ?_
                                                        refine rp_icmp_ne (tgt := 239) d_mod_month_231 (by decide) (fun c231 => ?_) (fun c231 => ?_)
                                                        · refine rp_iload_n (i := 1) d_mod_month_239 rfl rfl ?_
                                                          refine rp_bipush (v := 8) d_mod_month_240 (by decide) ?_
                                                          refine rp_icmp_ne (tgt := 250) d_mod_month_242 (by decide) (fun c242 => ?_) (fun c242 => ?_)
                                                          · refine rp_iload_n (i := 1) d_mod_month_250 rfl rfl ?_
                                                            refine rp_bipush (v := 9) d_mod_month_251 (by decide) ?_
                                                            refine rp_icmp_ne (tgt := 261) d_mod_month_253 (by decide) (fun c253 => ?_) (fun c253 => ?_)
                                                            · refine rp_iload_n (i := 1) d_mod_month_261 rfl rfl ?_
                                                              refine rp_bipush (v := 10) d_mod_month_262 (by decide) ?_
                                                              refine rp_icmp_ne (tgt := 272) d_mod_month_264 (by decide) (fun c264 => ?_) (fun c264 => ?_)
                                                              · refine rp_iload_n (i := 1) d_mod_month_272 rfl rfl ?_
                                                                refine rp_bipush (v := 11) d_mod_month_273 (by decide) ?_
                                                                refine rp_icmp_ne (tgt := 283) d_mod_month_275 (by decide) (fun c275 => ?_) (fun c275 => ?_)
                                                                · refine rp_bipush (v := 99) d_mod_month_283 (by decide) ?_
                                                                  refine rp_istore (i := 4) d_mod_month_285 rfl (Nat.le_of_ble_eq_true rfl) ?_
                                                                  refine rp_aload_n (i := 0) d_mod_month_287 rfl rfl ?_
                                                                  refine rp_iload_n (i := 2) d_mod_month_288 rfl rfl ?_
                                                                  refine rp_callV1 d_mod_month_289 q_mod_month_132 (Or.inl ⟨_, _, _, rfl, rfl⟩) (Nat.le_of_ble_eq_true rfl) (Nat.le_of_ble_eq_true rfl) ?_
                                                                  refine s_mod_put w (by first | omega | (simp only [List.length_append, List.length_cons, List.length_nil]; omega)) (fun h w => ?_)
                                                                  refine rp_aload_n (i := 0) d_mod_month_292 rfl rfl ?_
                                                                  refine rp_iload_n (i := 3) d_mod_month_293 rfl rfl ?_
                                                                  refine rp_callV1 d_mod_month_294 q_mod_month_132 (Or.inl ⟨_, _, _, rfl, rfl⟩) (Nat.le_of_ble_eq_true rfl) (Nat.le_of_ble_eq_true rfl) ?_
                                                                  refine s_mod_put w (by first | omega | (simp only [List.length_append, List.length_cons, List.length_nil]; omega)) (fun h w => ?_)
                                                                  refine rp_aload_n (i := 0) d_mod_month_297 rfl rfl ?_
                                                                  refine rp_iload (i := 4) d_mod_month_298 rfl ?_
                                                                  refine rp_callV1 d_mod_month_300 q_mod_month_132 (Or.inl ⟨_, _, _, rfl, rfl⟩) (Nat.le_of_ble_eq_true rfl) (Nat.le_of_ble_eq_true rfl) ?_
                                                                  refine s_mod_put w (by first | omega | (simp only [List.length_append, List.length_cons, List.length_nil]; omega)) (fun h w => ?_)
                                                                  refine rp_return d_mod_month_303 rfl ?_
                                                                  simp only [List.append_assoc, List.cons_append, List.nil_append] at w
                                                                  exact k h w
                                                                · exact absurd c275 (by decide)
                                                              · exact absurd c264 (by decide)
                                                            · exact absurd c253 (by decide)
                                                          · exact absurd c242 (by decide)
                                                        · exact absurd c231 (by decide)
                                                      · exact absurd c220 (by decide)
                                                    · exact absurd c210 (by decide)
                                                · exact absurd c195 (by decide)
                                              · exact absurd c185 (by decide)
                                          · exact absurd c166 (by decide)
                                        · exact absurd c155 (by decide)
                                      · exact absurd c144 (by decide)
                                · exact absurd c121 (by decide)
                              · exact absurd c111 (by decide)
                        · exact absurd c88 (by decide)
                      · exact absurd c77 (by decide)
                    · exact absurd c66 (by decide)
                  · exact absurd c55 (by decide)
              · exact absurd c39 (by decide)
          · exact absurd c24 (by decide)
        · exact absurd c14 (by decide)

set_option maxHeartbeats 4000000 in
set_option maxRecDepth 100000 in
theorem s_mod_weekday {h0 h : cf_H} {P : Option Value → cf_H → Prop} {L : List Int32} (w : vT h0 L h) {m : Nat} (h1 : 1 ≤ m) (h2 : m ≤ 7) (hl : L.length + 3 ≤ 600) {x : Int32} (hx : x = nI m) (k : ∀ h', vT h0 (L ++ wkd m) h' → P none h') : RP k_mod_weekday 0 [(0, .ref 19), (1, .int x)] [] h P := by
  subst hx
  rcases (show m = 1 ∨ m = 2 ∨ m = 3 ∨ m = 4 ∨ m = 5 ∨ m = 6 ∨ m = 7 by omega) with e | e | e | e | e | e | e <;> subst e
  · show RP k_mod_weekday 0 [(0, .ref 19), (1, .int 1)] [] h P
    refine rp_aload_n (i := 0) d_mod_weekday_0 rfl rfl ?_
    refine rp_iload_n (i := 1) d_mod_weekday_1 rfl rfl ?_
    refine rp_iconst (v := 1) d_mod_weekday_2 (by decide) ?_
    refine rp_icmp_eq (tgt := 12) d_mod_weekday_3 (by decide) (fun c3 => ?_) (fun c3 => ?_)
    · refine rp_bipush (v := 83) d_mod_weekday_12 (by decide) ?_
      refine rp_goto (tgt := 54) d_mod_weekday_14 (by decide) ?_
      refine rp_callV1 d_mod_weekday_54 q_mod_weekday_132 (Or.inl ⟨_, _, _, rfl, rfl⟩) (Nat.le_of_ble_eq_true rfl) (Nat.le_of_ble_eq_true rfl) ?_
      refine s_mod_put w (by first | omega | (simp only [List.length_append, List.length_cons, List.length_nil]; omega)) (fun h w => ?_)
      refine rp_aload_n (i := 0) d_mod_weekday_57 rfl rfl ?_
      refine rp_iload_n (i := 1) d_mod_weekday_58 rfl rfl ?_
      refine rp_iconst (v := 1) d_mod_weekday_59 (by decide) ?_
      refine rp_icmp_eq (tgt := 68) d_mod_weekday_60 (by decide) (fun c60 => ?_) (fun c60 => ?_)
      · refine rp_bipush (v := 117) d_mod_weekday_68 (by decide) ?_
        refine rp_goto (tgt := 116) d_mod_weekday_70 (by decide) ?_
        refine rp_callV1 d_mod_weekday_116 q_mod_weekday_132 (Or.inl ⟨_, _, _, rfl, rfl⟩) (Nat.le_of_ble_eq_true rfl) (Nat.le_of_ble_eq_true rfl) ?_
        refine s_mod_put w (by first | omega | (simp only [List.length_append, List.length_cons, List.length_nil]; omega)) (fun h w => ?_)
        refine rp_aload_n (i := 0) d_mod_weekday_119 rfl rfl ?_
        refine rp_iload_n (i := 1) d_mod_weekday_120 rfl rfl ?_
        refine rp_iconst (v := 1) d_mod_weekday_121 (by decide) ?_
        refine rp_icmp_eq (tgt := 130) d_mod_weekday_122 (by decide) (fun c122 => ?_) (fun c122 => ?_)
        · refine rp_bipush (v := 110) d_mod_weekday_130 (by decide) ?_
          refine rp_goto (tgt := 178) d_mod_weekday_132 (by decide) ?_
          refine rp_callV1 d_mod_weekday_178 q_mod_weekday_132 (Or.inl ⟨_, _, _, rfl, rfl⟩) (Nat.le_of_ble_eq_true rfl) (Nat.le_of_ble_eq_true rfl) ?_
          refine s_mod_put w (by first | omega | (simp only [List.length_append, List.length_cons, List.length_nil]; omega)) (fun h w => ?_)
          refine rp_return d_mod_weekday_181 rfl ?_
          simp only [List.append_assoc, List.cons_append, List.nil_append] at w
          exact k h w
        · exact absurd (by decide) c122
      · exact absurd (by decide) c60
    · exact absurd (by decide) c3
  · show RP k_mod_weekday 0 [(0, .ref 19), (1, .int 2)] [] h P
    refine rp_aload_n (i := 0) d_mod_weekday_0 rfl rfl ?_
    refine rp_iload_n (i := 1) d_mod_weekday_1 rfl rfl ?_
    refine rp_iconst (v := 1) d_mod_weekday_2 (by decide) ?_
    refine rp_icmp_eq (tgt := 12) d_mod_weekday_3 (by decide) (fun c3 => ?_) (fun c3 => ?_)
    · exact absurd c3 (by decide)
    · refine rp_iload_n (i := 1) d_mod_weekday_6 rfl rfl ?_
      refine rp_bipush (v := 7) d_mod_weekday_7 (by decide) ?_
      refine rp_icmp_ne (tgt := 17) d_mod_weekday_9 (by decide) (fun c9 => ?_) (fun c9 => ?_)
      · refine rp_iload_n (i := 1) d_mod_weekday_17 rfl rfl ?_
        refine rp_iconst (v := 2) d_mod_weekday_18 (by decide) ?_
        refine rp_icmp_ne (tgt := 27) d_mod_weekday_19 (by decide) (fun c19 => ?_) (fun c19 => ?_)
        · exact absurd (by decide) c19
        · refine rp_bipush (v := 77) d_mod_weekday_22 (by decide) ?_
          refine rp_goto (tgt := 54) d_mod_weekday_24 (by decide) ?_
          refine rp_callV1 d_mod_weekday_54 q_mod_weekday_132 (Or.inl ⟨_, _, _, rfl, rfl⟩) (Nat.le_of_ble_eq_true rfl) (Nat.le_of_ble_eq_true rfl) ?_
          refine s_mod_put w (by first | omega | (simp only [List.length_append, List.length_cons, List.length_nil]; omega)) (fun h w => ?_)
          refine rp_aload_n (i := 0) d_mod_weekday_57 rfl rfl ?_
          refine rp_iload_n (i := 1) d_mod_weekday_58 rfl rfl ?_
          refine rp_iconst (v := 1) d_mod_weekday_59 (by decide) ?_
          refine rp_icmp_eq (tgt := 68) d_mod_weekday_60 (by decide) (fun c60 => ?_) (fun c60 => ?_)
          · exact absurd c60 (by decide)
          · refine rp_iload_n (i := 1) d_mod_weekday_63 rfl rfl ?_
            refine rp_iconst (v := 3) d_mod_weekday_64 (by decide) ?_
            refine rp_icmp_ne (tgt := 73) d_mod_weekday_65 (by decide) (fun c65 => ?_) (fun c65 => ?_)
            · refine rp_iload_n (i := 1) d_mod_weekday_73 rfl rfl ?_
              refine rp_iconst (v := 2) d_mod_weekday_74 (by decide) ?_
              refine rp_icmp_ne (tgt := 83) d_mod_weekday_75 (by decide) (fun c75 => ?_) (fun c75 => ?_)
              · exact absurd (by decide) c75
              · refine rp_bipush (v := 111) d_mod_weekday_78 (by decide) ?_
                refine rp_goto (tgt := 116) d_mod_weekday_80 (by decide) ?_
                refine rp_callV1 d_mod_weekday_116 q_mod_weekday_132 (Or.inl ⟨_, _, _, rfl, rfl⟩) (Nat.le_of_ble_eq_true rfl) (Nat.le_of_ble_eq_true rfl) ?_
                refine s_mod_put w (by first | omega | (simp only [List.length_append, List.length_cons, List.length_nil]; omega)) (fun h w => ?_)
                refine rp_aload_n (i := 0) d_mod_weekday_119 rfl rfl ?_
                refine rp_iload_n (i := 1) d_mod_weekday_120 rfl rfl ?_
                refine rp_iconst (v := 1) d_mod_weekday_121 (by decide) ?_
                refine rp_icmp_eq (tgt := 130) d_mod_weekday_122 (by decide) (fun c122 => ?_) (fun c122 => ?_)
                · exact absurd c122 (by decide)
                · refine rp_iload_n (i := 1) d_mod_weekday_125 rfl rfl ?_
                  refine rp_iconst (v := 2) d_mod_weekday_126 (by decide) ?_
                  refine rp_icmp_ne (tgt := 135) d_mod_weekday_127 (by decide) (fun c127 => ?_) (fun c127 => ?_)
                  · exact absurd (by decide) c127
                  · refine rp_bipush (v := 110) d_mod_weekday_130 (by decide) ?_
                    refine rp_goto (tgt := 178) d_mod_weekday_132 (by decide) ?_
                    refine rp_callV1 d_mod_weekday_178 q_mod_weekday_132 (Or.inl ⟨_, _, _, rfl, rfl⟩) (Nat.le_of_ble_eq_true rfl) (Nat.le_of_ble_eq_true rfl) ?_
                    refine s_mod_put w (by first | omega | (simp only [List.length_append, List.length_cons, List.length_nil]; omega)) (fun h w => ?_)
                    refine rp_return d_mod_weekday_181 rfl ?_
                    simp only [List.append_assoc, List.cons_append, List.nil_append] at w
                    exact k h w
            · exact absurd c65 (by decide)
      · exact absurd c9 (by decide)
  · show RP k_mod_weekday 0 [(0, .ref 19), (1, .int 3)] [] h P
    refine rp_aload_n (i := 0) d_mod_weekday_0 rfl rfl ?_
    refine rp_iload_n (i := 1) d_mod_weekday_1 rfl rfl ?_
    refine rp_iconst (v := 1) d_mod_weekday_2 (by decide) ?_
    refine rp_icmp_eq (tgt := 12) d_mod_weekday_3 (by decide) (fun c3 => ?_) (fun c3 => ?_)
    · exact absurd c3 (by decide)
    · refine rp_iload_n (i := 1) d_mod_weekday_6 rfl rfl ?_
      refine rp_bipush (v := 7) d_mod_weekday_7 (by decide) ?_
      refine rp_icmp_ne (tgt := 17) d_mod_weekday_9 (by decide) (fun c9 => ?_) (fun c9 => ?_)
      · refine rp_iload_n (i := 1) d_mod_weekday_17 rfl rfl ?_
        refine rp_iconst (v := 2) d_mod_weekday_18 (by decide) ?_
        refine rp_icmp_ne (tgt := 27) d_mod_weekday_19 (by decide) (fun c19 => ?_) (fun c19 => ?_)
        · refine rp_iload_n (i := 1) d_mod_weekday_27 rfl rfl ?_
          refine rp_iconst (v := 3) d_mod_weekday_28 (by decide) ?_
          refine rp_icmp_eq (tgt := 37) d_mod_weekday_29 (by decide) (fun c29 => ?_) (fun c29 => ?_)
          · refine rp_bipush (v := 84) d_mod_weekday_37 (by decide) ?_
            refine rp_goto (tgt := 54) d_mod_weekday_39 (by decide) ?_
            refine rp_callV1 d_mod_weekday_54 q_mod_weekday_132 (Or.inl ⟨_, _, _, rfl, rfl⟩) (Nat.le_of_ble_eq_true rfl) (Nat.le_of_ble_eq_true rfl) ?_
            refine s_mod_put w (by first | omega | (simp only [List.length_append, List.length_cons, List.length_nil]; omega)) (fun h w => ?_)
            refine rp_aload_n (i := 0) d_mod_weekday_57 rfl rfl ?_
            refine rp_iload_n (i := 1) d_mod_weekday_58 rfl rfl ?_
            refine rp_iconst (v := 1) d_mod_weekday_59 (by decide) ?_
            refine rp_icmp_eq (tgt := 68) d_mod_weekday_60 (by decide) (fun c60 => ?_) (fun c60 => ?_)
            · exact absurd c60 (by decide)
            · refine rp_iload_n (i := 1) d_mod_weekday_63 rfl rfl ?_
              refine rp_iconst (v := 3) d_mod_weekday_64 (by decide) ?_
              refine rp_icmp_ne (tgt := 73) d_mod_weekday_65 (by decide) (fun c65 => ?_) (fun c65 => ?_)
              · exact absurd (by decide) c65
              · refine rp_bipush (v := 117) d_mod_weekday_68 (by decide) ?_
                refine rp_goto (tgt := 116) d_mod_weekday_70 (by decide) ?_
                refine rp_callV1 d_mod_weekday_116 q_mod_weekday_132 (Or.inl ⟨_, _, _, rfl, rfl⟩) (Nat.le_of_ble_eq_true rfl) (Nat.le_of_ble_eq_true rfl) ?_
                refine s_mod_put w (by first | omega | (simp only [List.length_append, List.length_cons, List.length_nil]; omega)) (fun h w => ?_)
                refine rp_aload_n (i := 0) d_mod_weekday_119 rfl rfl ?_
                refine rp_iload_n (i := 1) d_mod_weekday_120 rfl rfl ?_
                refine rp_iconst (v := 1) d_mod_weekday_121 (by decide) ?_
                refine rp_icmp_eq (tgt := 130) d_mod_weekday_122 (by decide) (fun c122 => ?_) (fun c122 => ?_)
                · exact absurd c122 (by decide)
                · refine rp_iload_n (i := 1) d_mod_weekday_125 rfl rfl ?_
                  refine rp_iconst (v := 2) d_mod_weekday_126 (by decide) ?_
                  refine rp_icmp_ne (tgt := 135) d_mod_weekday_127 (by decide) (fun c127 => ?_) (fun c127 => ?_)
                  · refine rp_iload_n (i := 1) d_mod_weekday_135 rfl rfl ?_
                    refine rp_iconst (v := 3) d_mod_weekday_136 (by decide) ?_
                    refine rp_icmp_ne (tgt := 145) d_mod_weekday_137 (by decide) (fun c137 => ?_) (fun c137 => ?_)
                    · exact absurd (by decide) c137
                    · refine rp_bipush (v := 101) d_mod_weekday_140 (by decide) ?_
                      refine rp_goto (tgt := 178) d_mod_weekday_142 (by decide) ?_
                      refine rp_callV1 d_mod_weekday_178 q_mod_weekday_132 (Or.inl ⟨_, _, _, rfl, rfl⟩) (Nat.le_of_ble_eq_true rfl) (Nat.le_of_ble_eq_true rfl) ?_
                      refine s_mod_put w (by first | omega | (simp only [List.length_append, List.length_cons, List.length_nil]; omega)) (fun h w => ?_)
                      refine rp_return d_mod_weekday_181 rfl ?_
                      simp only [List.append_assoc, List.cons_append, List.nil_append] at w
                      exact k h w
                  · exact absurd c127 (by decide)
          · exact absurd (by decide) c29
        · exact absurd c19 (by decide)
      · exact absurd c9 (by decide)
  · show RP k_mod_weekday 0 [(0, .ref 19), (1, .int 4)] [] h P
    refine rp_aload_n (i := 0) d_mod_weekday_0 rfl rfl ?_
    refine rp_iload_n (i := 1) d_mod_weekday_1 rfl rfl ?_
    refine rp_iconst (v := 1) d_mod_weekday_2 (by decide) ?_
    refine rp_icmp_eq (tgt := 12) d_mod_weekday_3 (by decide) (fun c3 => ?_) (fun c3 => ?_)
    · exact absurd c3 (by decide)
    · refine rp_iload_n (i := 1) d_mod_weekday_6 rfl rfl ?_
      refine rp_bipush (v := 7) d_mod_weekday_7 (by decide) ?_
      refine rp_icmp_ne (tgt := 17) d_mod_weekday_9 (by decide) (fun c9 => ?_) (fun c9 => ?_)
      · refine rp_iload_n (i := 1) d_mod_weekday_17 rfl rfl ?_
        refine rp_iconst (v := 2) d_mod_weekday_18 (by decide) ?_
        refine rp_icmp_ne (tgt := 27) d_mod_weekday_19 (by decide) (fun c19 => ?_) (fun c19 => ?_)
        · refine rp_iload_n (i := 1) d_mod_weekday_27 rfl rfl ?_
          refine rp_iconst (v := 3) d_mod_weekday_28 (by decide) ?_
          refine rp_icmp_eq (tgt := 37) d_mod_weekday_29 (by decide) (fun c29 => ?_) (fun c29 => ?_)
          · exact absurd c29 (by decide)
          · refine rp_iload_n (i := 1) d_mod_weekday_32 rfl rfl ?_
            refine rp_iconst (v := 5) d_mod_weekday_33 (by decide) ?_
            refine rp_icmp_ne (tgt := 42) d_mod_weekday_34 (by decide) (fun c34 => ?_) (fun c34 => ?_)
            · refine rp_iload_n (i := 1) d_mod_weekday_42 rfl rfl ?_
              refine rp_iconst (v := 4) d_mod_weekday_43 (by decide) ?_
              refine rp_icmp_ne (tgt := 52) d_mod_weekday_44 (by decide) (fun c44 => ?_) (fun c44 => ?_)
              · exact absurd (by decide) c44
              · refine rp_bipush (v := 87) d_mod_weekday_47 (by decide) ?_
                refine rp_goto (tgt := 54) d_mod_weekday_49 (by decide) ?_
                refine rp_callV1 d_mod_weekday_54 q_mod_weekday_132 (Or.inl ⟨_, _, _, rfl, rfl⟩) (Nat.le_of_ble_eq_true rfl) (Nat.le_of_ble_eq_true rfl) ?_
                refine s_mod_put w (by first | omega | (simp only [List.length_append, List.length_cons, List.length_nil]; omega)) (fun h w => ?_)
                refine rp_aload_n (i := 0) d_mod_weekday_57 rfl rfl ?_
                refine rp_iload_n (i := 1) d_mod_weekday_58 rfl rfl ?_
                refine rp_iconst (v := 1) d_mod_weekday_59 (by decide) ?_
                refine rp_icmp_eq (tgt := 68) d_mod_weekday_60 (by decide) (fun c60 => ?_) (fun c60 => ?_)
                · exact absurd c60 (by decide)
                · refine rp_iload_n (i := 1) d_mod_weekday_63 rfl rfl ?_
                  refine rp_iconst (v := 3) d_mod_weekday_64 (by decide) ?_
                  refine rp_icmp_ne (tgt := 73) d_mod_weekday_65 (by decide) (fun c65 => ?_) (fun c65 => ?_)
                  · refine rp_iload_n (i := 1) d_mod_weekday_73 rfl rfl ?_
                    refine rp_iconst (v := 2) d_mod_weekday_74 (by decide) ?_
                    refine rp_icmp_ne (tgt := 83) d_mod_weekday_75 (by decide) (fun c75 => ?_) (fun c75 => ?_)
                    · refine rp_iload_n (i := 1) d_mod_weekday_83 rfl rfl ?_
                      refine rp_iconst (v := 4) d_mod_weekday_84 (by decide) ?_
                      refine rp_icmp_ne (tgt := 93) d_mod_weekday_85 (by decide) (fun c85 => ?_) (fun c85 => ?_)
                      · exact absurd (by decide) c85
                      · refine rp_bipush (v := 101) d_mod_weekday_88 (by decide) ?_
                        refine rp_goto (tgt := 116) d_mod_weekday_90 (by decide) ?_
                        refine rp_callV1 d_mod_weekday_116 q_mod_weekday_132 (Or.inl ⟨_, _, _, rfl, rfl⟩) (Nat.le_of_ble_eq_true rfl) (Nat.le_of_ble_eq_true rfl) ?_
                        refine s_mod_put w (by first | omega | (simp only [List.length_append, List.length_cons, List.length_nil]; omega)) (fun h w => ?_)
                        refine rp_aload_n (i := 0) d_mod_weekday_119 rfl rfl ?_
                        refine rp_iload_n (i := 1) d_mod_weekday_120 rfl rfl ?_
                        refine rp_iconst (v := 1) d_mod_weekday_121 (by decide) ?_
                        refine rp_icmp_eq (tgt := 130) d_mod_weekday_122 (by decide) (fun c122 => ?_) (fun c122 => ?_)
                        · exact absurd c122 (by decide)
                        · refine rp_iload_n (i := 1) d_mod_weekday_125 rfl rfl ?_
                          refine rp_iconst (v := 2) d_mod_weekday_126 (by decide) ?_
                          refine rp_icmp_ne (tgt := 135) d_mod_weekday_127 (by decide) (fun c127 => ?_) (fun c127 => ?_)
                          · refine rp_iload_n (i := 1) d_mod_weekday_135 rfl rfl ?_
                            refine rp_iconst (v := 3) d_mod_weekday_136 (by decide) ?_
                            refine rp_icmp_ne (tgt := 145) d_mod_weekday_137 (by decide) (fun c137 => ?_) (fun c137 => ?_)
                            · refine rp_iload_n (i := 1) d_mod_weekday_145 rfl rfl ?_
                              refine rp_iconst (v := 4) d_mod_weekday_146 (by decide) ?_
                              refine rp_icmp_ne (tgt := 155) d_mod_weekday_147 (by decide) (fun c147 => ?_) (fun c147 => ?_)
                              · exact absurd (by decide) c147
                              · refine rp_bipush (v := 100) d_mod_weekday_150 (by decide) ?_
                                refine rp_goto (tgt := 178) d_mod_weekday_152 (by decide) ?_
                                refine rp_callV1 d_mod_weekday_178 q_mod_weekday_132 (Or.inl ⟨_, _, _, rfl, rfl⟩) (Nat.le_of_ble_eq_true rfl) (Nat.le_of_ble_eq_true rfl) ?_
                                refine s_mod_put w (by first | omega | (simp only [List.length_append, List.length_cons, List.length_nil]; omega)) (fun h w => ?_)
                                refine rp_return d_mod_weekday_181 rfl ?_
                                simp only [List.append_assoc, List.cons_append, List.nil_append] at w
                                exact k h w
                            · exact absurd c137 (by decide)
                          · exact absurd c127 (by decide)
                    · exact absurd c75 (by decide)
                  · exact absurd c65 (by decide)
            · exact absurd c34 (by decide)
        · exact absurd c19 (by decide)
      · exact absurd c9 (by decide)
  · show RP k_mod_weekday 0 [(0, .ref 19), (1, .int 5)] [] h P
    refine rp_aload_n (i := 0) d_mod_weekday_0 rfl rfl ?_
    refine rp_iload_n (i := 1) d_mod_weekday_1 rfl rfl ?_
    refine rp_iconst (v := 1) d_mod_weekday_2 (by decide) ?_
    refine rp_icmp_eq (tgt := 12) d_mod_weekday_3 (by decide) (fun c3 => ?_) (fun c3 => ?_)
    · exact absurd c3 (by decide)
    · refine rp_iload_n (i := 1) d_mod_weekday_6 rfl rfl ?_
      refine rp_bipush (v := 7) d_mod_weekday_7 (by decide) ?_
      refine rp_icmp_ne (tgt := 17) d_mod_weekday_9 (by decide) (fun c9 => ?_) (fun c9 => ?_)
      · refine rp_iload_n (i := 1) d_mod_weekday_17 rfl rfl ?_
        refine rp_iconst (v := 2) d_mod_weekday_18 (by decide) ?_
        refine rp_icmp_ne (tgt := 27) d_mod_weekday_19 (by decide) (fun c19 => ?_) (fun c19 => ?_)
        · refine rp_iload_n (i := 1) d_mod_weekday_27 rfl rfl ?_
          refine rp_iconst (v := 3) d_mod_weekday_28 (by decide) ?_
          refine rp_icmp_eq (tgt := 37) d_mod_weekday_29 (by decide) (fun c29 => ?_) (fun c29 => ?_)
          · exact absurd c29 (by decide)
          · refine rp_iload_n (i := 1) d_mod_weekday_32 rfl rfl ?_
            refine rp_iconst (v := 5) d_mod_weekday_33 (by decide) ?_
            refine rp_icmp_ne (tgt := 42) d_mod_weekday_34 (by decide) (fun c34 => ?_) (fun c34 => ?_)
            · exact absurd (by decide) c34
            · refine rp_bipush (v := 84) d_mod_weekday_37 (by decide) ?_
              refine rp_goto (tgt := 54) d_mod_weekday_39 (by decide) ?_
              refine rp_callV1 d_mod_weekday_54 q_mod_weekday_132 (Or.inl ⟨_, _, _, rfl, rfl⟩) (Nat.le_of_ble_eq_true rfl) (Nat.le_of_ble_eq_true rfl) ?_
              refine s_mod_put w (by first | omega | (simp only [List.length_append, List.length_cons, List.length_nil]; omega)) (fun h w => ?_)
              refine rp_aload_n (i := 0) d_mod_weekday_57 rfl rfl ?_
              refine rp_iload_n (i := 1) d_mod_weekday_58 rfl rfl ?_
              refine rp_iconst (v := 1) d_mod_weekday_59 (by decide) ?_
              refine rp_icmp_eq (tgt := 68) d_mod_weekday_60 (by decide) (fun c60 => ?_) (fun c60 => ?_)
              · exact absurd c60 (by decide)
              · refine rp_iload_n (i := 1) d_mod_weekday_63 rfl rfl ?_
                refine rp_iconst (v := 3) d_mod_weekday_64 (by decide) ?_
                refine rp_icmp_ne (tgt := 73) d_mod_weekday_65 (by decide) (fun c65 => ?_) (fun c65 => ?_)
                · refine rp_iload_n (i := 1) d_mod_weekday_73 rfl rfl ?_
                  refine rp_iconst (v := 2) d_mod_weekday_74 (by decide) ?_
                  refine rp_icmp_ne (tgt := 83) d_mod_weekday_75 (by decide) (fun c75 => ?_) (fun c75 => ?_)
                  · refine rp_iload_n (i := 1) d_mod_weekday_83 rfl rfl ?_
                    refine rp_iconst (v := 4) d_mod_weekday_84 (by decide) ?_
                    refine rp_icmp_ne (tgt := 93) d_mod_weekday_85 (by decide) (fun c85 => ?_) (fun c85 => ?_)
                    · refine rp_iload_n (i := 1) d_mod_weekday_93 rfl rfl ?_
                      refine rp_iconst (v := 5) d_mod_weekday_94 (by decide) ?_
                      refine rp_icmp_ne (tgt := 103) d_mod_weekday_95 (by decide) (fun c95 => ?_) (fun c95 => ?_)
                      · exact absurd (by decide) c95
                      · refine rp_bipush (v := 104) d_mod_weekday_98 (by decide) ?_
                        refine rp_goto (tgt := 116) d_mod_weekday_100 (by decide) ?_
                        refine rp_callV1 d_mod_weekday_116 q_mod_weekday_132 (Or.inl ⟨_, _, _, rfl, rfl⟩) (Nat.le_of_ble_eq_true rfl) (Nat.le_of_ble_eq_true rfl) ?_
                        refine s_mod_put w (by first | omega | (simp only [List.length_append, List.length_cons, List.length_nil]; omega)) (fun h w => ?_)
                        refine rp_aload_n (i := 0) d_mod_weekday_119 rfl rfl ?_
                        refine rp_iload_n (i := 1) d_mod_weekday_120 rfl rfl ?_
                        refine rp_iconst (v := 1) d_mod_weekday_121 (by decide) ?_
                        refine rp_icmp_eq (tgt := 130) d_mod_weekday_122 (by decide) (fun c122 => ?_) (fun c122 => ?_)
                        · exact absurd c122 (by decide)
                        · refine rp_iload_n (i := 1) d_mod_weekday_125 rfl rfl ?_
                          refine rp_iconst (v := 2) d_mod_weekday_126 (by decide) ?_
                          refine rp_icmp_ne (tgt := 135) d_mod_weekday_127 (by decide) (fun c127 => ?_) (fun c127 => ?_)
                          · refine rp_iload_n (i := 1) d_mod_weekday_135 rfl rfl ?_
                            refine rp_iconst (v := 3) d_mod_weekday_136 (by decide) ?_
                            refine rp_icmp_ne (tgt := 145) d_mod_weekday_137 (by decide) (fun c137 => ?_) (fun c137 => ?_)
                            · refine rp_iload_n (i := 1) d_mod_weekday_145 rfl rfl ?_
                              refine rp_iconst (v := 4) d_mod_weekday_146 (by decide) ?_
                              refine rp_icmp_ne (tgt := 155) d_mod_weekday_147 (by decide) (fun c147 => ?_) (fun c147 => ?_)
                              · refine rp_iload_n (i := 1) d_mod_weekday_155 rfl rfl ?_
                                refine rp_iconst (v := 5) d_mod_weekday_156 (by decide) ?_
                                refine rp_icmp_ne (tgt := 165) d_mod_weekday_157 (by decide) (fun c157 => ?_) (fun c157 => ?_)
                                · exact absurd (by decide) c157
                                · refine rp_bipush (v := 117) d_mod_weekday_160 (by decide) ?_
                                  refine rp_goto (tgt := 178) d_mod_weekday_162 (by decide) ?_
                                  refine rp_callV1 d_mod_weekday_178 q_mod_weekday_132 (Or.inl ⟨_, _, _, rfl, rfl⟩) (Nat.le_of_ble_eq_true rfl) (Nat.le_of_ble_eq_true rfl) ?_
                                  refine s_mod_put w (by first | omega | (simp only [List.length_append, List.length_cons, List.length_nil]; omega)) (fun h w => ?_)
                                  refine rp_return d_mod_weekday_181 rfl ?_
                                  simp only [List.append_assoc, List.cons_append, List.nil_append] at w
                                  exact k h w
                              · exact absurd c147 (by decide)
                            · exact absurd c137 (by decide)
                          · exact absurd c127 (by decide)
                    · exact absurd c85 (by decide)
                  · exact absurd c75 (by decide)
                · exact absurd c65 (by decide)
        · exact absurd c19 (by decide)
      · exact absurd c9 (by decide)
  · show RP k_mod_weekday 0 [(0, .ref 19), (1, .int 6)] [] h P
    refine rp_aload_n (i := 0) d_mod_weekday_0 rfl rfl ?_
    refine rp_iload_n (i := 1) d_mod_weekday_1 rfl rfl ?_
    refine rp_iconst (v := 1) d_mod_weekday_2 (by decide) ?_
    refine rp_icmp_eq (tgt := 12) d_mod_weekday_3 (by decide) (fun c3 => ?_) (fun c3 => ?_)
    · exact absurd c3 (by decide)
    · refine rp_iload_n (i := 1) d_mod_weekday_6 rfl rfl ?_
      refine rp_bipush (v := 7) d_mod_weekday_7 (by decide) ?_
      refine rp_icmp_ne (tgt := 17) d_mod_weekday_9 (by decide) (fun c9 => ?_) (fun c9 => ?_)
      · refine rp_iload_n (i := 1) d_mod_weekday_17 rfl rfl ?_
        refine rp_iconst (v := 2) d_mod_weekday_18 (by decide) ?_
        refine rp_icmp_ne (tgt := 27) d_mod_weekday_19 (by decide) (fun c19 => ?_) (fun c19 => ?_)
        · refine rp_iload_n (i := 1) d_mod_weekday_27 rfl rfl ?_
          refine rp_iconst (v := 3) d_mod_weekday_28 (by decide) ?_
          refine rp_icmp_eq (tgt := 37) d_mod_weekday_29 (by decide) (fun c29 => ?_) (fun c29 => ?_)
          · exact absurd c29 (by decide)
          · refine rp_iload_n (i := 1) d_mod_weekday_32 rfl rfl ?_
            refine rp_iconst (v := 5) d_mod_weekday_33 (by decide) ?_
            refine rp_icmp_ne (tgt := 42) d_mod_weekday_34 (by decide) (fun c34 => ?_) (fun c34 => ?_)
            · refine rp_iload_n (i := 1) d_mod_weekday_42 rfl rfl ?_
              refine rp_iconst (v := 4) d_mod_weekday_43 (by decide) ?_
              refine rp_icmp_ne (tgt := 52) d_mod_weekday_44 (by decide) (fun c44 => ?_) (fun c44 => ?_)
              · refine rp_bipush (v := 70) d_mod_weekday_52 (by decide) ?_
                refine rp_callV1 d_mod_weekday_54 q_mod_weekday_132 (Or.inl ⟨_, _, _, rfl, rfl⟩) (Nat.le_of_ble_eq_true rfl) (Nat.le_of_ble_eq_true rfl) ?_
                refine s_mod_put w (by first | omega | (simp only [List.length_append, List.length_cons, List.length_nil]; omega)) (fun h w => ?_)
                refine rp_aload_n (i := 0) d_mod_weekday_57 rfl rfl ?_
                refine rp_iload_n (i := 1) d_mod_weekday_58 rfl rfl ?_
                refine rp_iconst (v := 1) d_mod_weekday_59 (by decide) ?_
                refine rp_icmp_eq (tgt := 68) d_mod_weekday_60 (by decide) (fun c60 => ?_) (fun c60 => ?_)
                · exact absurd c60 (by decide)
                · refine rp_iload_n (i := 1) d_mod_weekday_63 rfl rfl ?_
                  refine rp_iconst (v := 3) d_mod_weekday_64 (by decide) ?_
                  refine rp_icmp_ne (tgt := 73) d_mod_weekday_65 (by decide) (fun c65 => ?_) (fun c65 => ?_)
                  · refine rp_iload_n (i := 1) d_mod_weekday_73 rfl rfl ?_
                    refine rp_iconst (v := 2) d_mod_weekday_74 (by decide) ?_
                    refine rp_icmp_ne (tgt := 83) d_mod_weekday_75 (by decide) (fun c75 => ?_) (fun c75 => ?_)
                    · refine rp_iload_n (i := 1) d_mod_weekday_83 rfl rfl ?_
                      refine rp_iconst (v := 4) d_mod_weekday_84 (by decide) ?_
                      refine rp_icmp_ne (tgt := 93) d_mod_weekday_85 (by decide) (fun c85 => ?_) (fun c85 => ?_)
                      · refine rp_iload_n (i := 1) d_mod_weekday_93 rfl rfl ?_
                        refine rp_iconst (v := 5) d_mod_weekday_94 (by decide) ?_
                        refine rp_icmp_ne (tgt := 103) d_mod_weekday_95 (by decide) (fun c95 => ?_) (fun c95 => ?_)
                        · refine rp_iload_n (i := 1) d_mod_weekday_103 rfl rfl ?_
                          refine rp_bipush (v := 6) d_mod_weekday_104 (by decide) ?_
                          refine rp_icmp_ne (tgt := 114) d_mod_weekday_106 (by decide) (fun c106 => ?_) (fun c106 => ?_)
                          · exact absurd (by decide) c106
                          · refine rp_bipush (v := 114) d_mod_weekday_109 (by decide) ?_
                            refine rp_goto (tgt := 116) d_mod_weekday_111 (by decide) ?_
                            refine rp_callV1 d_mod_weekday_116 q_mod_weekday_132 (Or.inl ⟨_, _, _, rfl, rfl⟩) (Nat.le_of_ble_eq_true rfl) (Nat.le_of_ble_eq_true rfl) ?_
                            refine s_mod_put w (by first | omega | (simp only [List.length_append, List.length_cons, List.length_nil]; omega)) (fun h w => ?_)
                            refine rp_aload_n (i := 0) d_mod_weekday_119 rfl rfl ?_
                            refine rp_iload_n (i := 1) d_mod_weekday_120 rfl rfl ?_
                            refine rp_iconst (v := 1) d_mod_weekday_121 (by decide) ?_
                            refine rp_icmp_eq (tgt := 130) d_mod_weekday_122 (by decide) (fun c122 => ?_) (fun c122 => ?_)
                            · exact absurd c122 (by decide)
                            · refine rp_iload_n (i := 1) d_mod_weekday_125 rfl rfl ?_
                              refine rp_iconst (v := 2) d_mod_weekday_126 (by decide) ?_
                              refine rp_icmp_ne (tgt := 135) d_mod_weekday_127 (by decide) (fun c127 => ?_) (fun c127 => ?_)
                              · refine rp_iload_n (i := 1) d_mod_weekday_135 rfl rfl ?_
                                refine rp_iconst (v := 3) d_mod_weekday_136 (by decide) ?_
                                refine rp_icmp_ne (tgt := 145) d_mod_weekday_137 (by decide) (fun c137 => ?_) (fun c137 => ?_)
                                · refine rp_iload_n (i := 1) d_mod_weekday_145 rfl rfl ?_
                                  refine rp_iconst (v := 4) d_mod_weekday_146 (by decide) ?_
                                  refine rp_icmp_ne (tgt := 155) d_mod_weekday_147 (by decide) (fun c147 => ?_) (fun c147 => ?_)
                                  · refine rp_iload_n (i := 1) d_mod_weekday_155 rfl rfl ?_
                                    refine rp_iconst (v := 5) d_mod_weekday_156 (by decide) ?_
                                    refine rp_icmp_ne (tgt := 165) d_mod_weekday_157 (by decide) (fun c157 => ?_) (fun c157 => ?_)
                                    · refine rp_iload_n (i := 1) d_mod_weekday_165 rfl rfl ?_
                                      refine rp_bipush (v := 6) d_mod_weekday_166 (by decide) ?_
                                      refine rp_icmp_ne (tgt := 176) d_mod_weekday_168 (by decide) (fun c168 => ?_) (fun c168 => ?_)
                                      · exact absurd (by decide) c168
                                      · refine rp_bipush (v := 105) d_mod_weekday_171 (by decide) ?_
                                        refine rp_goto (tgt := 178) d_mod_weekday_173 (by decide) ?_
                                        refine rp_callV1 d_mod_weekday_178 q_mod_weekday_132 (Or.inl ⟨_, _, _, rfl, rfl⟩) (Nat.le_of_ble_eq_true rfl) (Nat.le_of_ble_eq_true rfl) ?_
                                        refine s_mod_put w (by first | omega | (simp only [List.length_append, List.length_cons, List.length_nil]; omega)) (fun h w => ?_)
                                        refine rp_return d_mod_weekday_181 rfl ?_
                                        simp only [List.append_assoc, List.cons_append, List.nil_append] at w
                                        exact k h w
                                    · exact absurd c157 (by decide)
                                  · exact absurd c147 (by decide)
                                · exact absurd c137 (by decide)
                              · exact absurd c127 (by decide)
                        · exact absurd c95 (by decide)
                      · exact absurd c85 (by decide)
                    · exact absurd c75 (by decide)
                  · exact absurd c65 (by decide)
              · exact absurd c44 (by decide)
            · exact absurd c34 (by decide)
        · exact absurd c19 (by decide)
      · exact absurd c9 (by decide)
  · show RP k_mod_weekday 0 [(0, .ref 19), (1, .int 7)] [] h P
    refine rp_aload_n (i := 0) d_mod_weekday_0 rfl rfl ?_
    refine rp_iload_n (i := 1) d_mod_weekday_1 rfl rfl ?_
    refine rp_iconst (v := 1) d_mod_weekday_2 (by decide) ?_
    refine rp_icmp_eq (tgt := 12) d_mod_weekday_3 (by decide) (fun c3 => ?_) (fun c3 => ?_)
    · exact absurd c3 (by decide)
    · refine rp_iload_n (i := 1) d_mod_weekday_6 rfl rfl ?_
      refine rp_bipush (v := 7) d_mod_weekday_7 (by decide) ?_
      refine rp_icmp_ne (tgt := 17) d_mod_weekday_9 (by decide) (fun c9 => ?_) (fun c9 => ?_)
      · exact absurd (by decide) c9
      · refine rp_bipush (v := 83) d_mod_weekday_12 (by decide) ?_
        refine rp_goto (tgt := 54) d_mod_weekday_14 (by decide) ?_
        refine rp_callV1 d_mod_weekday_54 q_mod_weekday_132 (Or.inl ⟨_, _, _, rfl, rfl⟩) (Nat.le_of_ble_eq_true rfl) (Nat.le_of_ble_eq_true rfl) ?_
        refine s_mod_put w (by first | omega | (simp only [List.length_append, List.length_cons, List.length_nil]; omega)) (fun h w => ?_)
        refine rp_aload_n (i := 0) d_mod_weekday_57 rfl rfl ?_
        refine rp_iload_n (i := 1) d_mod_weekday_58 rfl rfl ?_
        refine rp_iconst (v := 1) d_mod_weekday_59 (by decide) ?_
        refine rp_icmp_eq (tgt := 68) d_mod_weekday_60 (by decide) (fun c60 => ?_) (fun c60 => ?_)
        · exact absurd c60 (by decide)
        · refine rp_iload_n (i := 1) d_mod_weekday_63 rfl rfl ?_
          refine rp_iconst (v := 3) d_mod_weekday_64 (by decide) ?_
          refine rp_icmp_ne (tgt := 73) d_mod_weekday_65 (by decide) (fun c65 => ?_) (fun c65 => ?_)
          · refine rp_iload_n (i := 1) d_mod_weekday_73 rfl rfl ?_
            refine rp_iconst (v := 2) d_mod_weekday_74 (by decide) ?_
            refine rp_icmp_ne (tgt := 83) d_mod_weekday_75 (by decide) (fun c75 => ?_) (fun c75 => ?_)
            · refine rp_iload_n (i := 1) d_mod_weekday_83 rfl rfl ?_
              refine rp_iconst (v := 4) d_mod_weekday_84 (by decide) ?_
              refine rp_icmp_ne (tgt := 93) d_mod_weekday_85 (by decide) (fun c85 => ?_) (fun c85 => ?_)
              · refine rp_iload_n (i := 1) d_mod_weekday_93 rfl rfl ?_
                refine rp_iconst (v := 5) d_mod_weekday_94 (by decide) ?_
                refine rp_icmp_ne (tgt := 103) d_mod_weekday_95 (by decide) (fun c95 => ?_) (fun c95 => ?_)
                · refine rp_iload_n (i := 1) d_mod_weekday_103 rfl rfl ?_
                  refine rp_bipush (v := 6) d_mod_weekday_104 (by decide) ?_
                  refine rp_icmp_ne (tgt := 114) d_mod_weekday_106 (by decide) (fun c106 => ?_) (fun c106 => ?_)
                  · refine rp_bipush (v := 97) d_mod_weekday_114 (by decide) ?_
                    refine rp_callV1 d_mod_weekday_116 q_mod_weekday_132 (Or.inl ⟨_, _, _, rfl, rfl⟩) (Nat.le_of_ble_eq_true rfl) (Nat.le_of_ble_eq_true rfl) ?_
                    refine s_mod_put w (by first | omega | (simp only [List.length_append, List.length_cons, List.length_nil]; omega)) (fun h w => ?_)
                    refine rp_aload_n (i := 0) d_mod_weekday_119 rfl rfl ?_
                    refine rp_iload_n (i := 1) d_mod_weekday_120 rfl rfl ?_
                    refine rp_iconst (v := 1) d_mod_weekday_121 (by decide) ?_
                    refine rp_icmp_eq (tgt := 130) d_mod_weekday_122 (by decide) (fun c122 => ?_) (fun c122 => ?_)
                    · exact absurd c122 (by decide)
                    · refine rp_iload_n (i := 1) d_mod_weekday_125 rfl rfl ?_
                      refine rp_iconst (v := 2) d_mod_weekday_126 (by decide) ?_
                      refine rp_icmp_ne (tgt := 135) d_mod_weekday_127 (by decide) (fun c127 => ?_) (fun c127 => ?_)
                      · refine rp_iload_n (i := 1) d_mod_weekday_135 rfl rfl ?_
                        refine rp_iconst (v := 3) d_mod_weekday_136 (by decide) ?_
                        refine rp_icmp_ne (tgt := 145) d_mod_weekday_137 (by decide) (fun c137 => ?_) (fun c137 => ?_)
                        · refine rp_iload_n (i := 1) d_mod_weekday_145 rfl rfl ?_
                          refine rp_iconst (v := 4) d_mod_weekday_146 (by decide) ?_
                          refine rp_icmp_ne (tgt := 155) d_mod_weekday_147 (by decide) (fun c147 => ?_) (fun c147 => ?_)
                          · refine rp_iload_n (i := 1) d_mod_weekday_155 rfl rfl ?_
                            refine rp_iconst (v := 5) d_mod_weekday_156 (by decide) ?_
                            refine rp_icmp_ne (tgt := 165) d_mod_weekday_157 (by decide) (fun c157 => ?_) (fun c157 => ?_)
                            · refine rp_iload_n (i := 1) d_mod_weekday_165 rfl rfl ?_
                              refine rp_bipush (v := 6) d_mod_weekday_166 (by decide) ?_
                              refine rp_icmp_ne (tgt := 176) d_mod_weekday_168 (by decide) (fun c168 => ?_) (fun c168 => ?_)
                              · refine rp_bipush (v := 116) d_mod_weekday_176 (by decide) ?_
                                refine rp_callV1 d_mod_weekday_178 q_mod_weekday_132 (Or.inl ⟨_, _, _, rfl, rfl⟩) (Nat.le_of_ble_eq_true rfl) (Nat.le_of_ble_eq_true rfl) ?_
                                refine s_mod_put w (by first | omega | (simp only [List.length_append, List.length_cons, List.length_nil]; omega)) (fun h w => ?_)
                                refine rp_return d_mod_weekday_181 rfl ?_
                                simp only [List.append_assoc, List.cons_append, List.nil_append] at w
                                exact k h w
                              · exact absurd c168 (by decide)
                            · exact absurd c157 (by decide)
                          · exact absurd c147 (by decide)
                        · exact absurd c137 (by decide)
                      · exact absurd c127 (by decide)
                  · exact absurd c106 (by decide)
                · exact absurd c95 (by decide)
              · exact absurd c85 (by decide)
            · exact absurd c75 (by decide)
          · exact absurd c65 (by decide)

set_option maxHeartbeats 4000000 in
set_option maxRecDepth 100000 in
theorem s_mod_field {h : cf_H} {P : Option Value → cf_H → Prop} (hR : cf_ok h) {K : Nat} (hK : K < 40) {x : Int32} (hx : x = nI K) (k : P (some (.int (cf_b (rFd (h.2.2.2 22) K)))) h) : RP k_mod_field 0 [(0, .ref 19), (1, .int x)] [] h P := by
  subst hx
  refine rp_aload_n (i := 0) d_mod_field_0 rfl rfl ?_
  refine rp_getR d_mod_field_1 f_mod_16 rfl (hR _ _ _ rfl) ?_
  refine rp_iload_n (i := 1) d_mod_field_4 rfl rfl ?_
  refine rp_iaload d_mod_field_5 rfl (vp_in_nI (by omega) (by decide)) ?_
  rw [nI_clamp (by omega)]
  refine rp_bipush (v := 9) d_mod_field_6 (by decide) ?_
  refine rp_icmp_eq (tgt := 33) d_mod_field_8 (by decide) (fun c8 => ?_) (fun c8 => ?_)
  · refine rp_iconst (v := 1) d_mod_field_33 (by decide) ?_
    refine rp_goto (tgt := 38) d_mod_field_34 (by decide) ?_
    refine rp_ireturn (ty := .boolean) d_mod_field_38 rfl (by first | rfl | decide | assumption) ?_
    simpa [rFd, cf_b, c8] using k
  · refine rp_aload_n (i := 0) d_mod_field_11 rfl rfl ?_
    refine rp_getR d_mod_field_12 f_mod_16 rfl (hR _ _ _ rfl) ?_
    refine rp_iload_n (i := 1) d_mod_field_15 rfl rfl ?_
    refine rp_iaload d_mod_field_16 rfl (vp_in_nI (by omega) (by decide)) ?_
    rw [nI_clamp (by omega)]
    refine rp_bipush (v := 8) d_mod_field_17 (by decide) ?_
    refine rp_icmp_eq (tgt := 33) d_mod_field_19 (by decide) (fun c19 => ?_) (fun c19 => ?_)
    · refine rp_iconst (v := 1) d_mod_field_33 (by decide) ?_
      refine rp_goto (tgt := 38) d_mod_field_34 (by decide) ?_
      refine rp_ireturn (ty := .boolean) d_mod_field_38 rfl (by first | rfl | decide | assumption) ?_
      simpa [rFd, cf_b, c8, c19] using k
    · refine rp_aload_n (i := 0) d_mod_field_22 rfl rfl ?_
      refine rp_getR d_mod_field_23 f_mod_16 rfl (hR _ _ _ rfl) ?_
      refine rp_iload_n (i := 1) d_mod_field_26 rfl rfl ?_
      refine rp_iaload d_mod_field_27 rfl (vp_in_nI (by omega) (by decide)) ?_
      rw [nI_clamp (by omega)]
      refine rp_bipush (v := 10) d_mod_field_28 (by decide) ?_
      refine rp_icmp_ne (tgt := 37) d_mod_field_30 (by decide) (fun c30 => ?_) (fun c30 => ?_)
      · refine rp_iconst (v := 0) d_mod_field_37 (by decide) ?_
        refine rp_ireturn (ty := .boolean) d_mod_field_38 rfl (by first | rfl | decide | assumption) ?_
        simpa [rFd, cf_b, c8, c19, c30] using k
      · refine rp_iconst (v := 1) d_mod_field_33 (by decide) ?_
        refine rp_goto (tgt := 38) d_mod_field_34 (by decide) ?_
        refine rp_ireturn (ty := .boolean) d_mod_field_38 rfl (by first | rfl | decide | assumption) ?_
        simpa [rFd, cf_b, c8, c19, c30] using k
theorem cf_lst_S (p : Nat → Bool) (a n : Nat) : cf_lst p a (n + 1) = bif p (a + n) then a + n + 1 else cf_lst p a n := rfl
theorem nI_sub1_lt {a : Nat} (h : a < 2 ^ 31) : nI a - 1 < nI a := by
  rw [show (1 : Int32) = zI 1 from rfl, zI_n, zI_sub, Int32.lt_iff_toInt_lt, zI, zI, Int32.toInt_ofInt_of_le (by omega) (by omega), Int32.toInt_ofInt_of_le (by omega) (by omega)]; omega
set_option maxHeartbeats 4000000 in
set_option maxRecDepth 100000 in
theorem l_mod_min1 {h : cf_H} {P : Option Value → cf_H → Prop} (hR : cf_ok h) {s a b K : Nat} (hs : r_sec h s a b) (hK : K < b) : ∀ (n q : Nat), a + n = q → q ≤ K → (k : RP k_mod_minute 28 [(0, .ref 19), (1, .int (nI s)), (2, .int (nI K)), (3, .int (nI (cf_lst (rFd (h.2.2.2 22)) a n) - 1))] [] h P) → RP k_mod_minute 4 [(0, .ref 19), (1, .int (nI s)), (2, .int (nI K)), (3, .int (nI q - 1))] [] h P := by
  obtain ⟨s1, s2, s3, s4, s5⟩ := id hs
  intro n
  induction n with
  | zero =>
    intro q e hq k
    have e : a = q := e
    subst e
    refine rp_iload_n (i := 3) d_mod_minute_4 rfl rfl ?_
    refine rp_aload_n (i := 0) d_mod_minute_5 rfl rfl ?_
    refine rp_getR d_mod_minute_6 f_mod_25 rfl (hR _ _ _ rfl) ?_
    refine rp_iload_n (i := 1) d_mod_minute_9 rfl rfl ?_
    refine rp_iaload d_mod_minute_10 rfl (vp_in_nI (by omega) (by decide)) ?_
    rw [r_s0 hs]
    refine rp_icmp_lt (tgt := 28) d_mod_minute_11 (by decide) (fun c11 => ?_) (fun c11 => ?_)
    · exact k
    · exact absurd (nI_sub1_lt (by omega)) c11
  | succ n ih =>
    intro q e hq k
    obtain ⟨q, rfl⟩ : ∃ q1, q = q1 + 1 := ⟨q - 1, by omega⟩
    have ea : a + n = q := by omega
    refine rp_lv [(0, .ref 19), (1, .int (nI s)), (2, .int (nI K)), (3, .int (nI q))] (by rw [nI_sub1]; rfl) ?_
    refine rp_iload_n (i := 3) d_mod_minute_4 rfl rfl ?_
    refine rp_aload_n (i := 0) d_mod_minute_5 rfl rfl ?_
    refine rp_getR d_mod_minute_6 f_mod_25 rfl (hR _ _ _ rfl) ?_
    refine rp_iload_n (i := 1) d_mod_minute_9 rfl rfl ?_
    refine rp_iaload d_mod_minute_10 rfl (vp_in_nI (by omega) (by decide)) ?_
    rw [r_s0 hs]
    refine rp_icmp_lt (tgt := 28) d_mod_minute_11 (by decide) (fun c11 => ?_) (fun c11 => ?_)
    · exact absurd ((nI_ltI (by omega) (by omega)).mp c11) (by omega)
    · refine rp_aload_n (i := 0) d_mod_minute_14 rfl rfl ?_
      refine rp_iload_n (i := 3) d_mod_minute_15 rfl rfl ?_
      refine rp_callV1 d_mod_minute_16 q_mod_minute_209 (Or.inl ⟨_, _, _, rfl, rfl⟩) (Nat.le_of_ble_eq_true rfl) (Nat.le_of_ble_eq_true rfl) ?_
      refine s_mod_field hR (by omega) rfl ?_
      refine rp_if_ne (tgt := 28) d_mod_minute_19 (by decide) (fun c19 => ?_) (fun c19 => ?_)
      · rw [cf_lst_S, ea, cf_b_t c19] at k
        rw [cond, nI_sub1] at k
        exact k
      · refine rp_iinc (i := 3) (y := (-1)) d_mod_minute_22 rfl (by decide) rfl (Nat.le_of_ble_eq_true rfl) ?_
        refine rp_goto (tgt := 4) d_mod_minute_25 (by decide) ?_
        rw [cf_lst_S, ea, cf_b_f c19] at k
        refine rp_lv [(0, .ref 19), (1, .int (nI s)), (2, .int (nI K)), (3, .int (nI q - 1))] (by rw [Int32.sub_eq_add_neg]; rfl) ?_
        exact ih q ea (by omega) k
set_option maxHeartbeats 4000000 in
set_option maxRecDepth 100000 in
theorem l_mod_min2 {h : cf_H} {P : Option Value → cf_H → Prop} (hR : cf_ok h) {s a b K : Nat} (hs : r_sec h s a b) {x3 : Int32} : ∀ (n q : Nat), q + n = b → (k : RP k_mod_minute 61 [(0, .ref 19), (1, .int (nI s)), (2, .int (nI K)), (3, .int x3), (4, .int (nI (cf_fst (rFd (h.2.2.2 22)) q n)))] [] h P) → RP k_mod_minute 33 [(0, .ref 19), (1, .int (nI s)), (2, .int (nI K)), (3, .int x3), (4, .int (nI q))] [] h P := by
  obtain ⟨s1, s2, s3, s4, s5⟩ := id hs
  intro n
  induction n with
  | zero =>
    intro q e k
    have e : q = b := e
    refine rp_iload (i := 4) d_mod_minute_33 rfl ?_
    refine rp_aload_n (i := 0) d_mod_minute_35 rfl rfl ?_
    refine rp_getR d_mod_minute_36 f_mod_25 rfl (hR _ _ _ rfl) ?_
    refine rp_iload_n (i := 1) d_mod_minute_39 rfl rfl ?_
    refine rp_iconst (v := 1) d_mod_minute_40 (by decide) ?_
    refine rp_iadd d_mod_minute_41 ?_
    refine rp_iaload d_mod_minute_42 rfl (by rw [nI_1]; exact vp_in_nI (by omega) (by decide)) ?_
    rw [r_s1 hs]
    refine rp_icmp_ge (tgt := 61) d_mod_minute_43 (by decide) (fun c43 => ?_) (fun c43 => ?_)
    · exact k
    · exact absurd (by rw [e]; exact Int32.le_refl _) c43
  | succ n ih =>
    intro q e k
    refine rp_iload (i := 4) d_mod_minute_33 rfl ?_
    refine rp_aload_n (i := 0) d_mod_minute_35 rfl rfl ?_
    refine rp_getR d_mod_minute_36 f_mod_25 rfl (hR _ _ _ rfl) ?_
    refine rp_iload_n (i := 1) d_mod_minute_39 rfl rfl ?_
    refine rp_iconst (v := 1) d_mod_minute_40 (by decide) ?_
    refine rp_iadd d_mod_minute_41 ?_
    refine rp_iaload d_mod_minute_42 rfl (by rw [nI_1]; exact vp_in_nI (by omega) (by decide)) ?_
    rw [r_s1 hs]
    refine rp_icmp_ge (tgt := 61) d_mod_minute_43 (by decide) (fun c43 => ?_) (fun c43 => ?_)
    · exact absurd c43 (nI_ge (by omega) (by omega))
    · refine rp_aload_n (i := 0) d_mod_minute_46 rfl rfl ?_
      refine rp_iload (i := 4) d_mod_minute_47 rfl ?_
      refine rp_callV1 d_mod_minute_49 q_mod_minute_209 (Or.inl ⟨_, _, _, rfl, rfl⟩) (Nat.le_of_ble_eq_true rfl) (Nat.le_of_ble_eq_true rfl) ?_
      refine s_mod_field hR (by omega) rfl ?_
      refine rp_if_ne (tgt := 61) d_mod_minute_52 (by decide) (fun c52 => ?_) (fun c52 => ?_)
      · rw [cf_fst, cf_b_t c52] at k
        exact k
      · refine rp_iinc (i := 4) (y := 1) d_mod_minute_55 rfl (by decide) rfl (Nat.le_of_ble_eq_true rfl) ?_
        refine rp_goto (tgt := 33) d_mod_minute_58 (by decide) ?_
        rw [cf_fst, cf_b_f c52] at k
        refine rp_lv [(0, .ref 19), (1, .int (nI s)), (2, .int (nI K)), (3, .int x3), (4, .int (nI (q + 1)))] (by rw [← nI_1]; rfl) ?_
        exact ih (q + 1) (by omega) k
set_option maxHeartbeats 4000000 in
set_option maxRecDepth 100000 in
theorem t_mod_min61 {h : cf_H} {P : Option Value → cf_H → Prop} (hR : cf_ok h) {s a b K Q N : Nat} (hs : r_sec h s a b) (ha : a ≤ Q) (hQ : Q ≤ 40) (hN : N ≤ b) (k : P (some (.int (cf_b ((decide (a < Q) && !decide (h.2.2.2 22 (Q - 1) = 10) && decide (h.2.2.2 23 (Q - 1) = 104)) || (decide (N < b) && !decide (h.2.2.2 22 N = 10) && decide (h.2.2.2 23 N = 115)))))) h) : RP k_mod_minute 61 [(0, .ref 19), (1, .int (nI s)), (2, .int (nI K)), (3, .int (nI Q - 1)), (4, .int (nI N))] [] h P := by
  obtain ⟨s1, s2, s3, s4, s5⟩ := id hs
  have eN : (nI b ≤ nI N) ↔ ¬ N < b := by rw [nI_leI (by omega) (by omega)]; omega
  by_cases hq : a < Q
  · obtain ⟨Q, rfl⟩ : ∃ q1, Q = q1 + 1 := ⟨Q - 1, by omega⟩
    rw [decide_eq_true hq, Nat.add_sub_cancel] at k
    refine rp_lv [(0, .ref 19), (1, .int (nI s)), (2, .int (nI K)), (3, .int (nI Q)), (4, .int (nI N))] (by rw [nI_sub1]; rfl) ?_
    refine rp_iload_n (i := 3) d_mod_minute_61 rfl rfl ?_
    refine rp_aload_n (i := 0) d_mod_minute_62 rfl rfl ?_
    refine rp_getR d_mod_minute_63 f_mod_25 rfl (hR _ _ _ rfl) ?_
    refine rp_iload_n (i := 1) d_mod_minute_66 rfl rfl ?_
    refine rp_iaload d_mod_minute_67 rfl (vp_in_nI (by omega) (by decide)) ?_
    rw [r_s0 hs]
    refine rp_icmp_lt (tgt := 97) d_mod_minute_68 (by decide) (fun c68 => ?_) (fun c68 => ?_)
    · exact absurd ((nI_ltI (by omega) (by omega)).mp c68) (by omega)
    · refine rp_aload_n (i := 0) d_mod_minute_71 rfl rfl ?_
      refine rp_getR d_mod_minute_72 f_mod_16 rfl (hR _ _ _ rfl) ?_
      refine rp_iload_n (i := 3) d_mod_minute_75 rfl rfl ?_
      refine rp_iaload d_mod_minute_76 rfl (vp_in_nI (by omega) (by decide)) ?_
      rw [nI_clamp (by omega)]
      refine rp_bipush (v := 10) d_mod_minute_77 (by decide) ?_
      refine rp_icmp_eq (tgt := 97) d_mod_minute_79 (by decide) (fun c79 => ?_) (fun c79 => ?_)
      · refine rp_iconst (v := 0) d_mod_minute_97 (by decide) ?_
        refine rp_istore (i := 5) d_mod_minute_98 rfl (Nat.le_of_ble_eq_true rfl) ?_
        refine rp_iload (i := 4) d_mod_minute_100 rfl ?_
        refine rp_aload_n (i := 0) d_mod_minute_102 rfl rfl ?_
        refine rp_getR d_mod_minute_103 f_mod_25 rfl (hR _ _ _ rfl) ?_
        refine rp_iload_n (i := 1) d_mod_minute_106 rfl rfl ?_
        refine rp_iconst (v := 1) d_mod_minute_107 (by decide) ?_
        refine rp_iadd d_mod_minute_108 ?_
        refine rp_iaload d_mod_minute_109 rfl (by rw [nI_1]; exact vp_in_nI (by omega) (by decide)) ?_
        rw [r_s1 hs]
        refine rp_icmp_ge (tgt := 141) d_mod_minute_110 (by decide) (fun c110 => ?_) (fun c110 => ?_)
        · refine rp_iconst (v := 0) d_mod_minute_141 (by decide) ?_
          refine rp_istore (i := 6) d_mod_minute_142 rfl (Nat.le_of_ble_eq_true rfl) ?_
          refine rp_iload (i := 5) d_mod_minute_144 rfl ?_
          refine rp_if_ne (tgt := 154) d_mod_minute_146 (by decide) (fun c146 => ?_) (fun c146 => ?_)
          · exact absurd (by decide) c146
          · refine rp_iload (i := 6) d_mod_minute_149 rfl ?_
            refine rp_if_eq (tgt := 158) d_mod_minute_151 (by decide) (fun c151 => ?_) (fun c151 => ?_)
            · refine rp_iconst (v := 0) d_mod_minute_158 (by decide) ?_
              refine rp_ireturn (ty := .boolean) d_mod_minute_159 rfl (by first | rfl | decide | assumption) ?_
              rw [eN] at c110
              simp only [decide_eq_true c79, decide_eq_false c110] at k
              exact k
            · exact absurd (by decide) c151
        · refine rp_aload_n (i := 0) d_mod_minute_113 rfl rfl ?_
          refine rp_getR d_mod_minute_114 f_mod_16 rfl (hR _ _ _ rfl) ?_
          refine rp_iload (i := 4) d_mod_minute_117 rfl ?_
          rw [eN, Classical.not_not] at c110
          refine rp_iaload d_mod_minute_119 rfl (vp_in_nI (by omega) (by decide)) ?_
          rw [nI_clamp (by omega)]
          refine rp_bipush (v := 10) d_mod_minute_120 (by decide) ?_
          refine rp_icmp_eq (tgt := 141) d_mod_minute_122 (by decide) (fun c122 => ?_) (fun c122 => ?_)
          · refine rp_iconst (v := 0) d_mod_minute_141 (by decide) ?_
            refine rp_istore (i := 6) d_mod_minute_142 rfl (Nat.le_of_ble_eq_true rfl) ?_
            refine rp_iload (i := 5) d_mod_minute_144 rfl ?_
            refine rp_if_ne (tgt := 154) d_mod_minute_146 (by decide) (fun c146 => ?_) (fun c146 => ?_)
            · exact absurd (by decide) c146
            · refine rp_iload (i := 6) d_mod_minute_149 rfl ?_
              refine rp_if_eq (tgt := 158) d_mod_minute_151 (by decide) (fun c151 => ?_) (fun c151 => ?_)
              · refine rp_iconst (v := 0) d_mod_minute_158 (by decide) ?_
                refine rp_ireturn (ty := .boolean) d_mod_minute_159 rfl (by first | rfl | decide | assumption) ?_
                simp only [decide_eq_true c79, decide_eq_true c110, decide_eq_true c122] at k
                exact k
              · exact absurd (by decide) c151
          · refine rp_aload_n (i := 0) d_mod_minute_125 rfl rfl ?_
            refine rp_getR d_mod_minute_126 f_mod_19 rfl (hR _ _ _ rfl) ?_
            refine rp_iload (i := 4) d_mod_minute_129 rfl ?_
            refine rp_iaload d_mod_minute_131 rfl (vp_in_nI (by omega) (by decide)) ?_
            rw [nI_clamp (by omega)]
            refine rp_bipush (v := 115) d_mod_minute_132 (by decide) ?_
            refine rp_icmp_ne (tgt := 141) d_mod_minute_134 (by decide) (fun c134 => ?_) (fun c134 => ?_)
            · refine rp_iconst (v := 0) d_mod_minute_141 (by decide) ?_
              refine rp_istore (i := 6) d_mod_minute_142 rfl (Nat.le_of_ble_eq_true rfl) ?_
              refine rp_iload (i := 5) d_mod_minute_144 rfl ?_
              refine rp_if_ne (tgt := 154) d_mod_minute_146 (by decide) (fun c146 => ?_) (fun c146 => ?_)
              · exact absurd (by decide) c146
              · refine rp_iload (i := 6) d_mod_minute_149 rfl ?_
                refine rp_if_eq (tgt := 158) d_mod_minute_151 (by decide) (fun c151 => ?_) (fun c151 => ?_)
                · refine rp_iconst (v := 0) d_mod_minute_158 (by decide) ?_
                  refine rp_ireturn (ty := .boolean) d_mod_minute_159 rfl (by first | rfl | decide | assumption) ?_
                  simp only [decide_eq_true c79, decide_eq_true c110, decide_eq_false c122, decide_eq_false c134] at k
                  exact k
                · exact absurd (by decide) c151
            · refine rp_iconst (v := 1) d_mod_minute_137 (by decide) ?_
              refine rp_goto (tgt := 142) d_mod_minute_138 (by decide) ?_
              refine rp_istore (i := 6) d_mod_minute_142 rfl (Nat.le_of_ble_eq_true rfl) ?_
              refine rp_iload (i := 5) d_mod_minute_144 rfl ?_
              refine rp_if_ne (tgt := 154) d_mod_minute_146 (by decide) (fun c146 => ?_) (fun c146 => ?_)
              · exact absurd (by decide) c146
              · refine rp_iload (i := 6) d_mod_minute_149 rfl ?_
                refine rp_if_eq (tgt := 158) d_mod_minute_151 (by decide) (fun c151 => ?_) (fun c151 => ?_)
                · exact absurd c151 (by decide)
                · refine rp_iconst (v := 1) d_mod_minute_154 (by decide) ?_
                  refine rp_goto (tgt := 159) d_mod_minute_155 (by decide) ?_
                  refine rp_ireturn (ty := .boolean) d_mod_minute_159 rfl (by first | rfl | decide | assumption) ?_
                  simp only [decide_eq_true c79, decide_eq_true c110, decide_eq_false c122, decide_eq_true c134] at k
                  exact k
      · refine rp_aload_n (i := 0) d_mod_minute_82 rfl rfl ?_
        refine rp_getR d_mod_minute_83 f_mod_19 rfl (hR _ _ _ rfl) ?_
        refine rp_iload_n (i := 3) d_mod_minute_86 rfl rfl ?_
        refine rp_iaload d_mod_minute_87 rfl (vp_in_nI (by omega) (by decide)) ?_
        rw [nI_clamp (by omega)]
        refine rp_bipush (v := 104) d_mod_minute_88 (by decide) ?_
        refine rp_icmp_ne (tgt := 97) d_mod_minute_90 (by decide) (fun c90 => ?_) (fun c90 => ?_)
        · refine rp_iconst (v := 0) d_mod_minute_97 (by decide) ?_
          refine rp_istore (i := 5) d_mod_minute_98 rfl (Nat.le_of_ble_eq_true rfl) ?_
          refine rp_iload (i := 4) d_mod_minute_100 rfl ?_
          refine rp_aload_n (i := 0) d_mod_minute_102 rfl rfl ?_
          refine rp_getR d_mod_minute_103 f_mod_25 rfl (hR _ _ _ rfl) ?_
          refine rp_iload_n (i := 1) d_mod_minute_106 rfl rfl ?_
          refine rp_iconst (v := 1) d_mod_minute_107 (by decide) ?_
          refine rp_iadd d_mod_minute_108 ?_
          refine rp_iaload d_mod_minute_109 rfl (by rw [nI_1]; exact vp_in_nI (by omega) (by decide)) ?_
          rw [r_s1 hs]
          refine rp_icmp_ge (tgt := 141) d_mod_minute_110 (by decide) (fun c110 => ?_) (fun c110 => ?_)
          · refine rp_iconst (v := 0) d_mod_minute_141 (by decide) ?_
            refine rp_istore (i := 6) d_mod_minute_142 rfl (Nat.le_of_ble_eq_true rfl) ?_
            refine rp_iload (i := 5) d_mod_minute_144 rfl ?_
            refine rp_if_ne (tgt := 154) d_mod_minute_146 (by decide) (fun c146 => ?_) (fun c146 => ?_)
            · exact absurd (by decide) c146
            · refine rp_iload (i := 6) d_mod_minute_149 rfl ?_
              refine rp_if_eq (tgt := 158) d_mod_minute_151 (by decide) (fun c151 => ?_) (fun c151 => ?_)
              · refine rp_iconst (v := 0) d_mod_minute_158 (by decide) ?_
                refine rp_ireturn (ty := .boolean) d_mod_minute_159 rfl (by first | rfl | decide | assumption) ?_
                rw [eN] at c110
                simp only [decide_eq_false c79, decide_eq_false c90, decide_eq_false c110] at k
                exact k
              · exact absurd (by decide) c151
          · refine rp_aload_n (i := 0) d_mod_minute_113 rfl rfl ?_
            refine rp_getR d_mod_minute_114 f_mod_16 rfl (hR _ _ _ rfl) ?_
            refine rp_iload (i := 4) d_mod_minute_117 rfl ?_
            rw [eN, Classical.not_not] at c110
            refine rp_iaload d_mod_minute_119 rfl (vp_in_nI (by omega) (by decide)) ?_
            rw [nI_clamp (by omega)]
            refine rp_bipush (v := 10) d_mod_minute_120 (by decide) ?_
            refine rp_icmp_eq (tgt := 141) d_mod_minute_122 (by decide) (fun c122 => ?_) (fun c122 => ?_)
            · refine rp_iconst (v := 0) d_mod_minute_141 (by decide) ?_
              refine rp_istore (i := 6) d_mod_minute_142 rfl (Nat.le_of_ble_eq_true rfl) ?_
              refine rp_iload (i := 5) d_mod_minute_144 rfl ?_
              refine rp_if_ne (tgt := 154) d_mod_minute_146 (by decide) (fun c146 => ?_) (fun c146 => ?_)
              · exact absurd (by decide) c146
              · refine rp_iload (i := 6) d_mod_minute_149 rfl ?_
                refine rp_if_eq (tgt := 158) d_mod_minute_151 (by decide) (fun c151 => ?_) (fun c151 => ?_)
                · refine rp_iconst (v := 0) d_mod_minute_158 (by decide) ?_
                  refine rp_ireturn (ty := .boolean) d_mod_minute_159 rfl (by first | rfl | decide | assumption) ?_
                  simp only [decide_eq_false c79, decide_eq_false c90, decide_eq_true c110, decide_eq_true c122] at k
                  exact k
                · exact absurd (by decide) c151
            · refine rp_aload_n (i := 0) d_mod_minute_125 rfl rfl ?_
              refine rp_getR d_mod_minute_126 f_mod_19 rfl (hR _ _ _ rfl) ?_
              refine rp_iload (i := 4) d_mod_minute_129 rfl ?_
              refine rp_iaload d_mod_minute_131 rfl (vp_in_nI (by omega) (by decide)) ?_
              rw [nI_clamp (by omega)]
              refine rp_bipush (v := 115) d_mod_minute_132 (by decide) ?_
              refine rp_icmp_ne (tgt := 141) d_mod_minute_134 (by decide) (fun c134 => ?_) (fun c134 => ?_)
              · refine rp_iconst (v := 0) d_mod_minute_141 (by decide) ?_
                refine rp_istore (i := 6) d_mod_minute_142 rfl (Nat.le_of_ble_eq_true rfl) ?_
                refine rp_iload (i := 5) d_mod_minute_144 rfl ?_
                refine rp_if_ne (tgt := 154) d_mod_minute_146 (by decide) (fun c146 => ?_) (fun c146 => ?_)
                · exact absurd (by decide) c146
                · refine rp_iload (i := 6) d_mod_minute_149 rfl ?_
                  refine rp_if_eq (tgt := 158) d_mod_minute_151 (by decide) (fun c151 => ?_) (fun c151 => ?_)
                  · refine rp_iconst (v := 0) d_mod_minute_158 (by decide) ?_
                    refine rp_ireturn (ty := .boolean) d_mod_minute_159 rfl (by first | rfl | decide | assumption) ?_
                    simp only [decide_eq_false c79, decide_eq_false c90, decide_eq_true c110, decide_eq_false c122, decide_eq_false c134] at k
                    exact k
                  · exact absurd (by decide) c151
              · refine rp_iconst (v := 1) d_mod_minute_137 (by decide) ?_
                refine rp_goto (tgt := 142) d_mod_minute_138 (by decide) ?_
                refine rp_istore (i := 6) d_mod_minute_142 rfl (Nat.le_of_ble_eq_true rfl) ?_
                refine rp_iload (i := 5) d_mod_minute_144 rfl ?_
                refine rp_if_ne (tgt := 154) d_mod_minute_146 (by decide) (fun c146 => ?_) (fun c146 => ?_)
                · exact absurd (by decide) c146
                · refine rp_iload (i := 6) d_mod_minute_149 rfl ?_
                  refine rp_if_eq (tgt := 158) d_mod_minute_151 (by decide) (fun c151 => ?_) (fun c151 => ?_)
                  · exact absurd c151 (by decide)
                  · refine rp_iconst (v := 1) d_mod_minute_154 (by decide) ?_
                    refine rp_goto (tgt := 159) d_mod_minute_155 (by decide) ?_
                    refine rp_ireturn (ty := .boolean) d_mod_minute_159 rfl (by first | rfl | decide | assumption) ?_
                    simp only [decide_eq_false c79, decide_eq_false c90, decide_eq_true c110, decide_eq_false c122, decide_eq_true c134] at k
                    exact k
        · refine rp_iconst (v := 1) d_mod_minute_93 (by decide) ?_
          refine rp_goto (tgt := 98) d_mod_minute_94 (by decide) ?_
          refine rp_istore (i := 5) d_mod_minute_98 rfl (Nat.le_of_ble_eq_true rfl) ?_
          refine rp_iload (i := 4) d_mod_minute_100 rfl ?_
          refine rp_aload_n (i := 0) d_mod_minute_102 rfl rfl ?_
          refine rp_getR d_mod_minute_103 f_mod_25 rfl (hR _ _ _ rfl) ?_
          refine rp_iload_n (i := 1) d_mod_minute_106 rfl rfl ?_
          refine rp_iconst (v := 1) d_mod_minute_107 (by decide) ?_
          refine rp_iadd d_mod_minute_108 ?_
          refine rp_iaload d_mod_minute_109 rfl (by rw [nI_1]; exact vp_in_nI (by omega) (by decide)) ?_
          rw [r_s1 hs]
          refine rp_icmp_ge (tgt := 141) d_mod_minute_110 (by decide) (fun c110 => ?_) (fun c110 => ?_)
          · refine rp_iconst (v := 0) d_mod_minute_141 (by decide) ?_
            refine rp_istore (i := 6) d_mod_minute_142 rfl (Nat.le_of_ble_eq_true rfl) ?_
            refine rp_iload (i := 5) d_mod_minute_144 rfl ?_
            refine rp_if_ne (tgt := 154) d_mod_minute_146 (by decide) (fun c146 => ?_) (fun c146 => ?_)
            · refine rp_iconst (v := 1) d_mod_minute_154 (by decide) ?_
              refine rp_goto (tgt := 159) d_mod_minute_155 (by decide) ?_
              refine rp_ireturn (ty := .boolean) d_mod_minute_159 rfl (by first | rfl | decide | assumption) ?_
              rw [eN] at c110
              simp only [decide_eq_false c79, decide_eq_true c90, decide_eq_false c110] at k
              exact k
            · exact absurd c146 (by decide)
          · refine rp_aload_n (i := 0) d_mod_minute_113 rfl rfl ?_
            refine rp_getR d_mod_minute_114 f_mod_16 rfl (hR _ _ _ rfl) ?_
            refine rp_iload (i := 4) d_mod_minute_117 rfl ?_
            rw [eN, Classical.not_not] at c110
            refine rp_iaload d_mod_minute_119 rfl (vp_in_nI (by omega) (by decide)) ?_
            rw [nI_clamp (by omega)]
            refine rp_bipush (v := 10) d_mod_minute_120 (by decide) ?_
            refine rp_icmp_eq (tgt := 141) d_mod_minute_122 (by decide) (fun c122 => ?_) (fun c122 => ?_)
            · refine rp_iconst (v := 0) d_mod_minute_141 (by decide) ?_
              refine rp_istore (i := 6) d_mod_minute_142 rfl (Nat.le_of_ble_eq_true rfl) ?_
              refine rp_iload (i := 5) d_mod_minute_144 rfl ?_
              refine rp_if_ne (tgt := 154) d_mod_minute_146 (by decide) (fun c146 => ?_) (fun c146 => ?_)
              · refine rp_iconst (v := 1) d_mod_minute_154 (by decide) ?_
                refine rp_goto (tgt := 159) d_mod_minute_155 (by decide) ?_
                refine rp_ireturn (ty := .boolean) d_mod_minute_159 rfl (by first | rfl | decide | assumption) ?_
                simp only [decide_eq_false c79, decide_eq_true c90, decide_eq_true c110, decide_eq_true c122] at k
                exact k
              · exact absurd c146 (by decide)
            · refine rp_aload_n (i := 0) d_mod_minute_125 rfl rfl ?_
              refine rp_getR d_mod_minute_126 f_mod_19 rfl (hR _ _ _ rfl) ?_
              refine rp_iload (i := 4) d_mod_minute_129 rfl ?_
              refine rp_iaload d_mod_minute_131 rfl (vp_in_nI (by omega) (by decide)) ?_
              rw [nI_clamp (by omega)]
              refine rp_bipush (v := 115) d_mod_minute_132 (by decide) ?_
              refine rp_icmp_ne (tgt := 141) d_mod_minute_134 (by decide) (fun c134 => ?_) (fun c134 => ?_)
              · refine rp_iconst (v := 0) d_mod_minute_141 (by decide) ?_
                refine rp_istore (i := 6) d_mod_minute_142 rfl (Nat.le_of_ble_eq_true rfl) ?_
                refine rp_iload (i := 5) d_mod_minute_144 rfl ?_
                refine rp_if_ne (tgt := 154) d_mod_minute_146 (by decide) (fun c146 => ?_) (fun c146 => ?_)
                · refine rp_iconst (v := 1) d_mod_minute_154 (by decide) ?_
                  refine rp_goto (tgt := 159) d_mod_minute_155 (by decide) ?_
                  refine rp_ireturn (ty := .boolean) d_mod_minute_159 rfl (by first | rfl | decide | assumption) ?_
                  simp only [decide_eq_false c79, decide_eq_true c90, decide_eq_true c110, decide_eq_false c122, decide_eq_false c134] at k
                  exact k
                · exact absurd c146 (by decide)
              · refine rp_iconst (v := 1) d_mod_minute_137 (by decide) ?_
                refine rp_goto (tgt := 142) d_mod_minute_138 (by decide) ?_
                refine rp_istore (i := 6) d_mod_minute_142 rfl (Nat.le_of_ble_eq_true rfl) ?_
                refine rp_iload (i := 5) d_mod_minute_144 rfl ?_
                refine rp_if_ne (tgt := 154) d_mod_minute_146 (by decide) (fun c146 => ?_) (fun c146 => ?_)
                · refine rp_iconst (v := 1) d_mod_minute_154 (by decide) ?_
                  refine rp_goto (tgt := 159) d_mod_minute_155 (by decide) ?_
                  refine rp_ireturn (ty := .boolean) d_mod_minute_159 rfl (by first | rfl | decide | assumption) ?_
                  simp only [decide_eq_false c79, decide_eq_true c90, decide_eq_true c110, decide_eq_false c122, decide_eq_true c134] at k
                  exact k
                · exact absurd c146 (by decide)
  · rw [decide_eq_false hq] at k
    refine rp_iload_n (i := 3) d_mod_minute_61 rfl rfl ?_
    refine rp_aload_n (i := 0) d_mod_minute_62 rfl rfl ?_
    refine rp_getR d_mod_minute_63 f_mod_25 rfl (hR _ _ _ rfl) ?_
    refine rp_iload_n (i := 1) d_mod_minute_66 rfl rfl ?_
    refine rp_iaload d_mod_minute_67 rfl (vp_in_nI (by omega) (by decide)) ?_
    rw [r_s0 hs]
    refine rp_icmp_lt (tgt := 97) d_mod_minute_68 (by decide) (fun c68 => ?_) (fun c68 => ?_)
    · refine rp_iconst (v := 0) d_mod_minute_97 (by decide) ?_
      refine rp_istore (i := 5) d_mod_minute_98 rfl (Nat.le_of_ble_eq_true rfl) ?_
      refine rp_iload (i := 4) d_mod_minute_100 rfl ?_
      refine rp_aload_n (i := 0) d_mod_minute_102 rfl rfl ?_
      refine rp_getR d_mod_minute_103 f_mod_25 rfl (hR _ _ _ rfl) ?_
      refine rp_iload_n (i := 1) d_mod_minute_106 rfl rfl ?_
      refine rp_iconst (v := 1) d_mod_minute_107 (by decide) ?_
      refine rp_iadd d_mod_minute_108 ?_
      refine rp_iaload d_mod_minute_109 rfl (by rw [nI_1]; exact vp_in_nI (by omega) (by decide)) ?_
      rw [r_s1 hs]
      refine rp_icmp_ge (tgt := 141) d_mod_minute_110 (by decide) (fun c110 => ?_) (fun c110 => ?_)
      · refine rp_iconst (v := 0) d_mod_minute_141 (by decide) ?_
        refine rp_istore (i := 6) d_mod_minute_142 rfl (Nat.le_of_ble_eq_true rfl) ?_
        refine rp_iload (i := 5) d_mod_minute_144 rfl ?_
        refine rp_if_ne (tgt := 154) d_mod_minute_146 (by decide) (fun c146 => ?_) (fun c146 => ?_)
        · exact absurd (by decide) c146
        · refine rp_iload (i := 6) d_mod_minute_149 rfl ?_
          refine rp_if_eq (tgt := 158) d_mod_minute_151 (by decide) (fun c151 => ?_) (fun c151 => ?_)
          · refine rp_iconst (v := 0) d_mod_minute_158 (by decide) ?_
            refine rp_ireturn (ty := .boolean) d_mod_minute_159 rfl (by first | rfl | decide | assumption) ?_
            rw [eN] at c110
            simp only [decide_eq_false c110] at k
            exact k
          · exact absurd (by decide) c151
      · refine rp_aload_n (i := 0) d_mod_minute_113 rfl rfl ?_
        refine rp_getR d_mod_minute_114 f_mod_16 rfl (hR _ _ _ rfl) ?_
        refine rp_iload (i := 4) d_mod_minute_117 rfl ?_
        rw [eN, Classical.not_not] at c110
        refine rp_iaload d_mod_minute_119 rfl (vp_in_nI (by omega) (by decide)) ?_
        rw [nI_clamp (by omega)]
        refine rp_bipush (v := 10) d_mod_minute_120 (by decide) ?_
        refine rp_icmp_eq (tgt := 141) d_mod_minute_122 (by decide) (fun c122 => ?_) (fun c122 => ?_)
        · refine rp_iconst (v := 0) d_mod_minute_141 (by decide) ?_
          refine rp_istore (i := 6) d_mod_minute_142 rfl (Nat.le_of_ble_eq_true rfl) ?_
          refine rp_iload (i := 5) d_mod_minute_144 rfl ?_
          refine rp_if_ne (tgt := 154) d_mod_minute_146 (by decide) (fun c146 => ?_) (fun c146 => ?_)
          · exact absurd (by decide) c146
          · refine rp_iload (i := 6) d_mod_minute_149 rfl ?_
            refine rp_if_eq (tgt := 158) d_mod_minute_151 (by decide) (fun c151 => ?_) (fun c151 => ?_)
            · refine rp_iconst (v := 0) d_mod_minute_158 (by decide) ?_
              refine rp_ireturn (ty := .boolean) d_mod_minute_159 rfl (by first | rfl | decide | assumption) ?_
              simp only [decide_eq_true c110, decide_eq_true c122] at k
              exact k
            · exact absurd (by decide) c151
        · refine rp_aload_n (i := 0) d_mod_minute_125 rfl rfl ?_
          refine rp_getR d_mod_minute_126 f_mod_19 rfl (hR _ _ _ rfl) ?_
          refine rp_iload (i := 4) d_mod_minute_129 rfl ?_
          refine rp_iaload d_mod_minute_131 rfl (vp_in_nI (by omega) (by decide)) ?_
          rw [nI_clamp (by omega)]
          refine rp_bipush (v := 115) d_mod_minute_132 (by decide) ?_
          refine rp_icmp_ne (tgt := 141) d_mod_minute_134 (by decide) (fun c134 => ?_) (fun c134 => ?_)
          · refine rp_iconst (v := 0) d_mod_minute_141 (by decide) ?_
            refine rp_istore (i := 6) d_mod_minute_142 rfl (Nat.le_of_ble_eq_true rfl) ?_
            refine rp_iload (i := 5) d_mod_minute_144 rfl ?_
            refine rp_if_ne (tgt := 154) d_mod_minute_146 (by decide) (fun c146 => ?_) (fun c146 => ?_)
            · exact absurd (by decide) c146
            · refine rp_iload (i := 6) d_mod_minute_149 rfl ?_
              refine rp_if_eq (tgt := 158) d_mod_minute_151 (by decide) (fun c151 => ?_) (fun c151 => ?_)
              · refine rp_iconst (v := 0) d_mod_minute_158 (by decide) ?_
                refine rp_ireturn (ty := .boolean) d_mod_minute_159 rfl (by first | rfl | decide | assumption) ?_
                simp only [decide_eq_true c110, decide_eq_false c122, decide_eq_false c134] at k
                exact k
              · exact absurd (by decide) c151
          · refine rp_iconst (v := 1) d_mod_minute_137 (by decide) ?_
            refine rp_goto (tgt := 142) d_mod_minute_138 (by decide) ?_
            refine rp_istore (i := 6) d_mod_minute_142 rfl (Nat.le_of_ble_eq_true rfl) ?_
            refine rp_iload (i := 5) d_mod_minute_144 rfl ?_
            refine rp_if_ne (tgt := 154) d_mod_minute_146 (by decide) (fun c146 => ?_) (fun c146 => ?_)
            · exact absurd (by decide) c146
            · refine rp_iload (i := 6) d_mod_minute_149 rfl ?_
              refine rp_if_eq (tgt := 158) d_mod_minute_151 (by decide) (fun c151 => ?_) (fun c151 => ?_)
              · exact absurd c151 (by decide)
              · refine rp_iconst (v := 1) d_mod_minute_154 (by decide) ?_
                refine rp_goto (tgt := 159) d_mod_minute_155 (by decide) ?_
                refine rp_ireturn (ty := .boolean) d_mod_minute_159 rfl (by first | rfl | decide | assumption) ?_
                simp only [decide_eq_true c110, decide_eq_false c122, decide_eq_true c134] at k
                exact k
    · exact absurd (show nI Q - 1 < nI a from by rw [show Q = a by omega]; exact nI_sub1_lt (by omega)) c68
set_option maxHeartbeats 4000000 in
set_option maxRecDepth 100000 in
theorem s_mod_minute {h : cf_H} {P : Option Value → cf_H → Prop} (hR : cf_ok h) {s a b K : Nat} (hs : r_sec h s a b) (ha : a ≤ K) (hK : K < b) {x z : Int32} (hx : x = nI s) (hz : z = nI K) (k : P (some (.int (cf_b (rMin (h.2.2.2 22) (h.2.2.2 23) a b K)))) h) : RP k_mod_minute 0 [(0, .ref 19), (1, .int x), (2, .int z)] [] h P := by
  subst hx; subst hz
  obtain ⟨s1, s2, s3, s4, s5⟩ := id hs
  have q1 := cf_lst_ge (rFd (h.2.2.2 22)) a (K - a)
  have n2 := (cf_fst_sp (p := rFd (h.2.2.2 22)) (b - (K + 1)) (K + 1)).2.2.2
  refine rp_iload_n (i := 2) d_mod_minute_0 rfl rfl ?_
  refine rp_iconst (v := 1) d_mod_minute_1 (by decide) ?_
  refine rp_isub d_mod_minute_2 ?_
  refine rp_istore_n (i := 3) d_mod_minute_3 rfl rfl (Nat.le_of_ble_eq_true rfl) ?_
  refine rp_lv [(0, .ref 19), (1, .int (nI s)), (2, .int (nI K)), (3, .int (nI K - 1))] rfl ?_
  refine l_mod_min1 hR hs hK (K - a) K (by omega) (Nat.le_refl _) ?_
  refine rp_iload_n (i := 2) d_mod_minute_28 rfl rfl ?_
  refine rp_iconst (v := 1) d_mod_minute_29 (by decide) ?_
  refine rp_iadd d_mod_minute_30 ?_
  rw [nI_1]
  refine rp_istore (i := 4) d_mod_minute_31 rfl (Nat.le_of_ble_eq_true rfl) ?_
  refine rp_lv [(0, .ref 19), (1, .int (nI s)), (2, .int (nI K)), (3, .int (nI (cf_lst (rFd (h.2.2.2 22)) a (K - a)) - 1)), (4, .int (nI (K + 1)))] rfl ?_
  refine l_mod_min2 hR hs (b - (K + 1)) (K + 1) (by omega) ?_
  exact t_mod_min61 hR hs q1.1 (by omega) (by omega) k
set_option maxHeartbeats 4000000 in
set_option maxRecDepth 100000 in
theorem s_mod_daily {h : cf_H} {P : Option Value → cf_H → Prop} (hR : cf_ok h) {s a b K : Nat} (hs : r_sec h s a b) (ha : a ≤ K) (hK : K < b) {x z : Int32} (hx : x = nI s) (hz : z = nI K) (k : P (some (.int (cf_b (rDy (h.2.2.2 22) (h.2.2.2 23) (h.2.2.2 24) a b K)))) h) : RP k_mod_daily 0 [(0, .ref 19), (1, .int x), (2, .int z)] [] h P := by
  subst hx; subst hz
  obtain ⟨s1, s2, s3, s4, s5⟩ := id hs
  refine rp_aload_n (i := 0) d_mod_daily_0 rfl rfl ?_
  refine rp_getR d_mod_daily_1 f_mod_16 rfl (hR _ _ _ rfl) ?_
  refine rp_iload_n (i := 2) d_mod_daily_4 rfl rfl ?_
  refine rp_iaload d_mod_daily_5 rfl (vp_in_nI (by omega) (by decide)) ?_
  rw [nI_clamp (by omega)]
  refine rp_bipush (v := 9) d_mod_daily_6 (by decide) ?_
  refine rp_icmp_ne (tgt := 33) d_mod_daily_8 (by decide) (fun c8 => ?_) (fun c8 => ?_)
  · refine rp_iconst (v := 0) d_mod_daily_33 (by decide) ?_
    refine rp_ireturn (ty := .boolean) d_mod_daily_34 rfl (by first | rfl | decide | assumption) ?_
    simpa [rDy, cf_b, c8] using k
  · refine rp_aload_n (i := 0) d_mod_daily_11 rfl rfl ?_
    refine rp_getR d_mod_daily_12 f_mod_19 rfl (hR _ _ _ rfl) ?_
    refine rp_iload_n (i := 2) d_mod_daily_15 rfl rfl ?_
    refine rp_iaload d_mod_daily_16 rfl (vp_in_nI (by omega) (by decide)) ?_
    rw [nI_clamp (by omega)]
    refine rp_bipush (v := 104) d_mod_daily_17 (by decide) ?_
    refine rp_icmp_eq (tgt := 33) d_mod_daily_19 (by decide) (fun c19 => ?_) (fun c19 => ?_)
    · refine rp_iconst (v := 0) d_mod_daily_33 (by decide) ?_
      refine rp_ireturn (ty := .boolean) d_mod_daily_34 rfl (by first | rfl | decide | assumption) ?_
      simpa [rDy, cf_b, c8, c19] using k
    · refine rp_aload_n (i := 0) d_mod_daily_22 rfl rfl ?_
      refine rp_getR d_mod_daily_23 f_mod_19 rfl (hR _ _ _ rfl) ?_
      refine rp_iload_n (i := 2) d_mod_daily_26 rfl rfl ?_
      refine rp_iaload d_mod_daily_27 rfl (vp_in_nI (by omega) (by decide)) ?_
      rw [nI_clamp (by omega)]
      refine rp_bipush (v := 115) d_mod_daily_28 (by decide) ?_
      refine rp_icmp_ne (tgt := 35) d_mod_daily_30 (by decide) (fun c30 => ?_) (fun c30 => ?_)
      · refine rp_aload_n (i := 0) d_mod_daily_35 rfl rfl ?_
        refine rp_getR d_mod_daily_36 f_mod_19 rfl (hR _ _ _ rfl) ?_
        refine rp_iload_n (i := 2) d_mod_daily_39 rfl rfl ?_
        refine rp_iaload d_mod_daily_40 rfl (vp_in_nI (by omega) (by decide)) ?_
        rw [nI_clamp (by omega)]
        refine rp_bipush (v := 109) d_mod_daily_41 (by decide) ?_
        refine rp_icmp_ne (tgt := 65) d_mod_daily_43 (by decide) (fun c43 => ?_) (fun c43 => ?_)
        · refine rp_iconst (v := 1) d_mod_daily_65 (by decide) ?_
          refine rp_goto (tgt := 70) d_mod_daily_66 (by decide) ?_
          refine rp_ireturn (ty := .boolean) d_mod_daily_70 rfl (by first | rfl | decide | assumption) ?_
          simpa [rDy, cf_b, c8, c19, c30, c43] using k
        · refine rp_aload_n (i := 0) d_mod_daily_46 rfl rfl ?_
          refine rp_getR d_mod_daily_47 f_mod_22 rfl (hR _ _ _ rfl) ?_
          refine rp_iload_n (i := 2) d_mod_daily_50 rfl rfl ?_
          refine rp_iaload d_mod_daily_51 rfl (vp_in_nI (by omega) (by decide)) ?_
          rw [nI_clamp (by omega)]
          refine rp_iconst (v := 3) d_mod_daily_52 (by decide) ?_
          refine rp_icmp_eq (tgt := 65) d_mod_daily_53 (by decide) (fun c53 => ?_) (fun c53 => ?_)
          · refine rp_iconst (v := 1) d_mod_daily_65 (by decide) ?_
            refine rp_goto (tgt := 70) d_mod_daily_66 (by decide) ?_
            refine rp_ireturn (ty := .boolean) d_mod_daily_70 rfl (by first | rfl | decide | assumption) ?_
            simpa [rDy, cf_b, c8, c19, c30, c43, c53] using k
          · refine rp_aload_n (i := 0) d_mod_daily_56 rfl rfl ?_
            refine rp_iload_n (i := 1) d_mod_daily_57 rfl rfl ?_
            refine rp_iload_n (i := 2) d_mod_daily_58 rfl rfl ?_
            refine rp_callV2 d_mod_daily_59 q_mod_daily_212 (Or.inl ⟨_, _, _, rfl, rfl⟩) (Nat.le_of_ble_eq_true rfl) (Nat.le_of_ble_eq_true rfl) ?_
            refine s_mod_minute hR hs ha hK rfl rfl ?_
            refine rp_if_ne (tgt := 69) d_mod_daily_62 (by decide) (fun c62 => ?_) (fun c62 => ?_)
            · refine rp_iconst (v := 0) d_mod_daily_69 (by decide) ?_
              refine rp_ireturn (ty := .boolean) d_mod_daily_70 rfl (by first | rfl | decide | assumption) ?_
              replace c62 := cf_b_t c62
              simpa [rDy, cf_b, c8, c19, c30, c43, c53, c62] using k
            · refine rp_iconst (v := 1) d_mod_daily_65 (by decide) ?_
              refine rp_goto (tgt := 70) d_mod_daily_66 (by decide) ?_
              refine rp_ireturn (ty := .boolean) d_mod_daily_70 rfl (by first | rfl | decide | assumption) ?_
              replace c62 := cf_b_f c62
              simpa [rDy, cf_b, c8, c19, c30, c43, c53, c62] using k
      · refine rp_iconst (v := 0) d_mod_daily_33 (by decide) ?_
        refine rp_ireturn (ty := .boolean) d_mod_daily_34 rfl (by first | rfl | decide | assumption) ?_
        simpa [rDy, cf_b, c8, c19, c30] using k
