/-! THE REFERENCE: number, plain; THE CLASS: writePlain -/
def rTk (A : Nat) (pw : Int) (e : Nat) (neg gr : Bool) (ty fi se tx : Nat → Int32) (a b k : Nat) : List Int32 :=
  if ty k = 1 then rLt tx (fi k) (se k) else if ty k = 5 then [37] else if ty k = 3 then [46] else if ty k = 2 then tkN A pw e gr ty fi a b k else if ty k = 6 then wM neg (fi k) else []
def rTp (ty fi se tx : Nat → Int32) (k : Nat) : List Int32 := if ty k = 1 then rLt tx (fi k) (se k) else []
def cTp (ty va : Nat → Int32) (j : Nat) : List Int32 := if ty j = 1 then [va j] else []

set_option maxHeartbeats 4000000 in
set_option maxRecDepth 100000 in
theorem l_mod_num1 {h0 h : cf_H} {P : Option Value → cf_H → Prop} {L : List Int32} (w : vT h0 L h) {s a b : Nat} (hs : r_sec h0 s a b) : ∀ (m i : Nat) (g : Bool), i + m = b → a ≤ i → (k : RP k_mod_number 56 [(0, .ref 19), (1, .int (nI s)), (2, .int (cf_b (g || x_any (r_ag2 (h0.2.2.2 22) a b) i m)))] [] h P) → RP k_mod_number 9 [(0, .ref 19), (1, .int (nI s)), (2, .int (cf_b g)), (3, .int (nI i))] [] h P := by
  intro m
  induction m with
  | zero =>
    intro i g e ha k
    have e : i = b := e
    obtain ⟨s1, s2, s3, s4, s5⟩ := id hs
    have hR := w.ok
    have hs1 := w.sec hs
    have e22 := w.2.1.2.2.2 22 (by decide)
    refine rp_iload_n (i := 3) d_mod_number_9 rfl rfl ?_
    refine rp_aload_n (i := 0) d_mod_number_10 rfl rfl ?_
    refine rp_getR d_mod_number_11 f_mod_25 rfl (hR _ _ _ rfl) ?_
    refine rp_iload_n (i := 1) d_mod_number_14 rfl rfl ?_
    refine rp_iconst (v := 1) d_mod_number_15 (by decide) ?_
    refine rp_iadd d_mod_number_16 ?_
    refine rp_iaload d_mod_number_17 rfl (by rw [nI_1]; exact vp_in_nI (by omega) (by decide)) ?_
    rw [r_s1 hs1]
    refine rp_icmp_ge (tgt := 56) d_mod_number_18 (by decide) (fun c18 => ?_) (fun c18 => ?_)
    · rw [show x_any (r_ag2 (h0.2.2.2 22) a b) i 0 = false from rfl, Bool.or_false] at k
      refine rp_lv [(0, .ref 19), (1, .int (nI s)), (2, .int (cf_b g))] rfl ?_
      exact k
    · exact absurd (by rw [e]; exact Int32.le_refl _) c18
  | succ m ih =>
    intro i g e ha k
    obtain ⟨s1, s2, s3, s4, s5⟩ := id hs
    have hR := w.ok
    have hs1 := w.sec hs
    have e22 := w.2.1.2.2.2 22 (by decide)
    refine rp_iload_n (i := 3) d_mod_number_9 rfl rfl ?_
    refine rp_aload_n (i := 0) d_mod_number_10 rfl rfl ?_
    refine rp_getR d_mod_number_11 f_mod_25 rfl (hR _ _ _ rfl) ?_
    refine rp_iload_n (i := 1) d_mod_number_14 rfl rfl ?_
    refine rp_iconst (v := 1) d_mod_number_15 (by decide) ?_
    refine rp_iadd d_mod_number_16 ?_
    refine rp_iaload d_mod_number_17 rfl (by rw [nI_1]; exact vp_in_nI (by omega) (by decide)) ?_
    rw [r_s1 hs1]
    refine rp_icmp_ge (tgt := 56) d_mod_number_18 (by decide) (fun c18 => ?_) (fun c18 => ?_)
    · exact absurd c18 (nI_ge (by omega) (by omega))
    · refine rp_iload_n (i := 2) d_mod_number_21 rfl rfl ?_
      refine rp_if_ne (tgt := 44) d_mod_number_22 (by decide) (fun c22 => ?_) (fun c22 => ?_)
      · refine rp_iconst (v := 1) d_mod_number_44 (by decide) ?_
        refine rp_goto (tgt := 49) d_mod_number_45 (by decide) ?_
        refine rp_istore_n (i := 2) d_mod_number_49 rfl rfl (Nat.le_of_ble_eq_true rfl) ?_
        refine rp_iinc (i := 3) (y := 1) d_mod_number_50 rfl (by decide) rfl (Nat.le_of_ble_eq_true rfl) ?_
        refine rp_goto (tgt := 9) d_mod_number_53 (by decide) ?_
        have eg : (g || (r_ag2 (h0.2.2.2 22) a b i)) = true := by rw [cf_b_t c22]; rfl
        rw [x_any_S, ← Bool.or_assoc, eg] at k
        refine rp_lv [(0, .ref 19), (1, .int (nI s)), (2, .int (cf_b true)), (3, .int (nI (i + 1)))] (by rw [← nI_1]; rfl) ?_
        exact ih (i + 1) true (by omega) (by omega) k
      · refine rp_aload_n (i := 0) d_mod_number_25 rfl rfl ?_
        refine rp_getR d_mod_number_26 f_mod_16 rfl (hR _ _ _ rfl) ?_
        refine rp_iload_n (i := 3) d_mod_number_29 rfl rfl ?_
        refine rp_iaload d_mod_number_30 rfl (vp_in_nI (by omega) (by decide)) ?_
        rw [e22, nI_clamp (by omega)]
        refine rp_iconst (v := 4) d_mod_number_31 (by decide) ?_
        refine rp_icmp_ne (tgt := 48) d_mod_number_32 (by decide) (fun c32 => ?_) (fun c32 => ?_)
        · refine rp_iconst (v := 0) d_mod_number_48 (by decide) ?_
          refine rp_istore_n (i := 2) d_mod_number_49 rfl rfl (Nat.le_of_ble_eq_true rfl) ?_
          refine rp_iinc (i := 3) (y := 1) d_mod_number_50 rfl (by decide) rfl (Nat.le_of_ble_eq_true rfl) ?_
          refine rp_goto (tgt := 9) d_mod_number_53 (by decide) ?_
          have eg : (g || (r_ag2 (h0.2.2.2 22) a b i)) = false := by rw [cf_b_f c22, r_ag2, decide_eq_false c32]; rfl
          rw [x_any_S, ← Bool.or_assoc, eg] at k
          refine rp_lv [(0, .ref 19), (1, .int (nI s)), (2, .int (cf_b false)), (3, .int (nI (i + 1)))] (by rw [← nI_1]; rfl) ?_
          exact ih (i + 1) false (by omega) (by omega) k
        · refine rp_aload_n (i := 0) d_mod_number_35 rfl rfl ?_
          refine rp_iload_n (i := 1) d_mod_number_36 rfl rfl ?_
          refine rp_iload_n (i := 3) d_mod_number_37 rfl rfl ?_
          refine rp_callV2 d_mod_number_38 q_mod_number_105 (Or.inl ⟨_, _, _, rfl, rfl⟩) (Nat.le_of_ble_eq_true rfl) (Nat.le_of_ble_eq_true rfl) ?_
          refine s_mod_groups hR hs1 rfl rfl ha (by omega) ?_
          rw [e22]
          refine rp_if_eq (tgt := 48) d_mod_number_41 (by decide) (fun c41 => ?_) (fun c41 => ?_)
          · refine rp_iconst (v := 0) d_mod_number_48 (by decide) ?_
            refine rp_istore_n (i := 2) d_mod_number_49 rfl rfl (Nat.le_of_ble_eq_true rfl) ?_
            refine rp_iinc (i := 3) (y := 1) d_mod_number_50 rfl (by decide) rfl (Nat.le_of_ble_eq_true rfl) ?_
            refine rp_goto (tgt := 9) d_mod_number_53 (by decide) ?_
            have eg : (g || (r_ag2 (h0.2.2.2 22) a b i)) = false := by rw [cf_b_f c22, r_ag2, decide_eq_true c32, cf_b_f c41]; rfl
            rw [x_any_S, ← Bool.or_assoc, eg] at k
            refine rp_lv [(0, .ref 19), (1, .int (nI s)), (2, .int (cf_b false)), (3, .int (nI (i + 1)))] (by rw [← nI_1]; rfl) ?_
            exact ih (i + 1) false (by omega) (by omega) k
          · refine rp_iconst (v := 1) d_mod_number_44 (by decide) ?_
            refine rp_goto (tgt := 49) d_mod_number_45 (by decide) ?_
            refine rp_istore_n (i := 2) d_mod_number_49 rfl rfl (Nat.le_of_ble_eq_true rfl) ?_
            refine rp_iinc (i := 3) (y := 1) d_mod_number_50 rfl (by decide) rfl (Nat.le_of_ble_eq_true rfl) ?_
            refine rp_goto (tgt := 9) d_mod_number_53 (by decide) ?_
            have eg : (g || (r_ag2 (h0.2.2.2 22) a b i)) = true := by rw [cf_b_f c22, r_ag2, decide_eq_true c32, cf_b_t c41]; rfl
            rw [x_any_S, ← Bool.or_assoc, eg] at k
            refine rp_lv [(0, .ref 19), (1, .int (nI s)), (2, .int (cf_b true)), (3, .int (nI (i + 1)))] (by rw [← nI_1]; rfl) ?_
            exact ih (i + 1) true (by omega) (by omega) k
set_option maxHeartbeats 4000000 in
set_option maxRecDepth 100000 in
theorem l_mod_num2 {h0 : cf_H} {P : Option Value → cf_H → Prop} {s a b : Nat} (hs : r_sec h0 s a b) {A z : Nat} {E : Int} {gr : Bool} (hN : rN h0 A z (r_pl (h0.2.2.2 22) a b)) (hA : A < 10 ^ 16) (hz : z ≤ 500) (hE : -99 ≤ E ∧ E ≤ 99) (h20 : h0.1 19 20 = zI E) (hO : ∀ j, a ≤ j → j < b → h0.2.2.2 22 j = 1 → lOk (h0.2.2.2 23 j) (h0.2.2.2 24 j)) : ∀ (m i : Nat) (h : cf_H) (L : List Int32), i + m = b → a ≤ i → vT h0 L h → L.length + (fl (rTk A ((z : Int) - (r_pl (h0.2.2.2 22) a b : Nat)) E.natAbs (decide (E < 0)) gr (h0.2.2.2 22) (h0.2.2.2 23) (h0.2.2.2 24) (h0.2.2.2 21) a b) i m).length ≤ 600 → (k : ∀ h', vT h0 (L ++ fl (rTk A ((z : Int) - (r_pl (h0.2.2.2 22) a b : Nat)) E.natAbs (decide (E < 0)) gr (h0.2.2.2 22) (h0.2.2.2 23) (h0.2.2.2 24) (h0.2.2.2 21) a b) i m) h' → P none h') → RP k_mod_number 63 [(0, .ref 19), (1, .int (nI s)), (2, .int (cf_b gr)), (3, .int (nI i))] [] h P := by
  have zE : zR E := by unfold zR; omega
  obtain ⟨s1, s2, s3, s4, s5⟩ := id hs
  intro m
  induction m with
  | zero =>
    intro i h L e ha w hl k
    have e : i = b := e
    refine rp_iload_n (i := 3) d_mod_number_63 rfl rfl ?_
    refine rp_aload_n (i := 0) d_mod_number_64 rfl rfl ?_
    refine rp_getR d_mod_number_65 f_mod_25 rfl (w.ok _ _ _ rfl) ?_
    refine rp_iload_n (i := 1) d_mod_number_68 rfl rfl ?_
    refine rp_iconst (v := 1) d_mod_number_69 (by decide) ?_
    refine rp_iadd d_mod_number_70 ?_
    refine rp_iaload d_mod_number_71 rfl (by rw [nI_1]; exact vp_in_nI (by omega) (by decide)) ?_
    rw [r_s1 (w.sec hs)]
    refine rp_icmp_ge (tgt := 195) d_mod_number_72 (by decide) (fun c72 => ?_) (fun c72 => ?_)
    · refine rp_return d_mod_number_195 rfl ?_
      refine k h ?_
      show vT h0 (L ++ []) h
      rw [List.append_nil]; exact w
    · exact absurd (by rw [e]; exact Int32.le_refl _) c72
  | succ m ih =>
    intro i h L e ha w hl k
    refine rp_iload_n (i := 3) d_mod_number_63 rfl rfl ?_
    refine rp_aload_n (i := 0) d_mod_number_64 rfl rfl ?_
    refine rp_getR d_mod_number_65 f_mod_25 rfl (w.ok _ _ _ rfl) ?_
    refine rp_iload_n (i := 1) d_mod_number_68 rfl rfl ?_
    refine rp_iconst (v := 1) d_mod_number_69 (by decide) ?_
    refine rp_iadd d_mod_number_70 ?_
    refine rp_iaload d_mod_number_71 rfl (by rw [nI_1]; exact vp_in_nI (by omega) (by decide)) ?_
    rw [r_s1 (w.sec hs)]
    refine rp_icmp_ge (tgt := 195) d_mod_number_72 (by decide) (fun c72 => ?_) (fun c72 => ?_)
    · exact absurd c72 (nI_ge (by omega) (by omega))
    · refine rp_aload_n (i := 0) d_mod_number_75 rfl rfl ?_
      refine rp_getR d_mod_number_76 f_mod_16 rfl (w.ok _ _ _ rfl) ?_
      refine rp_iload_n (i := 3) d_mod_number_79 rfl rfl ?_
      refine rp_iaload d_mod_number_80 rfl (vp_in_nI (by omega) (by decide)) ?_
      rw [w.2.1.2.2.2 22 (by decide), nI_clamp (by omega)]
      refine rp_iconst (v := 1) d_mod_number_81 (by decide) ?_
      refine rp_icmp_ne (tgt := 90) d_mod_number_82 (by decide) (fun c82 => ?_) (fun c82 => ?_)
      · refine rp_aload_n (i := 0) d_mod_number_90 rfl rfl ?_
        refine rp_getR d_mod_number_91 f_mod_16 rfl (w.ok _ _ _ rfl) ?_
        refine rp_iload_n (i := 3) d_mod_number_94 rfl rfl ?_
        refine rp_iaload d_mod_number_95 rfl (vp_in_nI (by omega) (by decide)) ?_
        rw [w.2.1.2.2.2 22 (by decide), nI_clamp (by omega)]
        refine rp_iconst (v := 5) d_mod_number_96 (by decide) ?_
        refine rp_icmp_ne (tgt := 106) d_mod_number_97 (by decide) (fun c97 => ?_) (fun c97 => ?_)
        · refine rp_aload_n (i := 0) d_mod_number_106 rfl rfl ?_
          refine rp_getR d_mod_number_107 f_mod_16 rfl (w.ok _ _ _ rfl) ?_
          refine rp_iload_n (i := 3) d_mod_number_110 rfl rfl ?_
          refine rp_iaload d_mod_number_111 rfl (vp_in_nI (by omega) (by decide)) ?_
          rw [w.2.1.2.2.2 22 (by decide), nI_clamp (by omega)]
          refine rp_iconst (v := 3) d_mod_number_112 (by decide) ?_
          refine rp_icmp_ne (tgt := 122) d_mod_number_113 (by decide) (fun c113 => ?_) (fun c113 => ?_)
          · refine rp_aload_n (i := 0) d_mod_number_122 rfl rfl ?_
            refine rp_getR d_mod_number_123 f_mod_16 rfl (w.ok _ _ _ rfl) ?_
            refine rp_iload_n (i := 3) d_mod_number_126 rfl rfl ?_
            refine rp_iaload d_mod_number_127 rfl (vp_in_nI (by omega) (by decide)) ?_
            rw [w.2.1.2.2.2 22 (by decide), nI_clamp (by omega)]
            refine rp_iconst (v := 2) d_mod_number_128 (by decide) ?_
            refine rp_icmp_ne (tgt := 139) d_mod_number_129 (by decide) (fun c129 => ?_) (fun c129 => ?_)
            · refine rp_aload_n (i := 0) d_mod_number_139 rfl rfl ?_
              refine rp_getR d_mod_number_140 f_mod_16 rfl (w.ok _ _ _ rfl) ?_
              refine rp_iload_n (i := 3) d_mod_number_143 rfl rfl ?_
              refine rp_iaload d_mod_number_144 rfl (vp_in_nI (by omega) (by decide)) ?_
              rw [w.2.1.2.2.2 22 (by decide), nI_clamp (by omega)]
              refine rp_bipush (v := 6) d_mod_number_145 (by decide) ?_
              refine rp_icmp_ne (tgt := 189) d_mod_number_147 (by decide) (fun c147 => ?_) (fun c147 => ?_)
              · refine rp_iinc (i := 3) (y := 1) d_mod_number_189 rfl (by decide) rfl (Nat.le_of_ble_eq_true rfl) ?_
                refine rp_goto (tgt := 63) d_mod_number_192 (by decide) ?_
                have ec : (rTk A ((z : Int) - (r_pl (h0.2.2.2 22) a b : Nat)) E.natAbs (decide (E < 0)) gr (h0.2.2.2 22) (h0.2.2.2 23) (h0.2.2.2 24) (h0.2.2.2 21) a b) i = [] := by unfold rTk; rw [if_neg c82, if_neg c97, if_neg c113, if_neg c129, if_neg c147]
                rw [fl_S, ec, List.nil_append] at hl k
                refine rp_lv [(0, .ref 19), (1, .int (nI s)), (2, .int (cf_b gr)), (3, .int (nI (i + 1)))] (by rw [← nI_1]; rfl) ?_
                exact ih (i + 1) h L (by omega) (by omega) w hl k
              · refine rp_aload_n (i := 0) d_mod_number_150 rfl rfl ?_
                refine rp_bipush (v := 69) d_mod_number_151 (by decide) ?_
                refine rp_callV1 d_mod_number_153 q_mod_number_132 (Or.inl ⟨_, _, _, rfl, rfl⟩) (Nat.le_of_ble_eq_true rfl) (Nat.le_of_ble_eq_true rfl) ?_
                have ec : (rTk A ((z : Int) - (r_pl (h0.2.2.2 22) a b : Nat)) E.natAbs (decide (E < 0)) gr (h0.2.2.2 22) (h0.2.2.2 23) (h0.2.2.2 24) (h0.2.2.2 21) a b) i = wM (decide (E < 0)) (h0.2.2.2 23 i) := by unfold rTk; rw [if_neg c82, if_neg c97, if_neg c113, if_neg c129, if_pos c147]
                rw [fl_S, ec, List.length_append] at hl
                simp only [fl_S, ec] at k
                have hl0 : L.length + 2 + (fl (rTk A ((z : Int) - (r_pl (h0.2.2.2 22) a b : Nat)) E.natAbs (decide (E < 0)) gr (h0.2.2.2 22) (h0.2.2.2 23) (h0.2.2.2 24) (h0.2.2.2 21) a b) (i + 1) m).length ≤ 601 := by have : 1 ≤ (wM (decide (E < 0)) (h0.2.2.2 23 i)).length := Nat.succ_le_succ (Nat.zero_le _); omega
                refine s_mod_put w (by omega) (fun h w => ?_)
                refine rp_aload_n (i := 0) d_mod_number_156 rfl rfl ?_
                refine rp_getI d_mod_number_157 f_mod_158 rfl ?_
                rw [(w.2.1.1 19 20 (by decide)).trans h20]
                refine rp_if_ge (tgt := 172) d_mod_number_160 (by decide) (fun c160 => ?_) (fun c160 => ?_)
                · have e3 : decide (E < 0) = false := decide_eq_false (fun q => absurd ((zI_le zR0 zE).mp c160) (by omega))
                  refine rp_aload_n (i := 0) d_mod_number_172 rfl rfl ?_
                  refine rp_getR d_mod_number_173 f_mod_19 rfl (w.ok _ _ _ rfl) ?_
                  refine rp_iload_n (i := 3) d_mod_number_176 rfl rfl ?_
                  refine rp_iaload d_mod_number_177 rfl (vp_in_nI (by omega) (by decide)) ?_
                  rw [w.2.1.2.2.2 23 (by decide), nI_clamp (by omega)]
                  refine rp_bipush (v := 43) d_mod_number_178 (by decide) ?_
                  refine rp_icmp_ne (tgt := 189) d_mod_number_180 (by decide) (fun c180 => ?_) (fun c180 => ?_)
                  · have ew : wM (decide (E < 0)) (h0.2.2.2 23 i) = [69] := by rw [e3]; unfold wM; rw [if_neg c180]; rfl
                    rw [ew] at hl; simp only [ew] at k
                    simp only [List.length_cons, List.length_nil] at hl
                    refine rp_iinc (i := 3) (y := 1) d_mod_number_189 rfl (by decide) rfl (Nat.le_of_ble_eq_true rfl) ?_
                    refine rp_goto (tgt := 63) d_mod_number_192 (by decide) ?_
                    refine rp_lv [(0, .ref 19), (1, .int (nI s)), (2, .int (cf_b gr)), (3, .int (nI (i + 1)))] (by rw [← nI_1]; rfl) ?_
                    refine ih (i + 1) h _ (by omega) (by omega) w (by simp only [List.length_append, List.length_cons, List.length_nil] at *; omega) (fun h3 y => k h3 ?_)
                    simp only [List.append_assoc, List.cons_append, List.nil_append] at y ⊢; exact y
                  · refine rp_aload_n (i := 0) d_mod_number_183 rfl rfl ?_
                    refine rp_bipush (v := 43) d_mod_number_184 (by decide) ?_
                    refine rp_callV1 d_mod_number_186 q_mod_number_132 (Or.inl ⟨_, _, _, rfl, rfl⟩) (Nat.le_of_ble_eq_true rfl) (Nat.le_of_ble_eq_true rfl) ?_
                    have ew : wM (decide (E < 0)) (h0.2.2.2 23 i) = [69, 43] := by rw [e3, c180]; rfl
                    rw [ew] at hl; simp only [ew] at k
                    simp only [List.length_cons, List.length_nil] at hl
                    refine s_mod_put w (by rw [List.length_append]; simp only [List.length_cons, List.length_nil]; omega) (fun h w => ?_)
                    refine rp_iinc (i := 3) (y := 1) d_mod_number_189 rfl (by decide) rfl (Nat.le_of_ble_eq_true rfl) ?_
                    refine rp_goto (tgt := 63) d_mod_number_192 (by decide) ?_
                    refine rp_lv [(0, .ref 19), (1, .int (nI s)), (2, .int (cf_b gr)), (3, .int (nI (i + 1)))] (by rw [← nI_1]; rfl) ?_
                    refine ih (i + 1) h _ (by omega) (by omega) w (by simp only [List.length_append, List.length_cons, List.length_nil] at *; omega) (fun h3 y => k h3 ?_)
                    simp only [List.append_assoc, List.cons_append, List.nil_append] at y ⊢; exact y
                · refine rp_aload_n (i := 0) d_mod_number_163 rfl rfl ?_
                  refine rp_bipush (v := 45) d_mod_number_164 (by decide) ?_
                  refine rp_callV1 d_mod_number_166 q_mod_number_132 (Or.inl ⟨_, _, _, rfl, rfl⟩) (Nat.le_of_ble_eq_true rfl) (Nat.le_of_ble_eq_true rfl) ?_
                  have e3 : decide (E < 0) = true := decide_eq_true (Int.not_le.mp (fun q => c160 ((zI_le zR0 zE).mpr q)))
                  have ew : wM (decide (E < 0)) (h0.2.2.2 23 i) = [69, 45] := by rw [e3]; rfl
                  rw [ew] at hl; simp only [ew] at k
                  simp only [List.length_cons, List.length_nil] at hl
                  refine s_mod_put w (by rw [List.length_append]; simp only [List.length_cons, List.length_nil]; omega) (fun h w => ?_)
                  refine rp_goto (tgt := 189) d_mod_number_169 (by decide) ?_
                  refine rp_iinc (i := 3) (y := 1) d_mod_number_189 rfl (by decide) rfl (Nat.le_of_ble_eq_true rfl) ?_
                  refine rp_goto (tgt := 63) d_mod_number_192 (by decide) ?_
                  refine rp_lv [(0, .ref 19), (1, .int (nI s)), (2, .int (cf_b gr)), (3, .int (nI (i + 1)))] (by rw [← nI_1]; rfl) ?_
                  refine ih (i + 1) h _ (by omega) (by omega) w (by simp only [List.length_append, List.length_cons, List.length_nil] at *; omega) (fun h3 y => k h3 ?_)
                  simp only [List.append_assoc, List.cons_append, List.nil_append] at y ⊢; exact y
            · refine rp_aload_n (i := 0) d_mod_number_132 rfl rfl ?_
              refine rp_iload_n (i := 1) d_mod_number_133 rfl rfl ?_
              refine rp_iload_n (i := 3) d_mod_number_134 rfl rfl ?_
              refine rp_iload_n (i := 2) d_mod_number_135 rfl rfl ?_
              refine rp_callV3 d_mod_number_136 q_mod_number_188 (Or.inl ⟨_, _, _, rfl, rfl⟩) (Nat.le_of_ble_eq_true rfl) (Nat.le_of_ble_eq_true rfl) ?_
              have ec : (rTk A ((z : Int) - (r_pl (h0.2.2.2 22) a b : Nat)) E.natAbs (decide (E < 0)) gr (h0.2.2.2 22) (h0.2.2.2 23) (h0.2.2.2 24) (h0.2.2.2 21) a b) i = tkN A ((z : Int) - (r_pl (h0.2.2.2 22) a b : Nat)) E.natAbs gr (h0.2.2.2 22) (h0.2.2.2 23) a b i := by unfold rTk; rw [if_neg c82, if_neg c97, if_neg c113, if_pos c129]
              rw [fl_S, ec, List.length_append] at hl
              simp only [fl_S, ec] at k
              refine s_mod_place w hs hN hA hz hE h20 ha (by omega) rfl rfl rfl (by omega) (fun h w => ?_)
              refine rp_aload_n (i := 0) d_mod_number_139 rfl rfl ?_
              refine rp_getR d_mod_number_140 f_mod_16 rfl (w.ok _ _ _ rfl) ?_
              refine rp_iload_n (i := 3) d_mod_number_143 rfl rfl ?_
              refine rp_iaload d_mod_number_144 rfl (vp_in_nI (by omega) (by decide)) ?_
              rw [w.2.1.2.2.2 22 (by decide), nI_clamp (by omega)]
              refine rp_bipush (v := 6) d_mod_number_145 (by decide) ?_
              refine rp_icmp_ne (tgt := 189) d_mod_number_147 (by decide) (fun c147 => ?_) (fun c147 => ?_)
              · refine rp_iinc (i := 3) (y := 1) d_mod_number_189 rfl (by decide) rfl (Nat.le_of_ble_eq_true rfl) ?_
                refine rp_goto (tgt := 63) d_mod_number_192 (by decide) ?_
                refine rp_lv [(0, .ref 19), (1, .int (nI s)), (2, .int (cf_b gr)), (3, .int (nI (i + 1)))] (by rw [← nI_1]; rfl) ?_
                refine ih (i + 1) h _ (by omega) (by omega) w (by simp only [List.length_append, List.length_cons, List.length_nil] at *; omega) (fun h3 y => k h3 ?_)
                simp only [List.append_assoc, List.cons_append, List.nil_append] at y ⊢; exact y
              · exact absurd (c129.symm.trans c147) (by decide)
          · refine rp_aload_n (i := 0) d_mod_number_116 rfl rfl ?_
            refine rp_bipush (v := 46) d_mod_number_117 (by decide) ?_
            refine rp_callV1 d_mod_number_119 q_mod_number_132 (Or.inl ⟨_, _, _, rfl, rfl⟩) (Nat.le_of_ble_eq_true rfl) (Nat.le_of_ble_eq_true rfl) ?_
            have ec : (rTk A ((z : Int) - (r_pl (h0.2.2.2 22) a b : Nat)) E.natAbs (decide (E < 0)) gr (h0.2.2.2 22) (h0.2.2.2 23) (h0.2.2.2 24) (h0.2.2.2 21) a b) i = [46] := by unfold rTk; rw [if_neg c82, if_neg c97, if_pos c113]
            rw [fl_S, ec, List.length_append] at hl
            simp only [fl_S, ec] at k
            simp only [List.length_cons, List.length_nil] at hl
            refine s_mod_put w (by omega) (fun h w => ?_)
            refine rp_aload_n (i := 0) d_mod_number_122 rfl rfl ?_
            refine rp_getR d_mod_number_123 f_mod_16 rfl (w.ok _ _ _ rfl) ?_
            refine rp_iload_n (i := 3) d_mod_number_126 rfl rfl ?_
            refine rp_iaload d_mod_number_127 rfl (vp_in_nI (by omega) (by decide)) ?_
            rw [w.2.1.2.2.2 22 (by decide), nI_clamp (by omega)]
            refine rp_iconst (v := 2) d_mod_number_128 (by decide) ?_
            refine rp_icmp_ne (tgt := 139) d_mod_number_129 (by decide) (fun c129 => ?_) (fun c129 => ?_)
            · refine rp_aload_n (i := 0) d_mod_number_139 rfl rfl ?_
              refine rp_getR d_mod_number_140 f_mod_16 rfl (w.ok _ _ _ rfl) ?_
              refine rp_iload_n (i := 3) d_mod_number_143 rfl rfl ?_
              refine rp_iaload d_mod_number_144 rfl (vp_in_nI (by omega) (by decide)) ?_
              rw [w.2.1.2.2.2 22 (by decide), nI_clamp (by omega)]
              refine rp_bipush (v := 6) d_mod_number_145 (by decide) ?_
              refine rp_icmp_ne (tgt := 189) d_mod_number_147 (by decide) (fun c147 => ?_) (fun c147 => ?_)
              · refine rp_iinc (i := 3) (y := 1) d_mod_number_189 rfl (by decide) rfl (Nat.le_of_ble_eq_true rfl) ?_
                refine rp_goto (tgt := 63) d_mod_number_192 (by decide) ?_
                refine rp_lv [(0, .ref 19), (1, .int (nI s)), (2, .int (cf_b gr)), (3, .int (nI (i + 1)))] (by rw [← nI_1]; rfl) ?_
                refine ih (i + 1) h _ (by omega) (by omega) w (by simp only [List.length_append, List.length_cons, List.length_nil] at *; omega) (fun h3 y => k h3 ?_)
                simp only [List.append_assoc, List.cons_append, List.nil_append] at y ⊢; exact y
              · exact absurd (c113.symm.trans c147) (by decide)
            · exact absurd (c113.symm.trans c129) (by decide)
        · refine rp_aload_n (i := 0) d_mod_number_100 rfl rfl ?_
          refine rp_bipush (v := 37) d_mod_number_101 (by decide) ?_
          refine rp_callV1 d_mod_number_103 q_mod_number_132 (Or.inl ⟨_, _, _, rfl, rfl⟩) (Nat.le_of_ble_eq_true rfl) (Nat.le_of_ble_eq_true rfl) ?_
          have ec : (rTk A ((z : Int) - (r_pl (h0.2.2.2 22) a b : Nat)) E.natAbs (decide (E < 0)) gr (h0.2.2.2 22) (h0.2.2.2 23) (h0.2.2.2 24) (h0.2.2.2 21) a b) i = [37] := by unfold rTk; rw [if_neg c82, if_pos c97]
          rw [fl_S, ec, List.length_append] at hl
          simp only [fl_S, ec] at k
          simp only [List.length_cons, List.length_nil] at hl
          refine s_mod_put w (by omega) (fun h w => ?_)
          refine rp_aload_n (i := 0) d_mod_number_106 rfl rfl ?_
          refine rp_getR d_mod_number_107 f_mod_16 rfl (w.ok _ _ _ rfl) ?_
          refine rp_iload_n (i := 3) d_mod_number_110 rfl rfl ?_
          refine rp_iaload d_mod_number_111 rfl (vp_in_nI (by omega) (by decide)) ?_
          rw [w.2.1.2.2.2 22 (by decide), nI_clamp (by omega)]
          refine rp_iconst (v := 3) d_mod_number_112 (by decide) ?_
          refine rp_icmp_ne (tgt := 122) d_mod_number_113 (by decide) (fun c113 => ?_) (fun c113 => ?_)
          · refine rp_aload_n (i := 0) d_mod_number_122 rfl rfl ?_
            refine rp_getR d_mod_number_123 f_mod_16 rfl (w.ok _ _ _ rfl) ?_
            refine rp_iload_n (i := 3) d_mod_number_126 rfl rfl ?_
            refine rp_iaload d_mod_number_127 rfl (vp_in_nI (by omega) (by decide)) ?_
            rw [w.2.1.2.2.2 22 (by decide), nI_clamp (by omega)]
            refine rp_iconst (v := 2) d_mod_number_128 (by decide) ?_
            refine rp_icmp_ne (tgt := 139) d_mod_number_129 (by decide) (fun c129 => ?_) (fun c129 => ?_)
            · refine rp_aload_n (i := 0) d_mod_number_139 rfl rfl ?_
              refine rp_getR d_mod_number_140 f_mod_16 rfl (w.ok _ _ _ rfl) ?_
              refine rp_iload_n (i := 3) d_mod_number_143 rfl rfl ?_
              refine rp_iaload d_mod_number_144 rfl (vp_in_nI (by omega) (by decide)) ?_
              rw [w.2.1.2.2.2 22 (by decide), nI_clamp (by omega)]
              refine rp_bipush (v := 6) d_mod_number_145 (by decide) ?_
              refine rp_icmp_ne (tgt := 189) d_mod_number_147 (by decide) (fun c147 => ?_) (fun c147 => ?_)
              · refine rp_iinc (i := 3) (y := 1) d_mod_number_189 rfl (by decide) rfl (Nat.le_of_ble_eq_true rfl) ?_
                refine rp_goto (tgt := 63) d_mod_number_192 (by decide) ?_
                refine rp_lv [(0, .ref 19), (1, .int (nI s)), (2, .int (cf_b gr)), (3, .int (nI (i + 1)))] (by rw [← nI_1]; rfl) ?_
                refine ih (i + 1) h _ (by omega) (by omega) w (by simp only [List.length_append, List.length_cons, List.length_nil] at *; omega) (fun h3 y => k h3 ?_)
                simp only [List.append_assoc, List.cons_append, List.nil_append] at y ⊢; exact y
              · exact absurd (c97.symm.trans c147) (by decide)
            · exact absurd (c97.symm.trans c129) (by decide)
          · exact absurd (c97.symm.trans c113) (by decide)
      · refine rp_aload_n (i := 0) d_mod_number_85 rfl rfl ?_
        refine rp_iload_n (i := 3) d_mod_number_86 rfl rfl ?_
        refine rp_callV1 d_mod_number_87 q_mod_number_139 (Or.inl ⟨_, _, _, rfl, rfl⟩) (Nat.le_of_ble_eq_true rfl) (Nat.le_of_ble_eq_true rfl) ?_
        have ec : (rTk A ((z : Int) - (r_pl (h0.2.2.2 22) a b : Nat)) E.natAbs (decide (E < 0)) gr (h0.2.2.2 22) (h0.2.2.2 23) (h0.2.2.2 24) (h0.2.2.2 21) a b) i = rLt (h0.2.2.2 21) (h0.2.2.2 23 i) (h0.2.2.2 24 i) := by unfold rTk; rw [if_pos c82]
        rw [fl_S, ec, List.length_append] at hl
        simp only [fl_S, ec] at k
        refine s_mod_putLiteral w (by omega) (hO i ha (by omega) c82) rfl (by omega) (fun h w => ?_)
        refine rp_aload_n (i := 0) d_mod_number_90 rfl rfl ?_
        refine rp_getR d_mod_number_91 f_mod_16 rfl (w.ok _ _ _ rfl) ?_
        refine rp_iload_n (i := 3) d_mod_number_94 rfl rfl ?_
        refine rp_iaload d_mod_number_95 rfl (vp_in_nI (by omega) (by decide)) ?_
        rw [w.2.1.2.2.2 22 (by decide), nI_clamp (by omega)]
        refine rp_iconst (v := 5) d_mod_number_96 (by decide) ?_
        refine rp_icmp_ne (tgt := 106) d_mod_number_97 (by decide) (fun c97 => ?_) (fun c97 => ?_)
        · refine rp_aload_n (i := 0) d_mod_number_106 rfl rfl ?_
          refine rp_getR d_mod_number_107 f_mod_16 rfl (w.ok _ _ _ rfl) ?_
          refine rp_iload_n (i := 3) d_mod_number_110 rfl rfl ?_
          refine rp_iaload d_mod_number_111 rfl (vp_in_nI (by omega) (by decide)) ?_
          rw [w.2.1.2.2.2 22 (by decide), nI_clamp (by omega)]
          refine rp_iconst (v := 3) d_mod_number_112 (by decide) ?_
          refine rp_icmp_ne (tgt := 122) d_mod_number_113 (by decide) (fun c113 => ?_) (fun c113 => ?_)
          · refine rp_aload_n (i := 0) d_mod_number_122 rfl rfl ?_
            refine rp_getR d_mod_number_123 f_mod_16 rfl (w.ok _ _ _ rfl) ?_
            refine rp_iload_n (i := 3) d_mod_number_126 rfl rfl ?_
            refine rp_iaload d_mod_number_127 rfl (vp_in_nI (by omega) (by decide)) ?_
            rw [w.2.1.2.2.2 22 (by decide), nI_clamp (by omega)]
            refine rp_iconst (v := 2) d_mod_number_128 (by decide) ?_
            refine rp_icmp_ne (tgt := 139) d_mod_number_129 (by decide) (fun c129 => ?_) (fun c129 => ?_)
            · refine rp_aload_n (i := 0) d_mod_number_139 rfl rfl ?_
              refine rp_getR d_mod_number_140 f_mod_16 rfl (w.ok _ _ _ rfl) ?_
              refine rp_iload_n (i := 3) d_mod_number_143 rfl rfl ?_
              refine rp_iaload d_mod_number_144 rfl (vp_in_nI (by omega) (by decide)) ?_
              rw [w.2.1.2.2.2 22 (by decide), nI_clamp (by omega)]
              refine rp_bipush (v := 6) d_mod_number_145 (by decide) ?_
              refine rp_icmp_ne (tgt := 189) d_mod_number_147 (by decide) (fun c147 => ?_) (fun c147 => ?_)
              · refine rp_iinc (i := 3) (y := 1) d_mod_number_189 rfl (by decide) rfl (Nat.le_of_ble_eq_true rfl) ?_
                refine rp_goto (tgt := 63) d_mod_number_192 (by decide) ?_
                refine rp_lv [(0, .ref 19), (1, .int (nI s)), (2, .int (cf_b gr)), (3, .int (nI (i + 1)))] (by rw [← nI_1]; rfl) ?_
                refine ih (i + 1) h _ (by omega) (by omega) w (by simp only [List.length_append, List.length_cons, List.length_nil] at *; omega) (fun h3 y => k h3 ?_)
                simp only [List.append_assoc, List.cons_append, List.nil_append] at y ⊢; exact y
              · exact absurd (c82.symm.trans c147) (by decide)
            · exact absurd (c82.symm.trans c129) (by decide)
          · exact absurd (c82.symm.trans c113) (by decide)
        · exact absurd (c82.symm.trans c97) (by decide)
set_option maxHeartbeats 4000000 in
set_option maxRecDepth 100000 in
theorem s_mod_number {h0 h : cf_H} {P : Option Value → cf_H → Prop} {s a b : Nat} (hs : r_sec h0 s a b) {A z : Nat} {E : Int} (hN : rN h0 A z (r_pl (h0.2.2.2 22) a b)) (hA : A < 10 ^ 16) (hz : z ≤ 500) (hE : -99 ≤ E ∧ E ≤ 99) (h20 : h0.1 19 20 = zI E) (hO : ∀ j, a ≤ j → j < b → h0.2.2.2 22 j = 1 → lOk (h0.2.2.2 23 j) (h0.2.2.2 24 j)) {L : List Int32} (w : vT h0 L h) {x : Int32} (hx : x = nI s) (hl : L.length + (fl (rTk A ((z : Int) - (r_pl (h0.2.2.2 22) a b : Nat)) E.natAbs (decide (E < 0)) (x_any (r_ag2 (h0.2.2.2 22) a b) a (b - a)) (h0.2.2.2 22) (h0.2.2.2 23) (h0.2.2.2 24) (h0.2.2.2 21) a b) a (b - a)).length ≤ 600) (k : ∀ h', vT h0 (L ++ fl (rTk A ((z : Int) - (r_pl (h0.2.2.2 22) a b : Nat)) E.natAbs (decide (E < 0)) (x_any (r_ag2 (h0.2.2.2 22) a b) a (b - a)) (h0.2.2.2 22) (h0.2.2.2 23) (h0.2.2.2 24) (h0.2.2.2 21) a b) a (b - a)) h' → P none h') : RP k_mod_number 0 [(0, .ref 19), (1, .int x)] [] h P := by
  subst hx
  obtain ⟨s1, s2, s3, s4, s5⟩ := id hs
  have hs1 := w.sec hs
  refine rp_iconst (v := 0) d_mod_number_0 (by decide) ?_
  refine rp_istore_n (i := 2) d_mod_number_1 rfl rfl (Nat.le_of_ble_eq_true rfl) ?_
  refine rp_aload_n (i := 0) d_mod_number_2 rfl rfl ?_
  refine rp_getR d_mod_number_3 f_mod_25 rfl (w.ok _ _ _ rfl) ?_
  refine rp_iload_n (i := 1) d_mod_number_6 rfl rfl ?_
  refine rp_iaload d_mod_number_7 rfl (vp_in_nI (by omega) (by decide)) ?_
  rw [r_s0 hs1]
  refine rp_istore_n (i := 3) d_mod_number_8 rfl rfl (Nat.le_of_ble_eq_true rfl) ?_
  refine rp_lv [(0, .ref 19), (1, .int (nI s)), (2, .int (cf_b false)), (3, .int (nI a))] rfl ?_
  refine l_mod_num1 w hs (b - a) a false (by omega) (Nat.le_refl _) ?_
  rw [Bool.false_or]
  refine rp_aload_n (i := 0) d_mod_number_56 rfl rfl ?_
  refine rp_getR d_mod_number_57 f_mod_25 rfl (w.ok _ _ _ rfl) ?_
  refine rp_iload_n (i := 1) d_mod_number_60 rfl rfl ?_
  refine rp_iaload d_mod_number_61 rfl (vp_in_nI (by omega) (by decide)) ?_
  rw [r_s0 hs1]
  refine rp_istore_n (i := 3) d_mod_number_62 rfl rfl (Nat.le_of_ble_eq_true rfl) ?_
  refine rp_lv [(0, .ref 19), (1, .int (nI s)), (2, .int (cf_b (x_any (r_ag2 (h0.2.2.2 22) a b) a (b - a)))), (3, .int (nI a))] rfl ?_
  exact l_mod_num2 hs hN hA hz hE h20 hO (b - a) a h L (by omega) (Nat.le_refl _) w hl k
set_option maxHeartbeats 4000000 in
set_option maxRecDepth 100000 in
theorem l_mod_plain {h0 : cf_H} {P : Option Value → cf_H → Prop} {s a b : Nat} (hs : r_sec h0 s a b) (hO : ∀ j, a ≤ j → j < b → h0.2.2.2 22 j = 1 → lOk (h0.2.2.2 23 j) (h0.2.2.2 24 j)) : ∀ (m i : Nat) (h : cf_H) (L : List Int32), i + m = b → a ≤ i → vT h0 L h → L.length + (fl (rTp (h0.2.2.2 22) (h0.2.2.2 23) (h0.2.2.2 24) (h0.2.2.2 21)) i m).length ≤ 600 → (k : ∀ h', vT h0 (L ++ fl (rTp (h0.2.2.2 22) (h0.2.2.2 23) (h0.2.2.2 24) (h0.2.2.2 21)) i m) h' → P none h') → RP k_mod_plain 7 [(0, .ref 19), (1, .int (nI s)), (2, .int (nI i))] [] h P := by
  obtain ⟨s1, s2, s3, s4, s5⟩ := id hs
  intro m
  induction m with
  | zero =>
    intro i h L e ha w hl k
    have e : i = b := e
    refine rp_iload_n (i := 2) d_mod_plain_7 rfl rfl ?_
    refine rp_aload_n (i := 0) d_mod_plain_8 rfl rfl ?_
    refine rp_getR d_mod_plain_9 f_mod_25 rfl (w.ok _ _ _ rfl) ?_
    refine rp_iload_n (i := 1) d_mod_plain_12 rfl rfl ?_
    refine rp_iconst (v := 1) d_mod_plain_13 (by decide) ?_
    refine rp_iadd d_mod_plain_14 ?_
    refine rp_iaload d_mod_plain_15 rfl (by rw [nI_1]; exact vp_in_nI (by omega) (by decide)) ?_
    rw [r_s1 (w.sec hs)]
    refine rp_icmp_ge (tgt := 40) d_mod_plain_16 (by decide) (fun c16 => ?_) (fun c16 => ?_)
    · refine rp_return d_mod_plain_40 rfl ?_
      refine k h ?_
      show vT h0 (L ++ []) h
      rw [List.append_nil]; exact w
    · exact absurd (by rw [e]; exact Int32.le_refl _) c16
  | succ m ih =>
    intro i h L e ha w hl k
    refine rp_iload_n (i := 2) d_mod_plain_7 rfl rfl ?_
    refine rp_aload_n (i := 0) d_mod_plain_8 rfl rfl ?_
    refine rp_getR d_mod_plain_9 f_mod_25 rfl (w.ok _ _ _ rfl) ?_
    refine rp_iload_n (i := 1) d_mod_plain_12 rfl rfl ?_
    refine rp_iconst (v := 1) d_mod_plain_13 (by decide) ?_
    refine rp_iadd d_mod_plain_14 ?_
    refine rp_iaload d_mod_plain_15 rfl (by rw [nI_1]; exact vp_in_nI (by omega) (by decide)) ?_
    rw [r_s1 (w.sec hs)]
    refine rp_icmp_ge (tgt := 40) d_mod_plain_16 (by decide) (fun c16 => ?_) (fun c16 => ?_)
    · exact absurd c16 (nI_ge (by omega) (by omega))
    · refine rp_aload_n (i := 0) d_mod_plain_19 rfl rfl ?_
      refine rp_getR d_mod_plain_20 f_mod_16 rfl (w.ok _ _ _ rfl) ?_
      refine rp_iload_n (i := 2) d_mod_plain_23 rfl rfl ?_
      refine rp_iaload d_mod_plain_24 rfl (vp_in_nI (by omega) (by decide)) ?_
      rw [w.2.1.2.2.2 22 (by decide), nI_clamp (by omega)]
      refine rp_iconst (v := 1) d_mod_plain_25 (by decide) ?_
      refine rp_icmp_ne (tgt := 34) d_mod_plain_26 (by decide) (fun c26 => ?_) (fun c26 => ?_)
      · refine rp_iinc (i := 2) (y := 1) d_mod_plain_34 rfl (by decide) rfl (Nat.le_of_ble_eq_true rfl) ?_
        refine rp_goto (tgt := 7) d_mod_plain_37 (by decide) ?_
        have ec : (rTp (h0.2.2.2 22) (h0.2.2.2 23) (h0.2.2.2 24) (h0.2.2.2 21)) i = [] := if_neg c26
        rw [fl_S, ec, List.nil_append] at hl k
        refine rp_lv [(0, .ref 19), (1, .int (nI s)), (2, .int (nI (i + 1)))] (by rw [← nI_1]; rfl) ?_
        exact ih (i + 1) h L (by omega) (by omega) w hl k
      · refine rp_aload_n (i := 0) d_mod_plain_29 rfl rfl ?_
        refine rp_iload_n (i := 2) d_mod_plain_30 rfl rfl ?_
        refine rp_callV1 d_mod_plain_31 q_mod_plain_139 (Or.inl ⟨_, _, _, rfl, rfl⟩) (Nat.le_of_ble_eq_true rfl) (Nat.le_of_ble_eq_true rfl) ?_
        have ec : (rTp (h0.2.2.2 22) (h0.2.2.2 23) (h0.2.2.2 24) (h0.2.2.2 21)) i = rLt (h0.2.2.2 21) (h0.2.2.2 23 i) (h0.2.2.2 24 i) := if_pos c26
        rw [fl_S, ec, List.length_append] at hl
        simp only [fl_S, ec] at k
        refine s_mod_putLiteral w (by omega) (hO i ha (by omega) c26) rfl (by omega) (fun h w => ?_)
        refine rp_iinc (i := 2) (y := 1) d_mod_plain_34 rfl (by decide) rfl (Nat.le_of_ble_eq_true rfl) ?_
        refine rp_goto (tgt := 7) d_mod_plain_37 (by decide) ?_
        refine rp_lv [(0, .ref 19), (1, .int (nI s)), (2, .int (nI (i + 1)))] (by rw [← nI_1]; rfl) ?_
        refine ih (i + 1) h _ (by omega) (by omega) w (by rw [List.length_append]; omega) (fun h3 y => k h3 ?_)
        rw [List.append_assoc] at y; exact y
set_option maxHeartbeats 4000000 in
set_option maxRecDepth 100000 in
theorem s_mod_plain {h0 h : cf_H} {P : Option Value → cf_H → Prop} {s a b : Nat} (hs : r_sec h0 s a b) (hO : ∀ j, a ≤ j → j < b → h0.2.2.2 22 j = 1 → lOk (h0.2.2.2 23 j) (h0.2.2.2 24 j)) {L : List Int32} (w : vT h0 L h) {x : Int32} (hx : x = nI s) (hl : L.length + (fl (rTp (h0.2.2.2 22) (h0.2.2.2 23) (h0.2.2.2 24) (h0.2.2.2 21)) a (b - a)).length ≤ 600) (k : ∀ h', vT h0 (L ++ fl (rTp (h0.2.2.2 22) (h0.2.2.2 23) (h0.2.2.2 24) (h0.2.2.2 21)) a (b - a)) h' → P none h') : RP k_mod_plain 0 [(0, .ref 19), (1, .int x)] [] h P := by
  subst hx
  obtain ⟨s1, s2, s3, s4, s5⟩ := id hs
  have hs1 := w.sec hs
  refine rp_aload_n (i := 0) d_mod_plain_0 rfl rfl ?_
  refine rp_getR d_mod_plain_1 f_mod_25 rfl (w.ok _ _ _ rfl) ?_
  refine rp_iload_n (i := 1) d_mod_plain_4 rfl rfl ?_
  refine rp_iaload d_mod_plain_5 rfl (vp_in_nI (by omega) (by decide)) ?_
  rw [r_s0 hs1]
  refine rp_istore_n (i := 2) d_mod_plain_6 rfl rfl (Nat.le_of_ble_eq_true rfl) ?_
  refine rp_lv [(0, .ref 19), (1, .int (nI s)), (2, .int (nI a))] rfl ?_
  exact l_mod_plain hs hO (b - a) a h L (by omega) (Nat.le_refl _) w hl k
theorem wT.xB {h0 h : cf_H} {L : List Int32} (w : wT h0 L h) {XS : List r_K} (hB : x_B h0 XS) : x_B h XS := by
  refine ⟨w.ok, ⟨by rw [w.2.1.1 2 3 (by decide)]; exact hB.2.1.1, ?_⟩, hB.2.2⟩
  rw [w.2.1.2.2.2 3 (by decide), w.2.1.2.2.2 4 (by decide), w.2.1.2.2.2 5 (by decide)]; exact hB.2.1.2
set_option maxHeartbeats 4000000 in
set_option maxRecDepth 100000 in
theorem l_fmt_plain {h0 : cf_H} {P : Option Value → cf_H → Prop} {o : Nat} (ho9 : 9 ≤ o ∧ o ≤ 11) {XS : List r_K} (hB : x_B h0 XS) {a b : Nat} (hb1 : h0.1 o 1 = nI b) (hb : b ≤ 40) : ∀ (m i : Nat) (h : cf_H) (L : List Int32), i + m = b → wT h0 L h → L.length + (fl (cTp (x_ty XS) (x_va XS)) i m).length ≤ 256 → (k : ∀ h', wT h0 (L ++ fl (cTp (x_ty XS) (x_va XS)) i m) h' → P none h') → RP k_fmt_writePlain 18 [(0, .ref 0), (1, .ref o), (3, .int (nI i))] [] h P := by
  have ho := s_ho ho9
  intro m
  induction m with
  | zero =>
    intro i h L e w hl k
    have e : i = b := e
    refine rp_iload_n (i := 3) d_fmt_writePlain_18 rfl rfl ?_
    refine rp_aload_n (i := 1) d_fmt_writePlain_19 rfl rfl ?_
    refine rp_getI d_fmt_writePlain_20 f_fmt_186 ho ?_
    rw [(w.2.1.1 o 1 (by omega)).trans hb1]
    refine rp_icmp_ge (tgt := 60) d_fmt_writePlain_23 (by decide) (fun c23 => ?_) (fun c23 => ?_)
    · refine rp_return d_fmt_writePlain_60 rfl ?_
      refine k h ?_
      show wT h0 (L ++ []) h
      rw [List.append_nil]; exact w
    · exact absurd (by rw [e]; exact Int32.le_refl _) c23
  | succ m ih =>
    intro i h L e w hl k
    refine rp_iload_n (i := 3) d_fmt_writePlain_18 rfl rfl ?_
    refine rp_aload_n (i := 1) d_fmt_writePlain_19 rfl rfl ?_
    refine rp_getI d_fmt_writePlain_20 f_fmt_186 ho ?_
    rw [(w.2.1.1 o 1 (by omega)).trans hb1]
    refine rp_icmp_ge (tgt := 60) d_fmt_writePlain_23 (by decide) (fun c23 => ?_) (fun c23 => ?_)
    · exact absurd c23 (nI_ge (by omega) (by omega))
    · refine rp_aload_n (i := 0) d_fmt_writePlain_26 rfl rfl ?_
      refine rp_getR d_fmt_writePlain_27 f_fmt_20 rfl (w.ok _ _ _ rfl) ?_
      refine rp_iload_n (i := 3) d_fmt_writePlain_30 rfl rfl ?_
      refine rp_callV1 d_fmt_writePlain_31 q_fmt_writePlain_189 (Or.inl ⟨_, _, _, rfl, rfl⟩) (Nat.le_of_ble_eq_true rfl) (Nat.le_of_ble_eq_true rfl) ?_
      refine t_typeAt (w.xB hB) rfl (by omega) ?_
      refine rp_iconst (v := 1) d_fmt_writePlain_34 (by decide) ?_
      refine rp_icmp_ne (tgt := 54) d_fmt_writePlain_35 (by decide) (fun c35 => ?_) (fun c35 => ?_)
      · refine rp_iinc (i := 3) (y := 1) d_fmt_writePlain_54 rfl (by decide) rfl (Nat.le_of_ble_eq_true rfl) ?_
        refine rp_goto (tgt := 18) d_fmt_writePlain_57 (by decide) ?_
        have ec : (cTp (x_ty XS) (x_va XS)) i = [] := if_neg c35
        rw [fl_S, ec, List.nil_append] at hl k
        refine rp_lv [(0, .ref 0), (1, .ref o), (3, .int (nI (i + 1)))] (by rw [← nI_1]; rfl) ?_
        exact ih (i + 1) h L (by omega) w hl k
      · refine rp_aload_n (i := 0) d_fmt_writePlain_38 rfl rfl ?_
        refine rp_getR d_fmt_writePlain_39 f_fmt_57 rfl (w.ok _ _ _ rfl) ?_
        refine rp_aload_n (i := 0) d_fmt_writePlain_42 rfl rfl ?_
        refine rp_getR d_fmt_writePlain_43 f_fmt_20 rfl (w.ok _ _ _ rfl) ?_
        refine rp_iload_n (i := 3) d_fmt_writePlain_46 rfl rfl ?_
        refine rp_callV1 d_fmt_writePlain_47 q_fmt_writePlain_192 (Or.inl ⟨_, _, _, rfl, rfl⟩) (Nat.le_of_ble_eq_true rfl) (Nat.le_of_ble_eq_true rfl) ?_
        refine t_valueAt (w.xB hB) rfl (by omega) ?_
        refine rp_i2c d_fmt_writePlain_50 ?_
        refine rp_callV1 d_fmt_writePlain_51 q_fmt_writePlain_179 (Or.inl ⟨_, _, _, rfl, rfl⟩) (Nat.le_of_ble_eq_true rfl) (Nat.le_of_ble_eq_true rfl) ?_
        have ec : (cTp (x_ty XS) (x_va XS)) i = [x_va XS i] := if_pos c35
        rw [fl_S, ec, List.length_append] at hl
        simp only [fl_S, ec] at k
        refine s_txt_add w (by simp only [List.length_cons, List.length_nil] at hl; omega) rfl (fun h w => ?_)
        refine rp_iinc (i := 3) (y := 1) d_fmt_writePlain_54 rfl (by decide) rfl (Nat.le_of_ble_eq_true rfl) ?_
        refine rp_goto (tgt := 18) d_fmt_writePlain_57 (by decide) ?_
        refine rp_lv [(0, .ref 0), (1, .ref o), (3, .int (nI (i + 1)))] (by rw [← nI_1]; rfl) ?_
        refine ih (i + 1) h _ (by omega) w (by rw [List.length_append]; omega) (fun h3 y => k h3 ?_)
        rw [List.append_assoc] at y; exact y
set_option maxHeartbeats 4000000 in
set_option maxRecDepth 100000 in
theorem s_fmt_writePlain {h0 h : cf_H} {P : Option Value → cf_H → Prop} {o : Nat} (ho9 : 9 ≤ o ∧ o ≤ 11) {XS : List r_K} (hB : x_B h0 XS) {a b : Nat} (hb1 : h0.1 o 1 = nI b) (hb : b ≤ 40) (ha1 : h0.1 o 0 = nI a) (hab : a ≤ b) {L : List Int32} (w : wT h0 L h) {minus : Bool} {x : Int32} (hx : x = cf_b minus) (hl : L.length + 1 + (fl (cTp (x_ty XS) (x_va XS)) a (b - a)).length ≤ 256) (k : ∀ h', wT h0 (L ++ ((if minus = true then [45] else []) ++ fl (cTp (x_ty XS) (x_va XS)) a (b - a))) h' → P none h') : RP k_fmt_writePlain 0 [(0, .ref 0), (1, .ref o), (2, .int x)] [] h P := by
  subst hx
  have ho := s_ho ho9
  refine rp_iload_n (i := 2) d_fmt_writePlain_0 rfl rfl ?_
  refine rp_if_eq (tgt := 13) d_fmt_writePlain_1 (by decide) (fun c1 => ?_) (fun c1 => ?_)
  · refine rp_aload_n (i := 1) d_fmt_writePlain_13 rfl rfl ?_
    refine rp_getI d_fmt_writePlain_14 f_fmt_183 ho ?_
    rw [(w.2.1.1 o 0 (by omega)).trans ha1]
    refine rp_istore_n (i := 3) d_fmt_writePlain_17 rfl rfl (Nat.le_of_ble_eq_true rfl) ?_
    refine rp_lv [(0, .ref 0), (1, .ref o), (3, .int (nI a))] rfl ?_
    rw [if_neg (by rw [cf_b_f c1]; decide), List.nil_append] at k
    exact l_fmt_plain (a := a) ho9 hB hb1 hb (b - a) a h L (by omega) w (by omega) k
  · refine rp_aload_n (i := 0) d_fmt_writePlain_4 rfl rfl ?_
    refine rp_getR d_fmt_writePlain_5 f_fmt_57 rfl (w.ok _ _ _ rfl) ?_
    refine rp_bipush (v := 45) d_fmt_writePlain_8 (by decide) ?_
    refine rp_callV1 d_fmt_writePlain_10 q_fmt_writePlain_179 (Or.inl ⟨_, _, _, rfl, rfl⟩) (Nat.le_of_ble_eq_true rfl) (Nat.le_of_ble_eq_true rfl) ?_
    refine s_txt_add w (by omega) (x := 45) rfl (fun h w => ?_)
    refine rp_aload_n (i := 1) d_fmt_writePlain_13 rfl rfl ?_
    refine rp_getI d_fmt_writePlain_14 f_fmt_183 ho ?_
    rw [(w.2.1.1 o 0 (by omega)).trans ha1]
    refine rp_istore_n (i := 3) d_fmt_writePlain_17 rfl rfl (Nat.le_of_ble_eq_true rfl) ?_
    refine rp_lv [(0, .ref 0), (1, .ref o), (3, .int (nI a))] rfl ?_
    rw [if_pos (cf_b_t c1)] at k
    refine l_fmt_plain (a := a) ho9 hB hb1 hb (b - a) a h _ (by omega) w (by rw [List.length_append]; exact hl) (fun h3 y => k h3 ?_)
    rw [List.append_assoc] at y; exact y
