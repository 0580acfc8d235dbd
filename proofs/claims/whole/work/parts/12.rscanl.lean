/-! THE REFERENCE: compile's scan, as a loop -/
theorem r_fr.ok {h0 h : cf_H} (f : r_fr h0 h) (hR : cf_ok h0) : cf_ok h := fun o k q e => by rw [f.2.2.1]; exact hR o k q e
theorem r_fr.n {h0 h : cf_H} (f : r_fr h0 h) : h.1 19 0 = h0.1 19 0 := f.1 19 0 (by decide)
theorem r_fr.g {h0 h : cf_H} (f : r_fr h0 h) (n : Nat) : r_g h n = r_g h0 n := by unfold r_g; rw [f.2.2.2 20 (by decide)]
theorem r_fr.pI {h0 h : cf_H} (f : r_fr h0 h) {k : Nat} {x : Int32} (hk : k = 4 ∨ k = 10 ∨ k = 11 ∨ k = 12 ∨ k = 13) : r_fr h0 (cf_pI h 19 k x) := by
  refine ⟨fun o j e => ?_, f.2.1, f.2.2.1, f.2.2.2⟩
  rw [g_I1, if_neg (fun z => e ⟨z.1, by rw [z.2]; exact hk⟩)]
  exact f.1 o j e
theorem r_fr.pA {h0 h : cf_H} (f : r_fr h0 h) {o : Nat} {i x : Int32} (ho : o = 21 ∨ o = 22 ∨ o = 23 ∨ o = 24 ∨ o = 25) : r_fr h0 (cf_pA h o i x) := by
  refine ⟨f.1, f.2.1, f.2.2.1, fun a e => ?_⟩
  rw [g_A4, if_neg (fun z => e (by rw [z]; exact ho))]
  exact f.2.2.2 a e
theorem r_inv_semi {h0 h : cf_H} {TS : List r_K} {ST : List Nat} (hi : r_inv h0 h TS ST) (hl : ST.length < 2 ^ 31) : r_inv h0 (cf_pA h 25 (nI ST.length) (h.1 19 4)) TS (ST ++ [TS.length]) := by
  obtain ⟨hf, ht, hT, hS⟩ := hi
  refine ⟨hf.pA (by simp), ht, ?_, ?_⟩
  · rw [g_A4, g_A4, g_A4]; exact hT
  · rw [g_A4, if_pos rfl, ht]; exact r_holdS_add hS _ hl
theorem r_inv_tok {h0 h : cf_H} {TS : List r_K} {ST : List Nat} (hi : r_inv h0 h TS ST) (hl : TS.length < 2 ^ 31) (a b c d : Int32) : r_inv h0 (f_rt (r_meet (cf_pI h 19 11 0) a b c d)) (TS ++ [(a, b, c)]) ST := by
  obtain ⟨hf, ht, hT, hS⟩ := hi
  have e4 : (r_meet (cf_pI h 19 11 0) a b c d).1 19 4 = nI TS.length := by simp [r_meet, g_I1, ht]
  have e11 : (r_meet (cf_pI h 19 11 0) a b c d).1 19 11 = a := by simp [r_meet, g_I1]
  have e12 : (r_meet (cf_pI h 19 11 0) a b c d).1 19 12 = b := by simp [r_meet, g_I1]
  have e13 : (r_meet (cf_pI h 19 11 0) a b c d).1 19 13 = c := by simp [r_meet, g_I1]
  have eA : (r_meet (cf_pI h 19 11 0) a b c d).2.2.2 = h.2.2.2 := rfl
  have hfm : r_fr h0 (r_meet (cf_pI h 19 11 0) a b c d) := ((((hf.pI (by simp)).pI (by simp)).pI (by simp)).pI (by simp)).pI (by simp)
  generalize r_meet (cf_pI h 19 11 0) a b c d = h1 at e4 e11 e12 e13 eA hfm ⊢
  unfold f_rt
  refine ⟨(((hfm.pA (by simp)).pA (by simp)).pA (by simp)).pI (by simp), ?_, ?_, ?_⟩
  · rw [cf_pI_s, e4, List.length_append]; exact (nI_succ _).symm
  · have := r_hold_add hT (a, b, c) hl
    simp only [g_I2, g_A4, e4, e11, e12, e13, eA]
    simpa using this
  · simp only [g_I2, g_A4, eA]
    simpa using hS

set_option maxHeartbeats 4000000 in
set_option maxRecDepth 100000 in
theorem l_mod_scan {P : Option Value → cf_H → Prop} {h0 : cf_H} (hR0 : cf_ok h0) {n : Nat} (hn0 : h0.1 19 0 = nI n) (h40 : n ≤ 40) : ∀ (f p : Nat) (h : cf_H) (TS : List r_K) (ST : List Nat), n ≤ p + f → p ≤ n → TS.length ≤ p → ST.length ≤ p + 1 → 1 ≤ ST.length → r_inv h0 h TS ST → (kend : ∀ h' TS' ST', r_sc (r_g h0 n) n f p TS ST = (none, TS', ST') → TS'.length ≤ n → ST'.length ≤ n + 1 → 1 ≤ ST'.length → r_inv h0 h' TS' ST' → RP k_mod_compile 133 [(0, .ref 19), (1, .int (nI ST'.length))] [] h' P) → (kerr : ∀ h' q, (r_sc (r_g h0 n) n f p TS ST).1 = some q → r_fr h0 h' → P (some (.int (-100 - nI q))) h') → RP k_mod_compile 21 [(0, .ref 19), (1, .int (nI ST.length)), (2, .int (nI p))] [] h P := by
  intro f
  induction f with
  | zero =>
    intro p h TS ST hf hp hT hS hS1 hi kend kerr
    have hn : h.1 19 0 = nI n := hi.1.n.trans hn0
    refine rp_iload_n (i := 2) d_mod_compile_21 rfl rfl ?_
    refine rp_aload_n (i := 0) d_mod_compile_22 rfl rfl ?_
    refine rp_getI d_mod_compile_23 f_mod_36 rfl ?_
    refine rp_icmp_ge (tgt := 133) d_mod_compile_26 (by decide) (fun c26 => ?_) (fun c26 => ?_)
    · refine rp_lv [(0, .ref 19), (1, .int (nI ST.length))] rfl ?_
      exact kend h TS ST rfl (by omega) (by omega) hS1 hi
    · exact absurd (by rw [hn]; exact nI_le (by omega) (by omega)) c26
  | succ f ih =>
    intro p h TS ST hf hp hT hS hS1 hi kend kerr
    have hR := hi.1.ok hR0
    have hn : h.1 19 0 = nI n := hi.1.n.trans hn0
    have hg := hi.1.g n
    rcases Nat.lt_or_ge p n with hlt | hge
    · have hgp : h.2.2.2 20 (nI p).toNatClampNeg = r_g h0 n p := by rw [nI_clamp (by omega), ← hg, r_g, r_at, if_pos hlt]
      by_cases e59 : r_g h0 n p = 59
      · have es : r_sc (r_g h0 n) n (f + 1) p TS ST = r_sc (r_g h0 n) n f (p + 1) TS (ST ++ [TS.length]) := by rw [r_sc, if_neg (by omega), if_pos e59]
        rw [es] at kend kerr
        refine rp_iload_n (i := 2) d_mod_compile_21 rfl rfl ?_
        refine rp_aload_n (i := 0) d_mod_compile_22 rfl rfl ?_
        refine rp_getI d_mod_compile_23 f_mod_36 rfl ?_
        refine rp_icmp_ge (tgt := 133) d_mod_compile_26 (by decide) (fun c26 => ?_) (fun c26 => ?_)
        · exact absurd c26 (by rw [hn]; exact nI_ge hlt (by omega))
        · refine rp_aload_n (i := 0) d_mod_compile_29 rfl rfl ?_
          refine rp_getR d_mod_compile_30 f_mod_7 rfl (hR _ _ _ rfl) ?_
          refine rp_iload_n (i := 2) d_mod_compile_33 rfl rfl ?_
          refine rp_iaload d_mod_compile_34 rfl (vp_in_nI (by omega) (by omega)) ?_
          refine rp_bipush (v := 59) d_mod_compile_35 (by decide) ?_
          refine rp_icmp_ne (tgt := 59) d_mod_compile_37 (by decide) (fun c37 => ?_) (fun c37 => ?_)
          · exact absurd (hgp.trans e59) c37
          · refine rp_aload_n (i := 0) d_mod_compile_40 rfl rfl ?_
            refine rp_getR d_mod_compile_41 f_mod_25 rfl (hR _ _ _ rfl) ?_
            refine rp_iload_n (i := 1) d_mod_compile_44 rfl rfl ?_
            refine rp_aload_n (i := 0) d_mod_compile_45 rfl rfl ?_
            refine rp_getI d_mod_compile_46 f_mod_82 rfl ?_
            refine rp_iastore d_mod_compile_49 rfl (vp_in_nI (by omega) (by omega)) ?_
            refine rp_iinc (i := 1) (y := 1) d_mod_compile_50 rfl (by decide) rfl (Nat.le_of_ble_eq_true rfl) ?_
            refine rp_iinc (i := 2) (y := 1) d_mod_compile_53 rfl (by decide) rfl (Nat.le_of_ble_eq_true rfl) ?_
            refine rp_goto (tgt := 21) d_mod_compile_56 (by decide) ?_
            refine rp_lv [(0, .ref 19), (1, .int (nI (ST ++ [TS.length]).length)), (2, .int (nI (p + 1)))] (by rw [List.length_append]; simp only [List.length_cons, List.length_nil, Nat.zero_add, nI_succ]; rfl) ?_
            exact ih (p + 1) _ TS (ST ++ [TS.length]) (by omega) (by omega) (by omega) (by simp; omega) (by simp) (r_inv_semi hi (by omega)) kend kerr
      · by_cases e0 : (r_tok (r_g h0 n) n p).1 = 0
        · have es : r_sc (r_g h0 n) n (f + 1) p TS ST = (some p, TS, ST) := by rw [r_sc, if_neg (by omega), if_neg e59, if_pos e0]
          rw [es] at kend kerr
          refine rp_iload_n (i := 2) d_mod_compile_21 rfl rfl ?_
          refine rp_aload_n (i := 0) d_mod_compile_22 rfl rfl ?_
          refine rp_getI d_mod_compile_23 f_mod_36 rfl ?_
          refine rp_icmp_ge (tgt := 133) d_mod_compile_26 (by decide) (fun c26 => ?_) (fun c26 => ?_)
          · exact absurd c26 (by rw [hn]; exact nI_ge hlt (by omega))
          · refine rp_aload_n (i := 0) d_mod_compile_29 rfl rfl ?_
            refine rp_getR d_mod_compile_30 f_mod_7 rfl (hR _ _ _ rfl) ?_
            refine rp_iload_n (i := 2) d_mod_compile_33 rfl rfl ?_
            refine rp_iaload d_mod_compile_34 rfl (vp_in_nI (by omega) (by omega)) ?_
            refine rp_bipush (v := 59) d_mod_compile_35 (by decide) ?_
            refine rp_icmp_ne (tgt := 59) d_mod_compile_37 (by decide) (fun c37 => ?_) (fun c37 => ?_)
            · refine rp_aload_n (i := 0) d_mod_compile_59 rfl rfl ?_
              refine rp_iload_n (i := 2) d_mod_compile_60 rfl rfl ?_
              refine rp_callV1 d_mod_compile_61 q_mod_compile_85 (Or.inl ⟨_, _, _, rfl, rfl⟩) (Nat.le_of_ble_eq_true rfl) (Nat.le_of_ble_eq_true rfl) ?_
              refine s_mod_token hR hn h40 rfl (by omega) ?_
              have hz : r_put (cf_pI h 19 11 0) (r_tok (r_g h n) n p) = cf_pI h 19 11 0 := by rw [hg]; unfold r_put; rw [if_pos e0]
              rw [hz]
              have hm : (cf_pI h 19 11 0).1 19 11 = 0 := cf_pI_s
              have hf1 : r_fr h0 (cf_pI h 19 11 0) := hi.1.pI (by simp)
              generalize cf_pI h 19 11 0 = h1 at hm hf1 ⊢
              refine rp_aload_n (i := 0) d_mod_compile_64 rfl rfl ?_
              refine rp_getI d_mod_compile_65 f_mod_39 rfl ?_
              refine rp_if_ne (tgt := 76) d_mod_compile_68 (by decide) (fun c68 => ?_) (fun c68 => ?_)
              · exact absurd hm c68
              · refine rp_bipush (v := (-100)) d_mod_compile_71 (by decide) ?_
                refine rp_iload_n (i := 2) d_mod_compile_73 rfl rfl ?_
                refine rp_isub d_mod_compile_74 ?_
                refine rp_ireturn (ty := .int) d_mod_compile_75 rfl rfl ?_
                exact kerr h1 p rfl hf1
            · exact absurd (hgp.symm.trans c37) e59
        · have es : r_sc (r_g h0 n) n (f + 1) p TS ST = r_sc (r_g h0 n) n f (r_tok (r_g h0 n) n p).2.2.2 (TS ++ [((r_tok (r_g h0 n) n p).1, (r_tok (r_g h0 n) n p).2.1, (r_tok (r_g h0 n) n p).2.2.1)]) ST := by rw [r_sc, if_neg (by omega), if_neg e59, if_neg e0]
          rw [es] at kend kerr
          have hend := r_tok_end (c := h0.2.2.2 20) hlt e0
          refine rp_iload_n (i := 2) d_mod_compile_21 rfl rfl ?_
          refine rp_aload_n (i := 0) d_mod_compile_22 rfl rfl ?_
          refine rp_getI d_mod_compile_23 f_mod_36 rfl ?_
          refine rp_icmp_ge (tgt := 133) d_mod_compile_26 (by decide) (fun c26 => ?_) (fun c26 => ?_)
          · exact absurd c26 (by rw [hn]; exact nI_ge hlt (by omega))
          · refine rp_aload_n (i := 0) d_mod_compile_29 rfl rfl ?_
            refine rp_getR d_mod_compile_30 f_mod_7 rfl (hR _ _ _ rfl) ?_
            refine rp_iload_n (i := 2) d_mod_compile_33 rfl rfl ?_
            refine rp_iaload d_mod_compile_34 rfl (vp_in_nI (by omega) (by omega)) ?_
            refine rp_bipush (v := 59) d_mod_compile_35 (by decide) ?_
            refine rp_icmp_ne (tgt := 59) d_mod_compile_37 (by decide) (fun c37 => ?_) (fun c37 => ?_)
            · refine rp_aload_n (i := 0) d_mod_compile_59 rfl rfl ?_
              refine rp_iload_n (i := 2) d_mod_compile_60 rfl rfl ?_
              refine rp_callV1 d_mod_compile_61 q_mod_compile_85 (Or.inl ⟨_, _, _, rfl, rfl⟩) (Nat.le_of_ble_eq_true rfl) (Nat.le_of_ble_eq_true rfl) ?_
              refine s_mod_token hR hn h40 rfl (by omega) ?_
              rw [hg]
              generalize r_tok (r_g h0 n) n p = T at e0 kend kerr hend es ⊢
              obtain ⟨a, b, c, d⟩ := T
              have e0 : ¬ a = 0 := e0
              have hend : p < d ∧ d ≤ n := hend
              rw [r_put_1 _ e0]
              have hi2 := r_inv_tok hi (by omega) a b c (nI d)
              have em : (r_meet (cf_pI h 19 11 0) a b c (nI d)).1 19 11 = a := by simp [r_meet, g_I1]
              have et : (r_meet (cf_pI h 19 11 0) a b c (nI d)).1 19 4 = nI TS.length := by simp [r_meet, g_I1, hi.2.1]
              have ed : (r_meet (cf_pI h 19 11 0) a b c (nI d)).1 19 10 = nI d := by simp [r_meet, g_I1]
              have hR1 : cf_ok (r_meet (cf_pI h 19 11 0) a b c (nI d)) := hR
              generalize r_meet (cf_pI h 19 11 0) a b c (nI d) = h1 at hi2 em et ed hR1 ⊢
              refine rp_aload_n (i := 0) d_mod_compile_64 rfl rfl ?_
              refine rp_getI d_mod_compile_65 f_mod_39 rfl ?_
              refine rp_if_ne (tgt := 76) d_mod_compile_68 (by decide) (fun c68 => ?_) (fun c68 => ?_)
              · refine rp_lv [(0, .ref 19), (1, .int (nI ST.length)), (2, .int (nI p))] rfl ?_
                refine t_cmp76 hR1 et (by omega) ?_
                rw [ed]
                exact ih d _ _ ST (by omega) (by omega) (by simp; omega) (by omega) hS1 hi2 kend kerr
              · exact absurd (em.symm.trans c68) e0
            · exact absurd (hgp.symm.trans c37) e59
    · have es : r_sc (r_g h0 n) n (f + 1) p TS ST = (none, TS, ST) := by rw [r_sc, if_pos hge]
      refine rp_iload_n (i := 2) d_mod_compile_21 rfl rfl ?_
      refine rp_aload_n (i := 0) d_mod_compile_22 rfl rfl ?_
      refine rp_getI d_mod_compile_23 f_mod_36 rfl ?_
      refine rp_icmp_ge (tgt := 133) d_mod_compile_26 (by decide) (fun c26 => ?_) (fun c26 => ?_)
      · refine rp_lv [(0, .ref 19), (1, .int (nI ST.length))] rfl ?_
        exact kend h TS ST es (by omega) (by omega) hS1 hi
      · exact absurd (by rw [hn]; exact nI_le hge (by omega)) c26
