theorem r_fr.two {h h2 : cf_H} (f : r_fr (cf_pI h 19 2 0) h2) (v : Int32) : r_fr (cf_pI h 19 2 v) (cf_pI h2 19 2 v) := by
  refine ⟨fun o k e => ?_, f.2.1, f.2.2.1, f.2.2.2⟩
  have := f.1 o k e
  rw [g_I1] at this
  rw [g_I1, g_I1, this]
  split <;> rfl
set_option maxHeartbeats 4000000 in
set_option maxRecDepth 100000 in
theorem t_mod_cend {h : cf_H} {P : Option Value → cf_H → Prop} (hR : cf_ok h) {n : Nat} (hn : h.1 19 0 = nI n) (h40 : n ≤ 40) {h2 : cf_H} {TS : List r_K} {ST : List Nat} (e : r_sc (r_g h n) n n 0 [] [0] = (none, TS, ST)) (hT : TS.length ≤ n) (hS : ST.length ≤ n + 1) (hS1 : 1 ≤ ST.length) (hi : r_inv (cf_pI h 19 2 0) h2 TS ST) (hmono : (∀ x ∈ ST, x ≤ TS.length) ∧ ST.Pairwise (· ≤ ·)) (kok : ∀ h' TS BS, r_cp (r_g h n) n = (nI (BS.length - 1), some (TS, BS)) → 1 ≤ BS.length - 1 → BS.length - 1 ≤ 3 → TS.length ≤ 40 → BS.Pairwise (· ≤ ·) → (∀ x ∈ BS, x ≤ TS.length) → r_fr (cf_pI h 19 2 (nI (BS.length - 1))) h' → r_hold (h'.2.2.2 22) (h'.2.2.2 23) (h'.2.2.2 24) TS → r_holdS (h'.2.2.2 25) BS → (∀ j, j < n → h'.2.2.2 21 j = h.2.2.2 20 j) → P (some (.int (nI (BS.length - 1)))) h') (kbad : ∀ h', (r_cp (r_g h n) n).2 = none → r_fr (cf_pI h 19 2 0) h' → P (some (.int (r_cp (r_g h n) n).1)) h') : RP k_mod_compile 133 [(0, .ref 19), (1, .int (nI ST.length))] [] h2 P := by
  obtain ⟨hf, ht, hT2, hS2⟩ := hi
  have hR2 : cf_ok h2 := hf.ok hR
  have hi3 := r_inv_semi ⟨hf, ht, hT2, hS2⟩ (by omega)
  have hl : ∀ x ∈ ST ++ [TS.length], x ≤ TS.length := by
    intro x hx
    rcases List.mem_append.mp hx with z | z
    · exact hmono.1 x z
    · simp at z; omega
  have hp : (ST ++ [TS.length]).Pairwise (· ≤ ·) := by
    rw [List.pairwise_append]
    exact ⟨hmono.2, by simp, fun x hx y hy => by simp at hy; subst hy; exact hmono.1 x hx⟩
  have hlen : (ST ++ [TS.length]).length = ST.length + 1 := by simp
  refine rp_aload_n (i := 0) d_mod_compile_133 rfl rfl ?_
  refine rp_getR d_mod_compile_134 f_mod_25 rfl (hR2 _ _ _ rfl) ?_
  refine rp_iload_n (i := 1) d_mod_compile_137 rfl rfl ?_
  refine rp_aload_n (i := 0) d_mod_compile_138 rfl rfl ?_
  refine rp_getI d_mod_compile_139 f_mod_82 rfl ?_
  refine rp_iastore d_mod_compile_142 rfl (vp_in_nI (by omega) (by omega)) ?_
  refine rp_iload_n (i := 1) d_mod_compile_143 rfl rfl ?_
  refine rp_iconst (v := 3) d_mod_compile_144 (by decide) ?_
  refine rp_icmp_le (tgt := 152) d_mod_compile_145 (by decide) (fun c145 => ?_) (fun c145 => ?_)
  · refine rp_iconst (v := 0) d_mod_compile_152 (by decide) ?_
    refine rp_istore_n (i := 3) d_mod_compile_153 rfl rfl (Nat.le_of_ble_eq_true rfl) ?_
    replace c145 : ST.length ≤ 3 := (nI_leI (a := ST.length) (b := 3) (by omega) (by decide)).mp c145
    have hR3 : cf_ok (cf_pA h2 25 (nI ST.length) (h2.1 19 4)) := hR2
    generalize cf_pA h2 25 (nI ST.length) (h2.1 19 4) = h3 at hi3 hR3 ⊢
    refine rp_lv [(0, .ref 19), (1, .int (nI ST.length)), (3, .int (nI 0))] rfl ?_
    have hr : r_cp (r_g h n) n = match r_bad TS (ST ++ [TS.length]) 0 ST.length with | some s => (-201 - nI s, none) | none => (nI ST.length, some (TS, ST ++ [TS.length])) := by unfold r_cp; rw [e]; simp only; rw [if_neg (by omega)]; cases r_bad TS (ST ++ [TS.length]) 0 ST.length <;> rfl
    refine l_mod_cwell hR3 hlen c145 hi3.2.2.1 hi3.2.2.2 hp hl (by omega) ST.length 0 (by omega) ?_ ?_
    · intro eb
      rw [eb] at hr
      have hn3 : h3.1 19 0 = nI n := hi3.1.n.trans ((cf_pI_k (by decide)).trans hn)
      refine rp_iconst (v := 0) d_mod_compile_179 (by decide) ?_
      refine rp_istore_n (i := 3) d_mod_compile_180 rfl rfl (Nat.le_of_ble_eq_true rfl) ?_
      refine rp_lv [(0, .ref 19), (1, .int (nI ST.length)), (3, .int (nI 0))] rfl ?_
      refine l_mod_text hR3 hn3 h40 ?_ n 0 h3 (by omega) rfl rfl rfl (fun _ _ => rfl) (fun j hj => by omega)
      intro h4 f1 f2 f3 f4 f5
      have hf4 : r_fr (cf_pI h 19 2 0) h4 := ⟨fun o k e => by rw [f1]; exact hi3.1.1 o k e, f2.trans hi3.1.2.1, f3.trans hi3.1.2.2.1, fun o e => (f4 o (fun z => e (by simp [z]))).trans (hi3.1.2.2.2 o e)⟩
      have hv := hf4.two (nI ST.length)
      have e20 : h3.2.2.2 20 = h.2.2.2 20 := hi3.1.2.2.2 20 (by decide)
      have kk := kok (cf_pI h4 19 2 (nI ST.length)) TS (ST ++ [TS.length])
      rw [hlen, Nat.add_sub_cancel] at kk
      have kk := kk hr hS1 c145 (by omega) hp hl hv (by rw [show (cf_pI h4 19 2 (nI ST.length)).2 = h4.2 from rfl, f4 22 (by decide), f4 23 (by decide), f4 24 (by decide)]; exact hi3.2.2.1) (by rw [show (cf_pI h4 19 2 (nI ST.length)).2 = h4.2 from rfl, f4 25 (by decide)]; exact hi3.2.2.2) (fun j hj => by rw [show (cf_pI h4 19 2 (nI ST.length)).2 = h4.2 from rfl, f5 j hj, e20])
      refine rp_aload_n (i := 0) d_mod_compile_207 rfl rfl ?_
      refine rp_iload_n (i := 1) d_mod_compile_208 rfl rfl ?_
      refine rp_putI d_mod_compile_209 f_mod_79 rfl rfl rfl ?_
      refine rp_aload_n (i := 0) d_mod_compile_212 rfl rfl ?_
      refine rp_getI d_mod_compile_213 f_mod_79 rfl ?_
      refine rp_ireturn (ty := .int) d_mod_compile_216 rfl rfl ?_
      rw [cf_pI_s]
      exact kk
    · intro q eb
      rw [eb] at hr
      rw [hr] at kbad
      exact kbad h3 rfl hi3.1
  · refine rp_sipush (v := (-200)) d_mod_compile_148 (by decide) ?_
    refine rp_ireturn (ty := .int) d_mod_compile_151 rfl rfl ?_
    replace c145 : ¬ ST.length ≤ 3 := fun z => c145 ((nI_leI (a := ST.length) (b := 3) (by omega) (by decide)).mpr z)
    have e2 : r_cp (r_g h n) n = (-200, none) := by unfold r_cp; rw [e]; simp only; rw [if_pos (by omega)]
    rw [e2] at kbad
    exact kbad _ rfl hi3.1
set_option maxHeartbeats 4000000 in
set_option maxRecDepth 100000 in
theorem s_mod_compile {h : cf_H} {P : Option Value → cf_H → Prop} (hR : cf_ok h) {n : Nat} (hn : h.1 19 0 = nI n) (h40 : n ≤ 40) (kok : ∀ h' TS BS, r_cp (r_g h n) n = (nI (BS.length - 1), some (TS, BS)) → 1 ≤ BS.length - 1 → BS.length - 1 ≤ 3 → TS.length ≤ 40 → BS.Pairwise (· ≤ ·) → (∀ x ∈ BS, x ≤ TS.length) → r_fr (cf_pI h 19 2 (nI (BS.length - 1))) h' → r_hold (h'.2.2.2 22) (h'.2.2.2 23) (h'.2.2.2 24) TS → r_holdS (h'.2.2.2 25) BS → (∀ j, j < n → h'.2.2.2 21 j = h.2.2.2 20 j) → P (some (.int (nI (BS.length - 1)))) h') (kbad : ∀ h', (r_cp (r_g h n) n).2 = none → r_fr (cf_pI h 19 2 0) h' → P (some (.int (r_cp (r_g h n) n).1)) h') : RP k_mod_compile 0 [(0, .ref 19)] [] h P := by
  refine rp_aload_n (i := 0) d_mod_compile_0 rfl rfl ?_
  refine rp_iconst (v := 0) d_mod_compile_1 (by decide) ?_
  refine rp_putI d_mod_compile_2 f_mod_79 rfl rfl rfl ?_
  refine rp_aload_n (i := 0) d_mod_compile_5 rfl rfl ?_
  refine rp_iconst (v := 0) d_mod_compile_6 (by decide) ?_
  refine rp_putI d_mod_compile_7 f_mod_82 rfl rfl rfl ?_
  refine rp_iconst (v := 1) d_mod_compile_10 (by decide) ?_
  refine rp_istore_n (i := 1) d_mod_compile_11 rfl rfl (Nat.le_of_ble_eq_true rfl) ?_
  refine rp_aload_n (i := 0) d_mod_compile_12 rfl rfl ?_
  refine rp_getR d_mod_compile_13 f_mod_25 rfl (hR _ _ _ rfl) ?_
  refine rp_iconst (v := 0) d_mod_compile_16 (by decide) ?_
  refine rp_iconst (v := 0) d_mod_compile_17 (by decide) ?_
  refine rp_iastore d_mod_compile_18 rfl (vp_in_nI (n := 0) (by decide) (by decide)) ?_
  refine rp_iconst (v := 0) d_mod_compile_19 (by decide) ?_
  refine rp_istore_n (i := 2) d_mod_compile_20 rfl rfl (Nat.le_of_ble_eq_true rfl) ?_
  have hi : r_inv (cf_pI h 19 2 0) (cf_pA (cf_pI (cf_pI h 19 2 0) 19 4 0) 25 0 0) [] [0] := by
    refine ⟨?_, ?_, ?_, ?_⟩
    · refine ⟨fun o k e => ?_, rfl, rfl, fun o e => ?_⟩
      · rw [g_A1, g_I1, if_neg (fun z => e ⟨z.1, by rw [z.2]; simp⟩)]
      · rw [g_A4, if_neg (fun z => e (by rw [z]; simp))]; rfl
    · rw [g_A1, cf_pI_s]; rfl
    · intro j x e; simp at e
    · intro j x e
      cases j with
      | zero => cases e; rw [g_A4, if_pos rfl]; rfl
      | succ j => simp at e
  generalize cf_pA (cf_pI (cf_pI h 19 2 0) 19 4 0) 25 0 0 = h1 at hi ⊢
  have hR0 : cf_ok (cf_pI h 19 2 0) := hR
  have hn0 : (cf_pI h 19 2 0).1 19 0 = nI n := (cf_pI_k (by decide)).trans hn
  have hg0 : r_g (cf_pI h 19 2 0) n = r_g h n := rfl
  refine rp_lv [(0, .ref 19), (1, .int (nI ([0] : List Nat).length)), (2, .int (nI 0))] rfl ?_
  have hmono := r_sc_mono (r_g h n) n n 0 [] [0] (by simp) (by simp)
  refine l_mod_scan hR0 hn0 h40 n 0 h1 [] [0] (by omega) (by omega) (by simp) (by simp) (by simp) hi ?_ ?_
  · intro h2 TS ST e hT hS hS1 hi2
    rw [hg0] at e
    rw [e] at hmono
    exact t_mod_cend hR hn h40 e hT hS hS1 hi2 hmono kok kbad
  · intro h2 q e hf
    rw [hg0] at e
    have e2 : r_cp (r_g h n) n = (-100 - nI q, none) := by
      unfold r_cp
      revert e
      generalize r_sc (r_g h n) n n 0 [] [0] = r
      intro e
      obtain ⟨a, b, c⟩ := r
      cases e
      rfl
    rw [e2] at kbad
    exact kbad h2 rfl hf
