/-! WHAT HOLDS BETWEEN CALLS; each call on both sides -/
def JC (h : cf_H) (n : Nat) : Prop := n ≤ 40 ∧ h.1 0 1 = nI n ∧ h.1 19 0 = nI n ∧ (∀ j, j < n → h.2.2.2 1 j = h.2.2.2 20 j) ∧ c_V (h.2.2.2 1) n
def JK (h : cf_H) (c : Bool) : Prop := h.1 12 0 = cf_b c ∧ h.1 19 9 = cf_b c
def JS (h : cf_H) (m : Nat) (XS : List r_K) (n2 : Nat) : Prop := m ≤ 3 ∧ h.1 0 5 = nI m ∧ h.1 19 2 = nI m ∧ (∀ t, t < m → ∃ A B off XS0, sV h t A B off XS XS0 n2) ∧ (¬ m = 0 → x_B h XS) ∧ (¬ m = 0 → h.1 0 6 = cf_b (x_any (cdF (h.2.2.2 22) (h.2.2.2 25)) 0 m))
def JT (h : cf_H) (L : List Int32) : Prop := L.length ≤ 256 ∧ h.1 13 1 = nI L.length ∧ tx (h.2.2.2 14) L ∧ h.1 19 15 = nI L.length ∧ tx (h.2.2.2 26) L
def JB (h : cf_H) (sb : Int32) : Prop := h.1 0 9 = (if sb < 0 then -3 else sb) ∧ h.1 19 14 = sb
def J (h : cf_H) : Prop := cf_ok h ∧ ∃ n c m XS n2 L sb, JC h n ∧ JK h c ∧ JS h m XS n2 ∧ JT h L ∧ JB h sb
theorem JC.fr {h h' : cf_H} {n : Nat} (j : JC h n) (e1 : h'.1 0 1 = h.1 0 1) (e2 : h'.1 19 0 = h.1 19 0) (e3 : h'.2.2.2 1 = h.2.2.2 1) (e4 : h'.2.2.2 20 = h.2.2.2 20) : JC h' n := by
  unfold JC at *; rw [e1, e2, e3, e4]; exact j
theorem JK.fr {h h' : cf_H} {c : Bool} (j : JK h c) (e1 : h'.1 12 0 = h.1 12 0) (e2 : h'.1 19 9 = h.1 19 9) : JK h' c := by
  unfold JK at *; rw [e1, e2]; exact j
theorem JT.fr {h h' : cf_H} {L : List Int32} (j : JT h L) (e1 : h'.1 13 1 = h.1 13 1) (e2 : h'.1 19 15 = h.1 19 15) (e3 : h'.2.2.2 14 = h.2.2.2 14) (e4 : h'.2.2.2 26 = h.2.2.2 26) : JT h' L := by
  unfold JT at *; rw [e1, e2, e3, e4]; exact j
theorem JB.fr {h h' : cf_H} {sb : Int32} (j : JB h sb) (e1 : h'.1 0 9 = h.1 0 9) (e2 : h'.1 19 14 = h.1 19 14) : JB h' sb := by
  unfold JB at *; rw [e1, e2]; exact j
theorem JS.fr {h h' : cf_H} {m : Nat} {XS : List r_K} {n2 : Nat} (j : JS h m XS n2) (hR : cf_ok h') (e1 : h'.1 0 5 = h.1 0 5) (e2 : h'.1 19 2 = h.1 19 2) (e3 : h'.1 0 6 = h.1 0 6) (e4 : h'.1 2 3 = h.1 2 3) (e5 : ∀ o k, 9 ≤ o → o ≤ 11 → h'.1 o k = h.1 o k) (e6 : ∀ o k, 9 ≤ o → o ≤ 11 → h'.2.1 o k = h.2.1 o k) (e7 : ∀ o, 21 ≤ o → o ≤ 25 → h'.2.2.2 o = h.2.2.2 o) (e8 : ∀ o, 3 ≤ o → o ≤ 5 → h'.2.2.2 o = h.2.2.2 o) : JS h' m XS n2 := by
  obtain ⟨j1, j2, j3, j4, j5, j6⟩ := j
  refine ⟨j1, e1.trans j2, e2.trans j3, fun t ht => ?_, fun q => (j5 q).fr hR e4 e8, fun q => ?_⟩
  · obtain ⟨A, B, off, XS0, V⟩ := j4 t ht
    exact ⟨A, B, off, XS0, V.fr (fun k => e5 _ k (by omega) (by omega)) (fun k => e6 _ k (by omega) (by omega)) e7⟩
  · rw [e3, e7 22 (by decide) (by decide), e7 25 (by decide) (by decide)]; exact j6 q
/-- the class's call answers an integer, and then the reference's the same -/
def PI2 (Mc Mr : cf_M) (ac ar : List (Nat × Value)) (h : cf_H) : Prop := RP Mc 0 ac [] h (fun r h1 => ∃ z, r = some (.int z) ∧ RP Mr 0 ar [] h1 (fun r' h2 => r' = some (.int z) ∧ J h2))
def PV2 (Mc Mr : cf_M) (ac ar : List (Nat × Value)) (h : cf_H) : Prop := RP Mc 0 ac [] h (fun r h1 => r = none ∧ RP Mr 0 ar [] h1 (fun r' h2 => r' = none ∧ J h2))
theorem nar_q : ∀ q, q < 127 → vp_nar .char (nI q) = nI q := by decide +kernel

set_option maxHeartbeats 4000000 in
set_option maxRecDepth 100000 in
theorem s_fmt_feed {h : cf_H} {P : Option Value → cf_H → Prop} (hR : cf_ok h) {n : Nat} (hn : h.1 0 1 = nI n) (h40 : n ≤ 40) {x : Int32} (k0 : (x < 32 ∨ 126 < x ∨ n = 40) → P (some (.int 0)) h) (k1 : ∀ q, x = nI q → 32 ≤ q → q ≤ 126 → n < 40 → P (some (.int 1)) (cf_pI (cf_pA h 1 (nI n) x) 0 1 (nI (n + 1)))) : RP k_fmt_feed 0 [(0, .ref 0), (1, .int x)] [] h P := by
  refine rp_iload_n (i := 1) d_fmt_feed_0 rfl rfl ?_
  refine rp_bipush (v := 32) d_fmt_feed_1 (by decide) ?_
  refine rp_icmp_lt (tgt := 21) d_fmt_feed_3 (by decide) (fun c3 => ?_) (fun c3 => ?_)
  · refine rp_iconst (v := 0) d_fmt_feed_21 (by decide) ?_
    refine rp_ireturn (ty := .boolean) d_fmt_feed_22 rfl (by first | rfl | decide | assumption) ?_
    exact k0 (Or.inl c3)
  · refine rp_iload_n (i := 1) d_fmt_feed_6 rfl rfl ?_
    refine rp_bipush (v := 126) d_fmt_feed_7 (by decide) ?_
    refine rp_icmp_gt (tgt := 21) d_fmt_feed_9 (by decide) (fun c9 => ?_) (fun c9 => ?_)
    · refine rp_iconst (v := 0) d_fmt_feed_21 (by decide) ?_
      refine rp_ireturn (ty := .boolean) d_fmt_feed_22 rfl (by first | rfl | decide | assumption) ?_
      exact k0 (Or.inr (Or.inl c9))
    · refine rp_aload_n (i := 0) d_fmt_feed_12 rfl rfl ?_
      refine rp_getI d_fmt_feed_13 f_fmt_13 rfl ?_
      rw [hn]
      refine rp_bipush (v := 40) d_fmt_feed_16 (by decide) ?_
      refine rp_icmp_lt (tgt := 23) d_fmt_feed_18 (by decide) (fun c18 => ?_) (fun c18 => ?_)
      · have c18 : n < 40 := (show nI n < (40 : Int32) ↔ n < 40 from nI_ltI (b := 40) (by omega) (by decide)).mp c18
        have x0 : ¬ x < 0 := fun z => c3 (Int32.lt_trans z (by decide))
        obtain ⟨q, hq, rfl⟩ := nI_of x0
        have q1 : 32 ≤ q := Nat.not_lt.mp (fun z => c3 (nI_lt z (by decide)))
        have q2 : q ≤ 126 := Nat.not_lt.mp (fun z => c9 (nI_lt z (by omega)))
        refine rp_aload_n (i := 0) d_fmt_feed_23 rfl rfl ?_
        refine rp_getR d_fmt_feed_24 f_fmt_9 rfl (hR _ _ _ rfl) ?_
        refine rp_aload_n (i := 0) d_fmt_feed_27 rfl rfl ?_
        refine rp_getI d_fmt_feed_28 f_fmt_13 rfl ?_
        rw [hn]
        refine rp_iload_n (i := 1) d_fmt_feed_31 rfl rfl ?_
        refine rp_castore d_fmt_feed_32 rfl (vp_in_nI (by omega) (by decide)) ?_
        rw [nar_q q (by omega)]
        refine rp_aload_n (i := 0) d_fmt_feed_33 rfl rfl ?_
        refine rp_dup d_fmt_feed_34 rfl ?_
        refine rp_getI d_fmt_feed_35 f_fmt_13 rfl ?_
        rw [g_A1, hn]
        refine rp_iconst (v := 1) d_fmt_feed_38 (by decide) ?_
        refine rp_iadd d_fmt_feed_39 ?_
        rw [nI_1]
        refine rp_putI d_fmt_feed_40 f_fmt_13 rfl rfl rfl ?_
        refine rp_iconst (v := 1) d_fmt_feed_43 (by decide) ?_
        refine rp_ireturn (ty := .boolean) d_fmt_feed_44 rfl (by first | rfl | decide | assumption) ?_
        exact k1 q rfl q1 q2 c18
      · refine rp_iconst (v := 0) d_fmt_feed_21 (by decide) ?_
        refine rp_ireturn (ty := .boolean) d_fmt_feed_22 rfl (by first | rfl | decide | assumption) ?_
        refine k0 (Or.inr (Or.inr ?_))
        have : ¬ n < 40 := fun z => c18 ((show nI n < (40 : Int32) ↔ n < 40 from nI_ltI (b := 40) (by omega) (by decide)).mpr z)
        omega
set_option maxHeartbeats 4000000 in
set_option maxRecDepth 100000 in
theorem s_mod_feed {h : cf_H} {P : Option Value → cf_H → Prop} (hR : cf_ok h) {n : Nat} (hn : h.1 19 0 = nI n) (h40 : n ≤ 40) {x : Int32} (k0 : (x < 32 ∨ 126 < x ∨ n = 40) → P (some (.int 0)) h) (k1 : ∀ q, x = nI q → 32 ≤ q → q ≤ 126 → n < 40 → P (some (.int 1)) (cf_pI (cf_pA h 20 (nI n) x) 19 0 (nI (n + 1)))) : RP k_mod_feed 0 [(0, .ref 19), (1, .int x)] [] h P := by
  refine rp_iload_n (i := 1) d_mod_feed_0 rfl rfl ?_
  refine rp_bipush (v := 32) d_mod_feed_1 (by decide) ?_
  refine rp_icmp_lt (tgt := 21) d_mod_feed_3 (by decide) (fun c3 => ?_) (fun c3 => ?_)
  · refine rp_iconst (v := 0) d_mod_feed_21 (by decide) ?_
    refine rp_ireturn (ty := .boolean) d_mod_feed_22 rfl (by first | rfl | decide | assumption) ?_
    exact k0 (Or.inl c3)
  · refine rp_iload_n (i := 1) d_mod_feed_6 rfl rfl ?_
    refine rp_bipush (v := 126) d_mod_feed_7 (by decide) ?_
    refine rp_icmp_gt (tgt := 21) d_mod_feed_9 (by decide) (fun c9 => ?_) (fun c9 => ?_)
    · refine rp_iconst (v := 0) d_mod_feed_21 (by decide) ?_
      refine rp_ireturn (ty := .boolean) d_mod_feed_22 rfl (by first | rfl | decide | assumption) ?_
      exact k0 (Or.inr (Or.inl c9))
    · refine rp_aload_n (i := 0) d_mod_feed_12 rfl rfl ?_
      refine rp_getI d_mod_feed_13 f_mod_36 rfl ?_
      rw [hn]
      refine rp_bipush (v := 40) d_mod_feed_16 (by decide) ?_
      refine rp_icmp_ne (tgt := 23) d_mod_feed_18 (by decide) (fun c18 => ?_) (fun c18 => ?_)
      · have c18 : n < 40 := by have : ¬ n = 40 := fun z => c18 (by rw [z]; rfl); omega
        have x0 : ¬ x < 0 := fun z => c3 (Int32.lt_trans z (by decide))
        obtain ⟨q, hq, rfl⟩ := nI_of x0
        have q1 : 32 ≤ q := Nat.not_lt.mp (fun z => c3 (nI_lt z (by decide)))
        have q2 : q ≤ 126 := Nat.not_lt.mp (fun z => c9 (nI_lt z (by omega)))
        refine rp_aload_n (i := 0) d_mod_feed_23 rfl rfl ?_
        refine rp_getR d_mod_feed_24 f_mod_7 rfl (hR _ _ _ rfl) ?_
        refine rp_aload_n (i := 0) d_mod_feed_27 rfl rfl ?_
        refine rp_getI d_mod_feed_28 f_mod_36 rfl ?_
        rw [hn]
        refine rp_iload_n (i := 1) d_mod_feed_31 rfl rfl ?_
        refine rp_iastore d_mod_feed_32 rfl (vp_in_nI (by omega) (by decide)) ?_
        refine rp_aload_n (i := 0) d_mod_feed_33 rfl rfl ?_
        refine rp_dup d_mod_feed_34 rfl ?_
        refine rp_getI d_mod_feed_35 f_mod_36 rfl ?_
        rw [g_A1, hn]
        refine rp_iconst (v := 1) d_mod_feed_38 (by decide) ?_
        refine rp_iadd d_mod_feed_39 ?_
        rw [nI_1]
        refine rp_putI d_mod_feed_40 f_mod_36 rfl rfl rfl ?_
        refine rp_iconst (v := 1) d_mod_feed_43 (by decide) ?_
        refine rp_ireturn (ty := .boolean) d_mod_feed_44 rfl (by first | rfl | decide | assumption) ?_
        exact k1 q rfl q1 q2 c18
      · refine rp_iconst (v := 0) d_mod_feed_21 (by decide) ?_
        refine rp_ireturn (ty := .boolean) d_mod_feed_22 rfl (by first | rfl | decide | assumption) ?_
        exact k0 (Or.inr (Or.inr ((nI_eq (b := 40) (by omega) (by decide)).mp c18)))
theorem J_feed {h : cf_H} (j : J h) (x : Int32) : PI2 k_fmt_feed k_mod_feed [(0, .ref 0), (1, .int x)] [(0, .ref 19), (1, .int x)] h := by
  obtain ⟨hR, n, c, m, XS, n2, L, sb, a1, a2, a3, a4, a5⟩ := id j
  obtain ⟨b1, b2, b3, b4, b5⟩ := id a1
  refine s_fmt_feed hR b2 b1 (fun q => ⟨0, rfl, ?_⟩) (fun q q1 q2 q3 q4 => ⟨1, rfl, ?_⟩)
  · refine s_mod_feed hR b3 b1 (fun _ => ⟨rfl, j⟩) (fun q' e1 e2 e3 e4 => ?_)
    exfalso
    rcases q with z | z | z
    · rw [e1] at z; exact absurd ((nI_ltI (b := 32) (by omega) (by decide)).mp z) (by omega)
    · rw [e1] at z; exact absurd ((nI_ltI (a := 126) (by decide) (by omega)).mp z) (by omega)
    · omega
  · refine s_mod_feed (h := cf_pI (cf_pA h 1 (nI n) x) 0 1 (nI (n + 1))) hR (by rw [cf_pI_o (by decide), g_A1]; exact b3) b1 (fun z => ?_) (fun _ _ _ _ _ => ⟨rfl, ?_⟩)
    · exfalso
      rcases z with z | z | z
      · rw [q1] at z; exact absurd ((nI_ltI (b := 32) (by omega) (by decide)).mp z) (by omega)
      · rw [q1] at z; exact absurd ((nI_ltI (a := 126) (by decide) (by omega)).mp z) (by omega)
      · omega
    · refine ⟨hR, n + 1, c, m, XS, n2, L, sb, ⟨by omega, ?_, cf_pI_s, ?_, ?_⟩, a2.fr ?_ ?_, a3.fr hR ?_ ?_ ?_ ?_ ?_ (fun _ _ _ _ => rfl) ?_ ?_, a4.fr ?_ ?_ ?_ ?_, a5.fr ?_ ?_⟩
      · rw [cf_pI_o (by decide), g_A1]; exact cf_pI_s
      · intro i hi
        show (cf_pA (cf_pI (cf_pA h 1 (nI n) x) 0 1 (nI (n + 1))) 20 (nI n) x).2.2.2 1 i = (cf_pA (cf_pI (cf_pA h 1 (nI n) x) 0 1 (nI (n + 1))) 20 (nI n) x).2.2.2 20 i
        rw [g_A4, if_neg (by decide), g_A4, if_pos rfl, g_I2, g_A4, if_pos rfl, g_A4, if_neg (by decide), nI_clamp (by omega)]
        by_cases e : i = n
        · subst e; rw [pk_us, pk_us]
        · rw [pk_un e, pk_un e]; exact b4 i (by omega)
      · intro i hi
        show 32 ≤ (cf_pA (cf_pI (cf_pA h 1 (nI n) x) 0 1 (nI (n + 1))) 20 (nI n) x).2.2.2 1 i ∧ (cf_pA (cf_pI (cf_pA h 1 (nI n) x) 0 1 (nI (n + 1))) 20 (nI n) x).2.2.2 1 i ≤ 126
        rw [g_A4, if_neg (by decide), g_I2, g_A4, if_pos rfl, nI_clamp (by omega)]
        by_cases e : i = n
        · subst e; rw [pk_us, q1]
          exact ⟨nI_le (a := 32) q2 (by omega), nI_le (b := 126) q3 (by decide)⟩
        · rw [pk_un e]; exact b5 i (by omega)
      all_goals first
        | (rw [cf_pI_o (by decide), g_A1, cf_pI_o (by decide), g_A1])
        | (rw [cf_pI_k (by decide), g_A1, cf_pI_o (by decide), g_A1])
        | (rw [cf_pI_o (by decide), g_A1, cf_pI_k (by decide), g_A1])
        | (intro o k o1 o2; rw [cf_pI_o (by omega), g_A1, cf_pI_o (by omega), g_A1])
        | (intro o o1 o2; show (cf_pA (cf_pI (cf_pA h 1 (nI n) x) 0 1 (nI (n + 1))) 20 (nI n) x).2.2.2 o = _; rw [g_A4, if_neg (by omega), g_I2, g_A4, if_neg (by omega)])
        | (show (cf_pA (cf_pI (cf_pA h 1 (nI n) x) 0 1 (nI (n + 1))) 20 (nI n) x).2.2.2 _ = _; rw [g_A4, if_neg (by decide), g_I2, g_A4, if_neg (by decide)])

set_option maxHeartbeats 4000000 in
set_option maxRecDepth 100000 in
theorem s_fmt_erase {h : cf_H} {P : Option Value → cf_H → Prop} (k : P none (cf_pI h 0 1 0)) : RP k_fmt_erase 0 [(0, .ref 0)] [] h P := by
  refine rp_aload_n (i := 0) d_fmt_erase_0 rfl rfl ?_
  refine rp_iconst (v := 0) d_fmt_erase_1 (by decide) ?_
  refine rp_putI d_fmt_erase_2 f_fmt_13 rfl rfl rfl ?_
  refine rp_return d_fmt_erase_5 rfl ?_
  exact k
set_option maxHeartbeats 4000000 in
set_option maxRecDepth 100000 in
theorem s_mod_erase {h : cf_H} {P : Option Value → cf_H → Prop} (k : P none (cf_pI h 19 0 0)) : RP k_mod_erase 0 [(0, .ref 19)] [] h P := by
  refine rp_aload_n (i := 0) d_mod_erase_0 rfl rfl ?_
  refine rp_iconst (v := 0) d_mod_erase_1 (by decide) ?_
  refine rp_putI d_mod_erase_2 f_mod_36 rfl rfl rfl ?_
  refine rp_return d_mod_erase_5 rfl ?_
  exact k
theorem J_erase {h : cf_H} (j : J h) : PV2 k_fmt_erase k_mod_erase [(0, .ref 0)] [(0, .ref 19)] h := by
  obtain ⟨hR, n, c, m, XS, n2, L, sb, a1, a2, a3, a4, a5⟩ := id j
  refine s_fmt_erase ⟨rfl, s_mod_erase ⟨rfl, hR, 0, c, m, XS, n2, L, sb, ⟨by omega, ?_, cf_pI_s, fun i hi => absurd hi (by omega), fun i hi => absurd hi (by omega)⟩, a2.fr ?_ ?_, a3.fr hR ?_ ?_ ?_ ?_ ?_ (fun _ _ _ _ => rfl) (fun _ _ _ => rfl) (fun _ _ _ => rfl), a4.fr ?_ ?_ rfl rfl, a5.fr ?_ ?_⟩⟩
  · rw [cf_pI_o (by decide)]; exact cf_pI_s
  all_goals first
    | (rw [cf_pI_o (by decide), cf_pI_o (by decide)])
    | (rw [cf_pI_k (by decide), cf_pI_o (by decide)])
    | (rw [cf_pI_o (by decide), cf_pI_k (by decide)])
    | (intro o k o1 o2; rw [cf_pI_o (by omega), cf_pI_o (by omega)])

set_option maxHeartbeats 4000000 in
set_option maxRecDepth 100000 in
theorem s_fmt_sections {h : cf_H} {P : Option Value → cf_H → Prop} (k : P (some (.int (h.1 0 5))) h) : RP k_fmt_sections 0 [(0, .ref 0)] [] h P := by
  refine rp_aload_n (i := 0) d_fmt_sections_0 rfl rfl ?_
  refine rp_getI d_fmt_sections_1 f_fmt_40 rfl ?_
  refine rp_ireturn (ty := .int) d_fmt_sections_4 rfl rfl ?_
  exact k
set_option maxHeartbeats 4000000 in
set_option maxRecDepth 100000 in
theorem s_mod_sections {h : cf_H} {P : Option Value → cf_H → Prop} (k : P (some (.int (h.1 19 2))) h) : RP k_mod_sections 0 [(0, .ref 19)] [] h P := by
  refine rp_aload_n (i := 0) d_mod_sections_0 rfl rfl ?_
  refine rp_getI d_mod_sections_1 f_mod_79 rfl ?_
  refine rp_ireturn (ty := .int) d_mod_sections_4 rfl rfl ?_
  exact k
theorem J_sections {h : cf_H} (j : J h) : PI2 k_fmt_sections k_mod_sections [(0, .ref 0)] [(0, .ref 19)] h := by
  obtain ⟨hR, n, c, m, XS, n2, L, sb, a1, a2, a3, a4, a5⟩ := id j
  exact s_fmt_sections ⟨_, rfl, s_mod_sections ⟨by rw [a3.2.1, a3.2.2.1], j⟩⟩

set_option maxHeartbeats 4000000 in
set_option maxRecDepth 100000 in
theorem s_fmt_calendar {h : cf_H} {P : Option Value → cf_H → Prop} (hR : cf_ok h) {b : Bool} (k : P none (cf_pI h 12 0 (cf_b b))) : RP k_fmt_calendar 0 [(0, .ref 0), (1, .int (cf_b b))] [] h P := by
  refine rp_aload_n (i := 0) d_fmt_calendar_0 rfl rfl ?_
  refine rp_getR d_fmt_calendar_1 f_fmt_50 rfl (hR _ _ _ rfl) ?_
  refine rp_iload_n (i := 1) d_fmt_calendar_4 rfl rfl ?_
  refine rp_putI d_fmt_calendar_5 f_fmt_100 rfl (by cases b <;> rfl) (by cases b <;> rfl) ?_
  refine rp_return d_fmt_calendar_8 rfl ?_
  exact k
set_option maxHeartbeats 4000000 in
set_option maxRecDepth 100000 in
theorem s_mod_calendar {h : cf_H} {P : Option Value → cf_H → Prop} {b : Bool} (k : P none (cf_pI h 19 9 (cf_b b))) : RP k_mod_calendar 0 [(0, .ref 19), (1, .int (cf_b b))] [] h P := by
  refine rp_aload_n (i := 0) d_mod_calendar_0 rfl rfl ?_
  refine rp_iload_n (i := 1) d_mod_calendar_1 rfl rfl ?_
  refine rp_putI d_mod_calendar_2 f_mod_112 rfl (by cases b <;> rfl) (by cases b <;> rfl) ?_
  refine rp_return d_mod_calendar_5 rfl ?_
  exact k
theorem J_calendar {h : cf_H} (j : J h) (b : Bool) : PV2 k_fmt_calendar k_mod_calendar [(0, .ref 0), (1, .int (cf_b b))] [(0, .ref 19), (1, .int (cf_b b))] h := by
  obtain ⟨hR, n, c, m, XS, n2, L, sb, a1, a2, a3, a4, a5⟩ := id j
  refine s_fmt_calendar hR ⟨rfl, s_mod_calendar ⟨rfl, hR, n, b, m, XS, n2, L, sb, a1.fr ?_ ?_ rfl rfl, ⟨?_, cf_pI_s⟩, a3.fr hR ?_ ?_ ?_ ?_ ?_ (fun _ _ _ _ => rfl) (fun _ _ _ => rfl) (fun _ _ _ => rfl), a4.fr ?_ ?_ rfl rfl, a5.fr ?_ ?_⟩⟩
  case refine_3 => rw [cf_pI_o (by decide)]; exact cf_pI_s
  all_goals first
    | (rw [cf_pI_o (by decide), cf_pI_o (by decide)])
    | (rw [cf_pI_k (by decide), cf_pI_o (by decide)])
    | (intro o k o1 o2; rw [cf_pI_o (by omega), cf_pI_o (by omega)])

set_option maxHeartbeats 4000000 in
set_option maxRecDepth 100000 in
theorem s_fmt_section {h : cf_H} {P : Option Value → cf_H → Prop} (k : P (some (.int (h.1 0 9))) h) : RP k_fmt_section 0 [(0, .ref 0)] [] h P := by
  refine rp_aload_n (i := 0) d_fmt_section_0 rfl rfl ?_
  refine rp_getI d_fmt_section_1 f_fmt_61 rfl ?_
  refine rp_ireturn (ty := .int) d_fmt_section_4 rfl rfl ?_
  exact k
set_option maxHeartbeats 4000000 in
set_option maxRecDepth 100000 in
theorem s_mod_section {h : cf_H} {P : Option Value → cf_H → Prop} (k : P (some (.int (if h.1 19 14 < 0 then -3 else h.1 19 14))) h) : RP k_mod_section 0 [(0, .ref 19)] [] h P := by
  refine rp_aload_n (i := 0) d_mod_section_0 rfl rfl ?_
  refine rp_getI d_mod_section_1 f_mod_28 rfl ?_
  refine rp_if_ge (tgt := 12) d_mod_section_4 (by decide) (fun c4 => ?_) (fun c4 => ?_)
  · refine rp_aload_n (i := 0) d_mod_section_12 rfl rfl ?_
    refine rp_getI d_mod_section_13 f_mod_28 rfl ?_
    refine rp_ireturn (ty := .int) d_mod_section_16 rfl rfl ?_
    rw [if_neg (Int32.not_lt.mpr c4)] at k
    exact k
  · refine rp_bipush (v := (-3)) d_mod_section_7 (by decide) ?_
    refine rp_goto (tgt := 16) d_mod_section_9 (by decide) ?_
    refine rp_ireturn (ty := .int) d_mod_section_16 rfl rfl ?_
    rw [if_pos (Int32.not_le.mp c4)] at k
    exact k
theorem J_section {h : cf_H} (j : J h) : PI2 k_fmt_section k_mod_section [(0, .ref 0)] [(0, .ref 19)] h := by
  obtain ⟨hR, n, c, m, XS, n2, L, sb, a1, a2, a3, a4, a5⟩ := id j
  exact s_fmt_section ⟨_, rfl, s_mod_section ⟨by rw [a5.1, a5.2], j⟩⟩

set_option maxHeartbeats 4000000 in
set_option maxRecDepth 100000 in
theorem s_fmt_charAt {h : cf_H} {P : Option Value → cf_H → Prop} {L : List Int32} (w : wT h L h) (hl : L.length ≤ 256) {i : Int32} (k : P (some (.int (if i < 0 ∨ nI L.length ≤ i then 0 else ch (L.getD i.toNatClampNeg 0)))) h) : RP k_fmt_charAt 0 [(0, .ref 0), (1, .int i)] [] h P := by
  refine rp_aload_n (i := 0) d_fmt_charAt_0 rfl rfl ?_
  refine rp_getR d_fmt_charAt_1 f_fmt_57 rfl (w.ok _ _ _ rfl) ?_
  refine rp_iload_n (i := 1) d_fmt_charAt_4 rfl rfl ?_
  refine rp_callV1 d_fmt_charAt_5 q_fmt_charAt_121 (Or.inl ⟨_, _, _, rfl, rfl⟩) (Nat.le_of_ble_eq_true rfl) (Nat.le_of_ble_eq_true rfl) ?_
  refine s_txt_at w hl ?_
  refine rp_ireturn (ty := .char) d_fmt_charAt_8 rfl (by split <;> first | rfl | exact pk_nc _) ?_
  exact k
set_option maxHeartbeats 4000000 in
set_option maxRecDepth 100000 in
theorem s_mod_charAt {h : cf_H} {P : Option Value → cf_H → Prop} {L : List Int32} (hR : cf_ok h) (h15 : h.1 19 15 = nI L.length) (ht : tx (h.2.2.2 26) L) (hl : L.length ≤ 256) {i : Int32} (k : P (some (.int (if i < 0 ∨ nI L.length ≤ i then 0 else ch (L.getD i.toNatClampNeg 0)))) h) : RP k_mod_charAt 0 [(0, .ref 19), (1, .int i)] [] h P := by
  refine rp_iload_n (i := 1) d_mod_charAt_0 rfl rfl ?_
  refine rp_if_lt (tgt := 12) d_mod_charAt_1 (by decide) (fun c1 => ?_) (fun c1 => ?_)
  · refine rp_iconst (v := 0) d_mod_charAt_12 (by decide) ?_
    refine rp_goto (tgt := 22) d_mod_charAt_13 (by decide) ?_
    refine rp_ireturn (ty := .char) d_mod_charAt_22 rfl (by decide) ?_
    rw [if_pos (Or.inl c1)] at k
    exact k
  · refine rp_iload_n (i := 1) d_mod_charAt_4 rfl rfl ?_
    refine rp_aload_n (i := 0) d_mod_charAt_5 rfl rfl ?_
    refine rp_getI d_mod_charAt_6 f_mod_129 rfl ?_
    rw [h15]
    refine rp_icmp_lt (tgt := 16) d_mod_charAt_9 (by decide) (fun c9 => ?_) (fun c9 => ?_)
    · refine rp_aload_n (i := 0) d_mod_charAt_16 rfl rfl ?_
      refine rp_getR d_mod_charAt_17 f_mod_32 rfl (hR _ _ _ rfl) ?_
      refine rp_iload_n (i := 1) d_mod_charAt_20 rfl rfl ?_
      obtain ⟨q, hq, rfl⟩ := nI_of c1
      have q1 : q < L.length := (nI_ltI (by omega) (by omega)).mp c9
      refine rp_caload d_mod_charAt_21 rfl (vp_in_nI (by omega) (by decide)) ?_
      have e := ht q _ (List.getElem?_eq_getElem q1)
      rw [nI_clamp (by omega), e]
      refine rp_ireturn (ty := .char) d_mod_charAt_22 rfl (pk_nc _) ?_
      rw [if_neg (fun z => z.elim c1 (fun z => absurd ((nI_leI (by omega) (by omega)).mp z) (by omega))), nI_clamp (by omega), List.getD_eq_getElem?_getD, List.getElem?_eq_getElem q1] at k
      exact k
    · refine rp_iconst (v := 0) d_mod_charAt_12 (by decide) ?_
      refine rp_goto (tgt := 22) d_mod_charAt_13 (by decide) ?_
      refine rp_ireturn (ty := .char) d_mod_charAt_22 rfl (by decide) ?_
      rw [if_pos (Or.inr (Int32.not_lt.mp c9))] at k
      exact k
theorem J_charAt {h : cf_H} (j : J h) (i : Int32) : PI2 k_fmt_charAt k_mod_charAt [(0, .ref 0), (1, .int i)] [(0, .ref 19), (1, .int i)] h := by
  obtain ⟨hR, n, c, m, XS, n2, L, sb, a1, a2, a3, a4, a5⟩ := id j
  obtain ⟨b1, b2, b3, b4, b5⟩ := a4
  exact s_fmt_charAt ⟨hR, w_fr.rf h, b2, b3⟩ b1 ⟨_, rfl, s_mod_charAt hR b4 b5 b1 ⟨rfl, j⟩⟩
theorem J_serial {h : cf_H} (j : J h) (x y z : Int32) : PI2 k_fmt_serial k_mod_serial [(0, .ref 0), (1, .int x), (2, .int y), (3, .int z)] [(0, .ref 19), (1, .int x), (2, .int y), (3, .int z)] h := by
  obtain ⟨hR, n, c, m, XS, n2, L, sb, a1, a2, a3, a4, a5⟩ := id j
  exact s_fmt_serial hR a2.1 ⟨_, rfl, s_mod_serial a2.2 ⟨rfl, j⟩⟩
theorem J_date {h : cf_H} (j : J h) (x p : Int32) : PI2 k_fmt_date k_mod_date [(0, .ref 0), (1, .int x), (2, .int p)] [(0, .ref 19), (1, .int x), (2, .int p)] h := by
  obtain ⟨hR, n, c, m, XS, n2, L, sb, a1, a2, a3, a4, a5⟩ := id j
  refine s_fmt_date hR a2.1 (fun h1 y mm dd hq f => ⟨_, rfl, ?_⟩)
  have g2 := f.2
  have hR1 : cf_ok h1 := fun o k q e => by rw [show h1.2.2.1 = h.2.2.1 from by rw [g2]]; exact hR o k q e
  have ga : h1.2.2.2 = h.2.2.2 := by rw [g2]
  have gl : h1.2.1 = h.2.1 := by rw [g2]
  refine s_mod_date ((f.1 19 9 (by decide)).trans a2.2) hq ⟨rfl, hR1, n, c, m, XS, n2, L, sb, a1.fr (f.1 _ _ (by decide)) (f.1 _ _ (by decide)) (by rw [ga]) (by rw [ga]), a2.fr (f.1 _ _ (by decide)) (f.1 _ _ (by decide)), a3.fr hR1 (f.1 _ _ (by decide)) (f.1 _ _ (by decide)) (f.1 _ _ (by decide)) (f.1 _ _ (by decide)) (fun o k o1 o2 => f.1 _ _ (by omega)) (fun o k _ _ => by rw [gl]) (fun o _ _ => by rw [ga]) (fun o _ _ => by rw [ga]), a4.fr (f.1 _ _ (by decide)) (f.1 _ _ (by decide)) (by rw [ga]) (by rw [ga]), a5.fr (f.1 _ _ (by decide)) (f.1 _ _ (by decide))⟩
theorem J_show {h : cf_H} (j : J h) (x : Int64) : PI2 k_fmt_show k_mod_show [(0, .ref 0), (1, .long x)] [(0, .ref 19), (1, .long x)] h := by
  obtain ⟨hR, n, c, m, XS, n2, L, sb, a1, a2, a3, a4, a5⟩ := id j
  obtain ⟨b1, b2, b3, b4, b5, b6⟩ := id a3
  refine s_fmt_show hR b2 b1 b4 b5 a2.1 b6 (fun h1 r L1 sb1 R l1 t1 t2 e9 f => ⟨r, rfl, ?_⟩)
  have hR1 : cf_ok h1 := fun o k q e => by rw [f.2.2.1]; exact hR o k q e
  have ga := f.2.2.2
  have fi : ∀ o k, ¬ (o = 0 ∧ k = 9) → ¬ (12 ≤ o ∧ o ≤ 18) → h1.1 o k = h.1 o k := fun o k z1 z2 => f.1 o k z1 (by omega) (by omega) (by omega) (by omega)
  have S1 := a3.fr hR1 (fi _ _ (by decide) (by decide)) (fi _ _ (by decide) (by decide)) (fi _ _ (by decide) (by decide)) (fi _ _ (by decide) (by decide)) (fun o k o1 o2 => fi _ _ (by omega) (by omega)) (fun o k o1 o2 => f.2.1 _ _ (by omega) (by omega)) (fun o o1 o2 => ga o (by omega)) (fun o o1 o2 => ga o (by omega))
  have R1 : shR (h1.2.2.2 22) (h1.2.2.2 23) (h1.2.2.2 24) (h1.2.2.2 21) (h1.2.2.2 25) c m x r L1 sb1 := by
    rw [ga 21 (by decide), ga 22 (by decide), ga 23 (by decide), ga 24 (by decide), ga 25 (by decide)]; exact R
  refine s_mod_show hR1 S1.2.2.1 b1 S1.2.2.2.1 ((fi _ _ (by decide) (by decide)).trans a2.2) R1 l1 (fun h2 g e15 e26 e14 => ⟨rfl, ?_⟩)
  have hR2 := g.ok hR1
  have gi := g.1
  have gb := g.2.2.2
  refine ⟨hR2, n, c, m, XS, n2, L1, sb1, a1.fr ?_ ?_ ?_ ?_, a2.fr ?_ ?_, S1.fr hR2 (gi _ _ (by decide)) (gi _ _ (by decide)) (gi _ _ (by decide)) (gi _ _ (by decide)) (fun o k o1 o2 => gi _ _ (by omega)) (fun o k o1 o2 => g.2.1 _ _ (by omega)) (fun o o1 o2 => gb o (by omega)) (fun o o1 o2 => gb o (by omega)), ⟨l1, (gi _ _ (by decide)).trans t1, by rw [gb 14 (by decide)]; exact t2, e15, e26⟩, ⟨(gi _ _ (by decide)).trans e9, e14⟩⟩
  · exact (gi _ _ (by decide)).trans (fi _ _ (by decide) (by decide))
  · exact (gi _ _ (by decide)).trans (fi _ _ (by decide) (by decide))
  · rw [gb 1 (by decide), ga 1 (by decide)]
  · rw [gb 20 (by decide), ga 20 (by decide)]
  · exact (gi _ _ (by decide)).trans (f.1 12 0 (by decide) (by decide) (by decide) (by decide) (by decide))
  · exact (gi _ _ (by decide)).trans (fi _ _ (by decide) (by decide))

