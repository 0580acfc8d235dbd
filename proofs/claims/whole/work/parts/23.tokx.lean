/-! THE CLASS: Tokens over the list of tokens -/
def x_ty (XS : List r_K) (j : Nat) : Int32 := match XS[j]? with
  | some x => x.1
  | none => -1
def x_va (XS : List r_K) (j : Nat) : Int32 := match XS[j]? with
  | some x => x.2.1
  | none => 0
def x_de (XS : List r_K) (j : Nat) : Int32 := match XS[j]? with
  | some x => x.2.2
  | none => 0
def x_B (h : cf_H) (XS : List r_K) : Prop := cf_ok h ∧ c_TH h XS ∧ XS.length ≤ 40
theorem x_at {h : cf_H} {XS : List r_K} (hB : x_B h XS) {j : Nat} (hj : j < 2 ^ 31) : f_at h 3 (-1) (nI j) = x_ty XS j ∧ f_at h 4 0 (nI j) = x_va XS j ∧ f_at h 5 0 (nI j) = x_de XS j := by
  obtain ⟨hR, ⟨ht, hh⟩, h40⟩ := hB
  rw [f_at_n ht h40 hj, f_at_n ht h40 hj, f_at_n ht h40 hj]
  by_cases e : j < XS.length
  · have g := hh j _ (List.getElem?_eq_getElem e)
    rw [if_pos e, if_pos e, if_pos e, x_ty, x_va, x_de, List.getElem?_eq_getElem e]
    exact g
  · rw [if_neg e, if_neg e, if_neg e, x_ty, x_va, x_de, List.getElem?_eq_none (by omega)]
    exact ⟨rfl, rfl, rfl⟩
theorem t_typeAt {h : cf_H} {P : Option Value → cf_H → Prop} {XS : List r_K} (hB : x_B h XS) {x : Int32} {j : Nat} (hx : x = nI j) (hj : j < 2 ^ 31) (k : P (some (.int (x_ty XS j))) h) : RP k_tok_typeAt 0 [(0, .ref 2), (1, .int x)] [] h P := by
  subst hx
  exact s_tok_typeAt hB.1 hB.2.1.1 hB.2.2 (by rw [(x_at hB hj).1]; exact k)
theorem t_valueAt {h : cf_H} {P : Option Value → cf_H → Prop} {XS : List r_K} (hB : x_B h XS) {x : Int32} {j : Nat} (hx : x = nI j) (hj : j < 2 ^ 31) (k : P (some (.int (x_va XS j))) h) : RP k_tok_valueAt 0 [(0, .ref 2), (1, .int x)] [] h P := by
  subst hx
  exact s_tok_valueAt hB.1 hB.2.1.1 hB.2.2 (by rw [(x_at hB hj).2.1]; exact k)
theorem t_detailAt {h : cf_H} {P : Option Value → cf_H → Prop} {XS : List r_K} (hB : x_B h XS) {x : Int32} {j : Nat} (hx : x = nI j) (hj : j < 2 ^ 31) (k : P (some (.int (x_de XS j))) h) : RP k_tok_detailAt 0 [(0, .ref 2), (1, .int x)] [] h P := by
  subst hx
  exact s_tok_detailAt hB.1 hB.2.1.1 hB.2.2 (by rw [(x_at hB hj).2.2]; exact k)
theorem t_count {h : cf_H} {P : Option Value → cf_H → Prop} {XS : List r_K} (hB : x_B h XS) {x y w : Int32} {a b : Nat} (hx : x = nI a) (hy : y = nI b) (hab : a ≤ b) (hb : b ≤ 40) (k : P (some (.int (nI (r_ct (x_ty XS) w a b)))) h) : RP k_tok_count 0 [(0, .ref 2), (1, .int w), (2, .int x), (3, .int y)] [] h P := by
  subst hx; subst hy
  refine s_tok_count hB.1 hB.2.1.1 hB.2.2 hab (by omega) ?_
  rw [cf_cnt_congr (q := fun j => decide (x_ty XS j = w)) _ _ (fun j h1 h2 => by rw [(x_at hB (by omega)).1])]
  exact k
def x_fd (XS : List r_K) (j : Nat) : Bool := decide (x_ty XS j = 8) || decide (x_ty XS j = 9) || decide (x_ty XS j = 10)

set_option maxHeartbeats 4000000 in
set_option maxRecDepth 100000 in
theorem t_isField {h : cf_H} {P : Option Value → cf_H → Prop} {XS : List r_K} (hB : x_B h XS) {x : Int32} {j : Nat} (hx : x = nI j) (hj : j < 2 ^ 31) (k : P (some (.int (cf_b (x_fd XS j)))) h) : RP k_tok_isField 0 [(0, .ref 2), (1, .int x)] [] h P := by
  subst hx
  refine rp_aload_n (i := 0) d_tok_isField_0 rfl rfl ?_
  refine rp_iload_n (i := 1) d_tok_isField_1 rfl rfl ?_
  refine rp_callV1 d_tok_isField_2 q_tok_isField_25 (Or.inl ⟨_, _, _, rfl, rfl⟩) (Nat.le_of_ble_eq_true rfl) (Nat.le_of_ble_eq_true rfl) ?_
  refine t_typeAt hB rfl hj ?_
  refine rp_istore_n (i := 2) d_tok_isField_5 rfl rfl (Nat.le_of_ble_eq_true rfl) ?_
  refine rp_iload_n (i := 2) d_tok_isField_6 rfl rfl ?_
  refine rp_bipush (v := 8) d_tok_isField_7 (by decide) ?_
  refine rp_icmp_eq (tgt := 24) d_tok_isField_9 (by decide) (fun c9 => ?_) (fun c9 => ?_)
  · refine rp_iconst (v := 1) d_tok_isField_24 (by decide) ?_
    refine rp_goto (tgt := 29) d_tok_isField_25 (by decide) ?_
    refine rp_ireturn (ty := .boolean) d_tok_isField_29 rfl (by first | rfl | decide | assumption) ?_
    simpa [cf_b, x_fd, c9] using k
  · refine rp_iload_n (i := 2) d_tok_isField_12 rfl rfl ?_
    refine rp_bipush (v := 9) d_tok_isField_13 (by decide) ?_
    refine rp_icmp_eq (tgt := 24) d_tok_isField_15 (by decide) (fun c15 => ?_) (fun c15 => ?_)
    · refine rp_iconst (v := 1) d_tok_isField_24 (by decide) ?_
      refine rp_goto (tgt := 29) d_tok_isField_25 (by decide) ?_
      refine rp_ireturn (ty := .boolean) d_tok_isField_29 rfl (by first | rfl | decide | assumption) ?_
      simpa [cf_b, x_fd, c9, c15] using k
    · refine rp_iload_n (i := 2) d_tok_isField_18 rfl rfl ?_
      refine rp_bipush (v := 10) d_tok_isField_19 (by decide) ?_
      refine rp_icmp_ne (tgt := 28) d_tok_isField_21 (by decide) (fun c21 => ?_) (fun c21 => ?_)
      · refine rp_iconst (v := 0) d_tok_isField_28 (by decide) ?_
        refine rp_ireturn (ty := .boolean) d_tok_isField_29 rfl (by first | rfl | decide | assumption) ?_
        simpa [cf_b, x_fd, c9, c15, c21] using k
      · refine rp_iconst (v := 1) d_tok_isField_24 (by decide) ?_
        refine rp_goto (tgt := 29) d_tok_isField_25 (by decide) ?_
        refine rp_ireturn (ty := .boolean) d_tok_isField_29 rfl (by first | rfl | decide | assumption) ?_
        simpa [cf_b, x_fd, c9, c15, c21] using k
set_option maxHeartbeats 4000000 in
set_option maxRecDepth 100000 in
theorem l_tok_find {h : cf_H} {P : Option Value → cf_H → Prop} {XS : List r_K} (hB : x_B h XS) {w : Int32} {b : Nat} (hb : b ≤ 40) : ∀ (n a : Nat), a + n = b → (k : P (some (.int (nI (cf_fst (fun j => decide (x_ty XS j = w)) a n)))) h) → RP k_tok_find 3 [(0, .ref 2), (1, .int w), (3, .int (nI b)), (4, .int (nI a))] [] h P := by
  intro n
  induction n with
  | zero =>
    intro a e k
    have e : a = b := e
    subst e
    refine rp_iload (i := 4) d_tok_find_3 rfl ?_
    refine rp_iload_n (i := 3) d_tok_find_5 rfl rfl ?_
    refine rp_icmp_ge (tgt := 28) d_tok_find_6 (by decide) (fun c6 => ?_) (fun c6 => ?_)
    · refine rp_iload_n (i := 3) d_tok_find_28 rfl rfl ?_
      refine rp_ireturn (ty := .int) d_tok_find_29 rfl rfl ?_
      exact k
    · exact absurd (nI_le (Nat.le_refl _) (by omega)) c6
  | succ n ih =>
    intro a e k
    refine rp_iload (i := 4) d_tok_find_3 rfl ?_
    refine rp_iload_n (i := 3) d_tok_find_5 rfl rfl ?_
    refine rp_icmp_ge (tgt := 28) d_tok_find_6 (by decide) (fun c6 => ?_) (fun c6 => ?_)
    · exact absurd c6 (nI_ge (by omega) (by omega))
    · refine rp_aload_n (i := 0) d_tok_find_9 rfl rfl ?_
      refine rp_iload (i := 4) d_tok_find_10 rfl ?_
      refine rp_callV1 d_tok_find_12 q_tok_find_25 (Or.inl ⟨_, _, _, rfl, rfl⟩) (Nat.le_of_ble_eq_true rfl) (Nat.le_of_ble_eq_true rfl) ?_
      refine t_typeAt hB (j := a) rfl (by omega) ?_
      refine rp_iload_n (i := 1) d_tok_find_15 rfl rfl ?_
      refine rp_icmp_ne (tgt := 22) d_tok_find_16 (by decide) (fun c16 => ?_) (fun c16 => ?_)
      · refine rp_iinc (i := 4) (y := 1) d_tok_find_22 rfl (by decide) rfl (Nat.le_of_ble_eq_true rfl) ?_
        refine rp_goto (tgt := 3) d_tok_find_25 (by decide) ?_
        refine rp_lv [(0, .ref 2), (1, .int w), (3, .int (nI b)), (4, .int (nI (a + 1)))] (by simp only [nI_succ]; rfl) ?_
        refine ih (a + 1) (by omega) ?_
        rw [cf_fst, show decide (x_ty XS a = w) = false by simp [c16]] at k
        exact k
      · refine rp_iload (i := 4) d_tok_find_19 rfl ?_
        refine rp_ireturn (ty := .int) d_tok_find_21 rfl rfl ?_
        rw [cf_fst, show decide (x_ty XS a = w) = true by simp [c16]] at k
        exact k
set_option maxHeartbeats 4000000 in
set_option maxRecDepth 100000 in
theorem t_find {h : cf_H} {P : Option Value → cf_H → Prop} {XS : List r_K} (hB : x_B h XS) {x y w : Int32} {a b : Nat} (hx : x = nI a) (hy : y = nI b) (hab : a ≤ b) (hb : b ≤ 40) (k : P (some (.int (nI (r_fd (x_ty XS) w a b)))) h) : RP k_tok_find 0 [(0, .ref 2), (1, .int w), (2, .int x), (3, .int y)] [] h P := by
  subst hx; subst hy
  refine rp_iload_n (i := 2) d_tok_find_0 rfl rfl ?_
  refine rp_istore (i := 4) d_tok_find_1 rfl (Nat.le_of_ble_eq_true rfl) ?_
  refine rp_lv [(0, .ref 2), (1, .int w), (3, .int (nI b)), (4, .int (nI a))] rfl ?_
  exact l_tok_find hB hb (b - a) a (by omega) k
set_option maxHeartbeats 4000000 in
set_option maxRecDepth 100000 in
theorem l_tok_findLast {h : cf_H} {P : Option Value → cf_H → Prop} {XS : List r_K} (hB : x_B h XS) {w : Int32} {a : Nat} : ∀ (n : Nat), a + n ≤ 40 → (k : P (some (.int (nI (cf_lst (fun j => decide (x_ty XS j = w)) a n) - 1))) h) → RP k_tok_findLast 5 [(0, .ref 2), (1, .int w), (2, .int (nI a)), (4, .int (nI (a + n) - 1))] [] h P := by
  intro n
  induction n with
  | zero =>
    intro e k
    have hlt : nI (a + 0) - 1 < nI a := by
      rw [Int32.lt_iff_toInt_lt, show (nI (a + 0) - 1) = nI a - nI 1 from rfl, pk_sub_toInt (by omega) (by decide), nI_toInt (by omega)]
      omega
    refine rp_iload (i := 4) d_tok_findLast_5 rfl ?_
    refine rp_iload_n (i := 2) d_tok_findLast_7 rfl rfl ?_
    refine rp_icmp_lt (tgt := 30) d_tok_findLast_8 (by decide) (fun c8 => ?_) (fun c8 => ?_)
    · refine rp_iload_n (i := 2) d_tok_findLast_30 rfl rfl ?_
      refine rp_iconst (v := 1) d_tok_findLast_31 (by decide) ?_
      refine rp_isub d_tok_findLast_32 ?_
      refine rp_ireturn (ty := .int) d_tok_findLast_33 rfl rfl ?_
      exact k
    · exact absurd hlt c8
  | succ n ih =>
    intro e k
    have e1 : nI (a + (n + 1)) - 1 = nI (a + n) := nI_pred (a + n)
    rw [e1]
    refine rp_iload (i := 4) d_tok_findLast_5 rfl ?_
    refine rp_iload_n (i := 2) d_tok_findLast_7 rfl rfl ?_
    refine rp_icmp_lt (tgt := 30) d_tok_findLast_8 (by decide) (fun c8 => ?_) (fun c8 => ?_)
    · exact absurd c8 (nI_nlt (by omega) (by omega))
    · refine rp_aload_n (i := 0) d_tok_findLast_11 rfl rfl ?_
      refine rp_iload (i := 4) d_tok_findLast_12 rfl ?_
      refine rp_callV1 d_tok_findLast_14 q_tok_findLast_25 (Or.inl ⟨_, _, _, rfl, rfl⟩) (Nat.le_of_ble_eq_true rfl) (Nat.le_of_ble_eq_true rfl) ?_
      refine t_typeAt hB (j := a + n) rfl (by omega) ?_
      refine rp_iload_n (i := 1) d_tok_findLast_17 rfl rfl ?_
      refine rp_icmp_ne (tgt := 24) d_tok_findLast_18 (by decide) (fun c18 => ?_) (fun c18 => ?_)
      · refine rp_iinc (i := 4) (y := (-1)) d_tok_findLast_24 rfl (by decide) rfl (Nat.le_of_ble_eq_true rfl) ?_
        refine rp_goto (tgt := 5) d_tok_findLast_27 (by decide) ?_
        refine rp_lv [(0, .ref 2), (1, .int w), (2, .int (nI a)), (4, .int (nI (a + n) - 1))] (by rw [Int32.sub_eq_add_neg]; rfl) ?_
        refine ih (by omega) ?_
        rw [cf_lst, show decide (x_ty XS (a + n) = w) = false by simp [c18]] at k
        exact k
      · refine rp_iload (i := 4) d_tok_findLast_21 rfl ?_
        refine rp_ireturn (ty := .int) d_tok_findLast_23 rfl rfl ?_
        rw [cf_lst, show decide (x_ty XS (a + n) = w) = true by simp [c18], cond_true, nI_pred] at k
        exact k
set_option maxHeartbeats 4000000 in
set_option maxRecDepth 100000 in
theorem t_findLast {h : cf_H} {P : Option Value → cf_H → Prop} {XS : List r_K} (hB : x_B h XS) {x y w : Int32} {a b : Nat} (hx : x = nI a) (hy : y = nI b) (hab : a ≤ b) (hb : b ≤ 40) (k : P (some (.int (nI (cf_lst (fun j => decide (x_ty XS j = w)) a (b - a)) - 1))) h) : RP k_tok_findLast 0 [(0, .ref 2), (1, .int w), (2, .int x), (3, .int y)] [] h P := by
  subst hx; subst hy
  refine rp_iload_n (i := 3) d_tok_findLast_0 rfl rfl ?_
  refine rp_iconst (v := 1) d_tok_findLast_1 (by decide) ?_
  refine rp_isub d_tok_findLast_2 ?_
  refine rp_istore (i := 4) d_tok_findLast_3 rfl (Nat.le_of_ble_eq_true rfl) ?_
  refine rp_lv [(0, .ref 2), (1, .int w), (2, .int (nI a)), (4, .int (nI (a + (b - a)) - 1))] (by rw [show a + (b - a) = b by omega]; rfl) ?_
  exact l_tok_findLast hB (b - a) (by omega) k
set_option maxHeartbeats 4000000 in
set_option maxRecDepth 100000 in
theorem s_scn_scan {h : cf_H} {P : Option Value → cf_H → Prop} (hR : cf_ok h) {n : Nat} (h40 : n ≤ 40) (hv : c_V (h.2.2.2 1) n) (kend : ∀ h' D' C', i_sc (r_at (h.2.2.2 1) n) n n 0 [] [] = (none, D', C') → c_S h' n → c_TH h' (i_X D' C') → (i_X D' C').length ≤ n → c_fr (cf_pI (cf_pR h 6 1 (some 1)) 6 2 (nI n)) h' → P (some (.int (-1))) h') (kerr : ∀ h' q, (i_sc (r_at (h.2.2.2 1) n) n n 0 [] []).1 = some q → q ≤ n → c_fr (cf_pI (cf_pR h 6 1 (some 1)) 6 2 (nI n)) h' → P (some (.int (nI q))) h') : RP k_scn_scan 0 [(0, .ref 6), (1, .ref 1), (2, .int (nI n))] [] h P := by
  refine rp_aload_n (i := 0) d_scn_scan_0 rfl rfl ?_
  refine rp_aload_n (i := 1) d_scn_scan_1 rfl rfl ?_
  refine rp_putR d_scn_scan_2 f_scn_15 rfl (fun _ => rfl) (fun _ => rfl) ?_
  refine rp_aload_n (i := 0) d_scn_scan_5 rfl rfl ?_
  refine rp_iload_n (i := 2) d_scn_scan_6 rfl rfl ?_
  refine rp_aload_n (i := 1) d_scn_scan_7 rfl rfl ?_
  refine rp_alen (v := 40) d_scn_scan_8 rfl (fun _ => rfl) (by decide) ?_
  refine rp_callS2 d_scn_scan_9 q_scn_scan_23 (Nat.le_of_ble_eq_true rfl) (Nat.le_of_ble_eq_true rfl) ?_
  refine s_math_min ?_
  rw [show (if (40 : Int32) < nI n then (40 : Int32) else nI n) = nI n from if_neg (nI_nlt (a := 40) h40 (by decide))]
  refine rp_putI d_scn_scan_12 f_scn_19 rfl rfl rfl ?_
  have hR1 : cf_ok (cf_pI (cf_pR h 6 1 (some 1)) 6 2 (nI n)) := by
    intro o k q e
    show cf_u2 h.2.2.1 6 1 (some 1) o k = some q
    by_cases z : o = 6 ∧ k = 1
    · rw [z.1, z.2] at e; exact absurd e (by intro y; cases y)
    · rw [← hR o k q e]
      by_cases zo : o = 6
      · rw [cf_u2_k _ _ (fun y => z ⟨zo, y⟩)]
      · rw [cf_u2_o _ _ zo]
  have hc1 : (cf_pI (cf_pR h 6 1 (some 1)) 6 2 (nI n)).2.2.1 6 1 = some 1 := cf_u2_same h.2.2.1 6 1 (some 1)
  have hn1 : (cf_pI (cf_pR h 6 1 (some 1)) 6 2 (nI n)).1 6 2 = nI n := cf_pI_s
  have hA1 : (cf_pI (cf_pR h 6 1 (some 1)) 6 2 (nI n)).2.2.2 1 = h.2.2.2 1 := rfl
  generalize cf_pI (cf_pR h 6 1 (some 1)) 6 2 (nI n) = h1 at hR1 hc1 hn1 hA1 kend kerr ⊢
  refine rp_aload_n (i := 0) d_scn_scan_15 rfl rfl ?_
  refine rp_getR d_scn_scan_16 f_scn_9 rfl (hR1 _ _ _ rfl) ?_
  refine rp_callV0 d_scn_scan_19 q_scn_scan_29 (Or.inl ⟨_, _, _, rfl, rfl⟩) (Nat.le_of_ble_eq_true rfl) (Nat.le_of_ble_eq_true rfl) ?_
  refine s_tok_clear hR1 ?_
  refine rp_iconst (v := 0) d_scn_scan_22 (by decide) ?_
  refine rp_istore_n (i := 3) d_scn_scan_23 rfl rfl (Nat.le_of_ble_eq_true rfl) ?_
  have hS2 : c_S (cf_pI h1 2 3 0) n := ⟨hR1, hc1, by rw [cf_pI_o (by decide)]; exact hn1, h40, by rw [show (cf_pI h1 2 3 0).2 = h1.2 from rfl, hA1]; exact hv⟩
  have hT2 : c_TH (cf_pI h1 2 3 0) (i_X [] []) := ⟨cf_pI_s, fun j x e => by simp [i_X] at e⟩
  have hF2 : c_fr h1 (cf_pI h1 2 3 0) := ⟨fun o k e => by rw [g_I1, if_neg e], rfl, rfl, fun _ _ => rfl⟩
  have hg2 : c_g (cf_pI h1 2 3 0) n = r_at (h.2.2.2 1) n := by unfold c_g; rw [show (cf_pI h1 2 3 0).2 = h1.2 from rfl, hA1]
  generalize cf_pI h1 2 3 0 = h2 at hS2 hT2 hF2 hg2 ⊢
  refine rp_lv [(0, .ref 6), (3, .int (nI 0))] rfl ?_
  exact l_scn_scan n 0 h2 [] [] (by omega) (by omega) (by simp [i_X]) hS2 hg2 hT2 hF2 kend kerr
