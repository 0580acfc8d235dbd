/-! THE TEXTS: what is written, on both sides -/
theorem cf_fst_sp {p : Nat → Bool} : ∀ n a, (∀ j, a ≤ j → j < cf_fst p a n → p j = false) ∧ (cf_fst p a n < a + n → p (cf_fst p a n) = true) ∧ a ≤ cf_fst p a n ∧ cf_fst p a n ≤ a + n := by
  intro n
  induction n with
  | zero => intro a; refine ⟨fun j h1 h2 => ?_, fun h => ?_, ?_, ?_⟩ <;> simp only [cf_fst] at * <;> omega
  | succ n ih =>
    intro a
    rw [cf_fst]
    cases e : p a with
    | true => simp only [cond]; exact ⟨fun j h1 h2 => by omega, fun _ => e, by omega, by omega⟩
    | false =>
      simp only [cond]
      obtain ⟨i1, i2, i3, i4⟩ := ih (a + 1)
      refine ⟨fun j h1 h2 => ?_, fun h => i2 (by omega), by omega, by omega⟩
      by_cases hj : j = a
      · rw [hj]; exact e
      · exact i1 j (by omega) h2
def ch (x : Int32) : Int32 := (x.toUInt32 % 65536).toInt32
def tx (f : Nat → Int32) (L : List Int32) : Prop := ∀ j x, L[j]? = some x → f j = ch x
theorem tx_add {f : Nat → Int32} {L : List Int32} (h : tx f L) (x : Int32) (hl : L.length < 2 ^ 31) : tx (upd f (nI L.length).toNatClampNeg (ch x)) (L ++ [x]) := by
  intro j y hj
  rw [nI_clamp hl]
  by_cases e : j = L.length
  · subst e; rw [List.getElem?_concat_length] at hj; injection hj with hj; rw [pk_us, hj]
  · rw [pk_un e]
    by_cases e2 : j < L.length
    · rw [List.getElem?_append_left e2] at hj; exact h j y hj
    · rw [List.getElem?_eq_none (by simp; omega)] at hj; exact absurd hj (by simp)
/-- the class's text -/
def w_fr (h0 h : cf_H) : Prop := (∀ o k, ¬ (o = 13 ∧ k = 1) → h.1 o k = h0.1 o k) ∧ h.2.1 = h0.2.1 ∧ h.2.2.1 = h0.2.2.1 ∧ (∀ o, o ≠ 14 → h.2.2.2 o = h0.2.2.2 o)
def wT (h0 : cf_H) (L : List Int32) (h : cf_H) : Prop := cf_ok h0 ∧ w_fr h0 h ∧ h.1 13 1 = nI L.length ∧ tx (h.2.2.2 14) L
theorem w_fr.rf (h : cf_H) : w_fr h h := ⟨fun _ _ _ => rfl, rfl, rfl, fun _ _ => rfl⟩
theorem w_fr.ok {h0 h : cf_H} (f : w_fr h0 h) (hR : cf_ok h0) : cf_ok h := fun o k q e => by rw [f.2.2.1]; exact hR o k q e
theorem wT.ok {h0 h : cf_H} {L : List Int32} (w : wT h0 L h) : cf_ok h := w.2.1.ok w.1
theorem wT.add {h0 h : cf_H} {L : List Int32} (w : wT h0 L h) (x : Int32) (hl : L.length < 2 ^ 31) : wT h0 (L ++ [x]) (cf_pI (cf_pA h 14 (h.1 13 1) (ch x)) 13 1 (h.1 13 1 + 1)) := by
  obtain ⟨hR, ⟨f1, f2, f3, f4⟩, t1, t2⟩ := w
  refine ⟨hR, ⟨fun o k e => ?_, f2, f3, fun o e => ?_⟩, ?_, ?_⟩
  · rw [g_I1, if_neg e, g_A1]; exact f1 o k e
  · rw [g_I2, g_A4, if_neg e]; exact f4 o e
  · rw [cf_pI_s, t1, nI_1, List.length_append]; rfl
  · rw [g_I2, g_A4, if_pos rfl, t1]; exact tx_add t2 x hl
/-- the reference's text -/
def v_fr (h0 h : cf_H) : Prop := (∀ o k, ¬ (o = 19 ∧ k = 15) → h.1 o k = h0.1 o k) ∧ h.2.1 = h0.2.1 ∧ h.2.2.1 = h0.2.2.1 ∧ (∀ o, o ≠ 26 → h.2.2.2 o = h0.2.2.2 o)
def vT (h0 : cf_H) (L : List Int32) (h : cf_H) : Prop := cf_ok h0 ∧ v_fr h0 h ∧ h.1 19 15 = nI L.length ∧ tx (h.2.2.2 26) L
theorem v_fr.rf (h : cf_H) : v_fr h h := ⟨fun _ _ _ => rfl, rfl, rfl, fun _ _ => rfl⟩
theorem v_fr.ok {h0 h : cf_H} (f : v_fr h0 h) (hR : cf_ok h0) : cf_ok h := fun o k q e => by rw [f.2.2.1]; exact hR o k q e
theorem vT.ok {h0 h : cf_H} {L : List Int32} (w : vT h0 L h) : cf_ok h := w.2.1.ok w.1
theorem vT.add {h0 h : cf_H} {L : List Int32} (w : vT h0 L h) (x : Int32) (hl : L.length < 2 ^ 31) : vT h0 (L ++ [x]) (cf_pI (cf_pA h 26 (h.1 19 15) (ch x)) 19 15 (h.1 19 15 + 1)) := by
  obtain ⟨hR, ⟨f1, f2, f3, f4⟩, t1, t2⟩ := w
  refine ⟨hR, ⟨fun o k e => ?_, f2, f3, fun o e => ?_⟩, ?_, ?_⟩
  · rw [g_I1, if_neg e, g_A1]; exact f1 o k e
  · rw [g_I2, g_A4, if_neg e]; exact f4 o e
  · rw [cf_pI_s, t1, nI_1, List.length_append]; rfl
  · rw [g_I2, g_A4, if_pos rfl, t1]; exact tx_add t2 x hl
theorem ch_nar (x : Int32) : vp_nar .char (ch x) = ch x := pk_vc x
/-- the digits of a number, i of them -/
def pn_ (n : Nat) : Nat → List Int32
  | 0 => []
  | i + 1 => nI (48 + n / 10 ^ i % 10) :: pn_ n i
theorem pn_len (n : Nat) : ∀ i, (pn_ n i).length = i := by
  intro i; induction i with
  | zero => rfl
  | succ i ih => rw [pn_, List.length_cons, ih]
def ln (n : Nat) : Nat := cf_fst (fun i => decide (n < 10 ^ i)) 0 18
def nd (n : Nat) : Nat := cf_fst (fun i => decide (n < 10 ^ i)) 1 18
theorem ln_sp {n : Nat} (hn : n < 10 ^ 18) : ln n ≤ 18 ∧ n < 10 ^ ln n ∧ (∀ j, j < ln n → 10 ^ j ≤ n) := by
  obtain ⟨h1, h2, h3, h4⟩ := cf_fst_sp (p := fun i => decide (n < 10 ^ i)) 18 0
  refine ⟨by have : ln n ≤ 0 + 18 := h4
             omega, ?_, fun j hj => ?_⟩
  · by_cases e : ln n < 18
    · have := h2 (by have : ln n < 0 + 18 := by omega
                     exact this)
      exact of_decide_eq_true this
    · have e : ln n = 18 := by have : ln n ≤ 0 + 18 := h4; omega
      rw [e]; exact hn
  · have := h1 j (by omega) hj
    exact Nat.not_lt.mp (of_decide_eq_false this)
theorem nd_sp {n : Nat} (hn : n < 10 ^ 18) : 1 ≤ nd n ∧ nd n ≤ 18 ∧ n < 10 ^ nd n ∧ (∀ j, 1 ≤ j → j < nd n → 10 ^ j ≤ n) := by
  obtain ⟨h1, h2, h3, h4⟩ := cf_fst_sp (p := fun i => decide (n < 10 ^ i)) 18 1
  have h18 : nd n ≤ 18 := by
    apply Nat.not_lt.mp; intro z
    have := h1 18 (by decide) z
    exact absurd hn (of_decide_eq_false this)
  refine ⟨h3, h18, ?_, fun j j1 hj => ?_⟩
  · have := h2 (by have : nd n < 1 + 18 := by omega
                   exact this)
    exact of_decide_eq_true this
  · have := h1 j (by omega) hj
    exact Nat.not_lt.mp (of_decide_eq_false this)
theorem ln0 : ln 0 = 0 := by decide
theorem nd_ln {n : Nat} (hn : n < 10 ^ 18) (h0 : 0 < n) : nd n = ln n := by
  obtain ⟨a1, a2, a3⟩ := ln_sp hn
  obtain ⟨b0, b1, b2, b3⟩ := nd_sp hn
  have l1 : 1 ≤ ln n := by
    apply Nat.not_lt.mp; intro z
    have : ln n = 0 := by omega
    rw [this] at a2; omega
  rcases Nat.lt_trichotomy (nd n) (ln n) with h | h | h
  · have := a3 _ h; omega
  · exact h
  · have := b3 _ l1 h; omega
def pn (n d : Nat) : List Int32 := pn_ n (max (nd n) d)
theorem pw_at : ∀ j, j < 19 → cf_pw.getD (nI j).toNatClampNeg 0 = lN (10 ^ j) := by decide +kernel
theorem tenl {j : Nat} (h : j ≤ 18) : 10 ^ j ≤ 10 ^ 18 := Nat.pow_le_pow_right (by decide) h
theorem ten0 (j : Nat) : 0 < 10 ^ j := Nat.pow_pos (by decide)
theorem ten18 : (10 : Nat) ^ 18 < 2 ^ 63 := by decide
theorem ten_u (i : Nat) : 10 ^ (i + 1) / 10 = 10 ^ i := by rw [Nat.pow_succ, Nat.mul_div_cancel _ (by decide)]

set_option maxHeartbeats 4000000 in
set_option maxRecDepth 100000 in
theorem s_txt_clear {h : cf_H} {P : Option Value → cf_H → Prop} (hR : cf_ok h) (k : P none (cf_pI h 13 1 0)) : RP k_txt_clear 0 [(0, .ref 13)] [] h P := by
  refine rp_aload_n (i := 0) d_txt_clear_0 rfl rfl ?_
  refine rp_iconst (v := 0) d_txt_clear_1 (by decide) ?_
  refine rp_putI d_txt_clear_2 f_txt_15 rfl rfl rfl ?_
  refine rp_return d_txt_clear_5 rfl ?_
  exact k
set_option maxHeartbeats 4000000 in
set_option maxRecDepth 100000 in
theorem s_txt_add {h0 h : cf_H} {P : Option Value → cf_H → Prop} {L : List Int32} (w : wT h0 L h) (hl : L.length < 256) {c x : Int32} (hc : c = ch x) (k : ∀ h', wT h0 (L ++ [x]) h' → P none h') : RP k_txt_add 0 [(0, .ref 13), (1, .int c)] [] h P := by
  subst hc
  have hR := w.ok
  refine rp_aload_n (i := 0) d_txt_add_0 rfl rfl ?_
  refine rp_getI d_txt_add_1 f_txt_15 rfl ?_
  refine rp_sipush (v := 256) d_txt_add_4 (by decide) ?_
  refine rp_icmp_ge (tgt := 30) d_txt_add_7 (by decide) (fun c7 => ?_) (fun c7 => ?_)
  · exact absurd c7 (by rw [w.2.2.1]; exact nI_ge (b := 256) hl (by decide))
  · refine rp_aload_n (i := 0) d_txt_add_10 rfl rfl ?_
    refine rp_getR d_txt_add_11 f_txt_9 rfl (hR _ _ _ rfl) ?_
    refine rp_aload_n (i := 0) d_txt_add_14 rfl rfl ?_
    refine rp_getI d_txt_add_15 f_txt_15 rfl ?_
    refine rp_iload_n (i := 1) d_txt_add_18 rfl rfl ?_
    refine rp_castore d_txt_add_19 rfl (by rw [w.2.2.1]; exact vp_in_nI hl (by decide)) ?_
    rw [ch_nar]
    refine rp_aload_n (i := 0) d_txt_add_20 rfl rfl ?_
    refine rp_dup d_txt_add_21 rfl ?_
    refine rp_getI d_txt_add_22 f_txt_15 rfl ?_
    refine rp_iconst (v := 1) d_txt_add_25 (by decide) ?_
    refine rp_iadd d_txt_add_26 ?_
    refine rp_putI d_txt_add_27 f_txt_15 rfl rfl rfl ?_
    refine rp_return d_txt_add_30 rfl ?_
    exact k _ (w.add x (by omega))
set_option maxHeartbeats 4000000 in
set_option maxRecDepth 100000 in
theorem s_txt_at {h0 h : cf_H} {P : Option Value → cf_H → Prop} {L : List Int32} (w : wT h0 L h) (hl : L.length ≤ 256) {i : Int32} (k : P (some (.int (if i < 0 ∨ nI L.length ≤ i then 0 else ch (L.getD i.toNatClampNeg 0)))) h) : RP k_txt_at 0 [(0, .ref 13), (1, .int i)] [] h P := by
  have hR := w.ok
  refine rp_iload_n (i := 1) d_txt_at_0 rfl rfl ?_
  refine rp_if_lt (tgt := 21) d_txt_at_1 (by decide) (fun c1 => ?_) (fun c1 => ?_)
  · refine rp_iconst (v := 0) d_txt_at_21 (by decide) ?_
    refine rp_ireturn (ty := .char) d_txt_at_22 rfl (by decide) ?_
    rw [if_pos (Or.inl c1)] at k
    exact k
  · refine rp_iload_n (i := 1) d_txt_at_4 rfl rfl ?_
    refine rp_aload_n (i := 0) d_txt_at_5 rfl rfl ?_
    refine rp_getI d_txt_at_6 f_txt_15 rfl ?_
    refine rp_icmp_ge (tgt := 21) d_txt_at_9 (by decide) (fun c9 => ?_) (fun c9 => ?_)
    · refine rp_iconst (v := 0) d_txt_at_21 (by decide) ?_
      refine rp_ireturn (ty := .char) d_txt_at_22 rfl (by decide) ?_
      rw [w.2.2.1] at c9
      rw [if_pos (Or.inr c9)] at k
      exact k
    · refine rp_aload_n (i := 0) d_txt_at_12 rfl rfl ?_
      refine rp_getR d_txt_at_13 f_txt_9 rfl (hR _ _ _ rfl) ?_
      refine rp_iload_n (i := 1) d_txt_at_16 rfl rfl ?_
      refine rp_caload d_txt_at_17 rfl (by rw [w.2.2.1] at c9; exact cf_vin c1 c9 hl (by decide)) ?_
      rw [w.2.2.1] at c9
      obtain ⟨j, hj, rfl⟩ := nI_of c1
      have hjl : j < L.length := Nat.not_le.mp (fun z => c9 (nI_le z hj))
      have e := w.2.2.2 j (L.getD j 0) (by rw [List.getD_eq_getElem?_getD, List.getElem?_eq_getElem hjl]; rfl)
      rw [nI_clamp hj, e]
      refine rp_goto (tgt := 22) d_txt_at_18 (by decide) ?_
      refine rp_ireturn (ty := .char) d_txt_at_22 rfl (pk_nc _) ?_
      rw [if_neg (fun z => z.elim c1 c9), nI_clamp hj] at k
      exact k
set_option maxHeartbeats 4000000 in
set_option maxRecDepth 100000 in
theorem l_fmt_countDigits {h : cf_H} {P : Option Value → cf_H → Prop} {n : Nat} (hn : n < 2 ^ 63) : ∀ (r i : Nat), i + r = 19 → (k : P (some (.int (nI (cf_fst (fun i => decide (n < 10 ^ i)) i r)))) h) → RP k_fmt_countDigits 2 [(0, .long (lN n)), (2, .int (nI i))] [] h P := by
  intro r
  induction r with
  | zero =>
    intro i e k
    have e : i = 19 := e
    subst e
    refine rp_iload_n (i := 2) d_fmt_countDigits_2 rfl rfl ?_
    refine rp_gets (v := .ref 100) d_fmt_countDigits_3 (List.mem_of_getElem? (i := 1) rfl) t_fmt_195 ?_
    refine rp_alenK (v := 19) d_fmt_countDigits_6 rfl (by decide) ?_
    refine rp_icmp_ge (tgt := 28) d_fmt_countDigits_7 (by decide) (fun c7 => ?_) (fun c7 => ?_)
    · refine rp_gets (v := .ref 100) d_fmt_countDigits_28 (List.mem_of_getElem? (i := 1) rfl) t_fmt_195 ?_
      refine rp_alenK (v := 19) d_fmt_countDigits_31 rfl (by decide) ?_
      refine rp_ireturn (ty := .int) d_fmt_countDigits_32 rfl rfl ?_
      exact k
    · exact absurd (by decide) c7
  | succ r ih =>
    intro i e k
    have h10 := tenl (j := i) (by omega)
    have h18 := ten18
    rw [cf_fst] at k
    refine rp_iload_n (i := 2) d_fmt_countDigits_2 rfl rfl ?_
    refine rp_gets (v := .ref 100) d_fmt_countDigits_3 (List.mem_of_getElem? (i := 1) rfl) t_fmt_195 ?_
    refine rp_alenK (v := 19) d_fmt_countDigits_6 rfl (by decide) ?_
    refine rp_icmp_ge (tgt := 28) d_fmt_countDigits_7 (by decide) (fun c7 => ?_) (fun c7 => ?_)
    · exact absurd c7 (nI_ge (b := 19) (by omega) (by decide))
    · refine rp_lload_n (i := 0) d_fmt_countDigits_10 rfl rfl ?_
      refine rp_gets (v := .ref 100) d_fmt_countDigits_11 (List.mem_of_getElem? (i := 1) rfl) t_fmt_195 ?_
      refine rp_iload_n (i := 2) d_fmt_countDigits_14 rfl rfl ?_
      refine rp_laloadK d_fmt_countDigits_15 rfl (vp_in_nI (by omega) (by decide)) rfl (fun _ => rfl) ?_
      rw [pw_at i (by omega)]
      refine rp_lcmp d_fmt_countDigits_16 ?_
      refine rp_if_ge (tgt := 22) d_fmt_countDigits_17 (by decide) (fun c17 => ?_) (fun c17 => ?_)
      · refine rp_iinc (i := 2) (y := 1) d_fmt_countDigits_22 rfl (by decide) rfl (Nat.le_of_ble_eq_true rfl) ?_
        refine rp_goto (tgt := 2) d_fmt_countDigits_25 (by decide) ?_
        rw [lg_cmp_ge, pk_lLE (by omega) hn] at c17
        rw [show decide (n < 10 ^ i) = false from decide_eq_false (by omega)] at k
        refine rp_lv [(0, .long (lN n)), (2, .int (nI (i + 1)))] (by simp only [← nI_1]; rfl) ?_
        exact ih (i + 1) (by omega) k
      · refine rp_iload_n (i := 2) d_fmt_countDigits_20 rfl rfl ?_
        refine rp_ireturn (ty := .int) d_fmt_countDigits_21 rfl rfl ?_
        rw [lg_cmp_ge, pk_lLE (by omega) hn] at c17
        rw [show decide (n < 10 ^ i) = true from decide_eq_true (by omega)] at k
        exact k
set_option maxHeartbeats 4000000 in
set_option maxRecDepth 100000 in
theorem s_fmt_countDigits {h : cf_H} {P : Option Value → cf_H → Prop} {x : Int64} {n : Nat} (hx : x = lN n) (hn : n < 2 ^ 63) (k : P (some (.int (nI (nd n)))) h) : RP k_fmt_countDigits 0 [(0, .long x)] [] h P := by
  subst hx
  refine rp_iconst (v := 1) d_fmt_countDigits_0 (by decide) ?_
  refine rp_istore_n (i := 2) d_fmt_countDigits_1 rfl rfl (Nat.le_of_ble_eq_true rfl) ?_
  refine rp_lv [(0, .long (lN n)), (2, .int (nI 1))] rfl ?_
  exact l_fmt_countDigits hn 18 1 rfl k
set_option maxHeartbeats 4000000 in
set_option maxRecDepth 100000 in
theorem l_txt_addNumber {h0 : cf_H} {P : Option Value → cf_H → Prop} {n : Nat} (hn : n < 2 ^ 63) : ∀ (i : Nat) (h : cf_H) (L : List Int32), i ≤ 19 → wT h0 L h → L.length + i ≤ 256 → (k : ∀ h', wT h0 (L ++ pn_ n i) h' → P none h') → RP k_txt_addNumber 23 [(0, .ref 13), (1, .long (lN n)), (5, .int (nI i - 1))] [] h P := by
  intro i
  induction i with
  | zero =>
    intro h L h1 w hl k
    refine rp_iload (i := 5) d_txt_addNumber_23 rfl ?_
    refine rp_if_lt (tgt := 56) d_txt_addNumber_25 (by decide) (fun c25 => ?_) (fun c25 => ?_)
    · refine rp_return d_txt_addNumber_56 rfl ?_
      have := k h
      rw [pn_, List.append_nil] at this
      exact this w
    · exact absurd (by decide) c25
  | succ i ih =>
    intro h L h1 w hl k
    have h10 := tenl (j := i) (by omega)
    have h18 := ten18
    refine rp_lv [(0, .ref 13), (1, .long (lN n)), (5, .int (nI i))] (by rw [← nI_pred i]; rfl) ?_
    refine rp_iload (i := 5) d_txt_addNumber_23 rfl ?_
    refine rp_if_lt (tgt := 56) d_txt_addNumber_25 (by decide) (fun c25 => ?_) (fun c25 => ?_)
    · exact absurd c25 (nI_pos (by omega))
    · refine rp_aload_n (i := 0) d_txt_addNumber_28 rfl rfl ?_
      refine rp_ldc2 (v := 48) d_txt_addNumber_29 l_txt_36 ?_
      refine rp_lload_n (i := 1) d_txt_addNumber_32 rfl rfl ?_
      refine rp_getsN (v := .ref 100) d_txt_addNumber_33 (List.mem_of_getElem? (i := 1) rfl) t_txt_29 ?_
      refine rp_iload (i := 5) d_txt_addNumber_36 rfl ?_
      refine rp_laloadK d_txt_addNumber_38 rfl (vp_in_nI (by omega) (by decide)) rfl (fun _ => rfl) ?_
      rw [pw_at i (by omega)]
      refine rp_ldiv d_txt_addNumber_39 (fun z => by have z : lN (10 ^ i) = lN 0 := z; rw [pk_lEQ (by omega) (by decide)] at z; have := ten0 i; omega) ?_
      refine rp_ldc2 (v := 10) d_txt_addNumber_40 l_txt_38 ?_
      refine rp_lrem d_txt_addNumber_43 (by decide) ?_
      rw [pk_lDiv (by omega) (ten0 i) (by omega), show lN (n / 10 ^ i) - lN (n / 10 ^ i) / 10 * 10 = lN (n / 10 ^ i % 10) from pk_lRem (b := 10) (Nat.lt_of_le_of_lt (Nat.div_le_self _ _) hn) (by decide) (by decide)]
      refine rp_ladd d_txt_addNumber_44 ?_
      refine rp_l2i d_txt_addNumber_45 ?_
      rw [show (48 : Int64) + lN (n / 10 ^ i % 10) = lN (48 + n / 10 ^ i % 10) from lN_add 48 _, lN_i]
      refine rp_i2c d_txt_addNumber_46 ?_
      refine rp_callV1 d_txt_addNumber_47 q_txt_addNumber_40 (Or.inl ⟨_, _, _, rfl, rfl⟩) (Nat.le_of_ble_eq_true rfl) (Nat.le_of_ble_eq_true rfl) ?_
      refine s_txt_add w (by omega) rfl (fun h2 w2 => ?_)
      refine rp_iinc (i := 5) (y := (-1)) d_txt_addNumber_50 rfl (by decide) rfl (Nat.le_of_ble_eq_true rfl) ?_
      refine rp_goto (tgt := 23) d_txt_addNumber_53 (by decide) ?_
      refine rp_lv [(0, .ref 13), (1, .long (lN n)), (5, .int (nI i - 1))] (by rw [Int32.sub_eq_add_neg]; rfl) ?_
      refine ih h2 _ (by omega) w2 (by rw [List.length_append]; show L.length + 1 + i ≤ 256; omega) (fun h3 w3 => k h3 ?_)
      rw [pn_, ← List.singleton_append, ← List.append_assoc]
      exact w3
set_option maxHeartbeats 4000000 in
set_option maxRecDepth 100000 in
theorem s_txt_addNumber {h0 h : cf_H} {P : Option Value → cf_H → Prop} {L : List Int32} (w : wT h0 L h) {x : Int64} {z : Int32} {n d : Nat} (hx : x = lN n) (hz : z = nI d) (hn : n < 10 ^ 18) (hd : d ≤ 18) (hl : L.length + (pn n d).length ≤ 256) (k : ∀ h', wT h0 (L ++ pn n d) h' → P none h') : RP k_txt_addNumber 0 [(0, .ref 13), (1, .long x), (3, .int z)] [] h P := by
  subst hx; subst hz
  obtain ⟨n1, n2, n3, n4⟩ := nd_sp hn
  have hn' : n < 2 ^ 63 := Nat.lt_trans hn ten18
  have e1 : (if nI (nd n) < nI d then nI d else nI (nd n)) = nI (max (nd n) d) := by
    by_cases z : nd n < d
    · rw [if_pos (nI_lt z (by omega)), Nat.max_eq_right (by omega)]
    · rw [if_neg (nI_nlt (by omega) (by omega)), Nat.max_eq_left (by omega)]
  have e2 : (if (19 : Int32) < nI (max (nd n) d) then 19 else nI (max (nd n) d)) = nI (max (nd n) d) := if_neg (nI_nlt (b := max (nd n) d) (a := 19) (by omega) (by decide))
  rw [pn, pn_len] at hl
  refine rp_lload_n (i := 1) d_txt_addNumber_0 rfl rfl ?_
  refine rp_callS1 d_txt_addNumber_1 q_txt_addNumber_19 (Nat.le_of_ble_eq_true rfl) (Nat.le_of_ble_eq_true rfl) ?_
  refine s_fmt_countDigits rfl hn' ?_
  refine rp_iload_n (i := 3) d_txt_addNumber_4 rfl rfl ?_
  refine rp_callS2 d_txt_addNumber_5 q_txt_addNumber_23 (Nat.le_of_ble_eq_true rfl) (Nat.le_of_ble_eq_true rfl) ?_
  refine s_math_max ?_
  rw [e1]
  refine rp_getsN (v := .ref 100) d_txt_addNumber_8 (List.mem_of_getElem? (i := 1) rfl) t_txt_29 ?_
  refine rp_alenK (v := 19) d_txt_addNumber_11 rfl (by decide) ?_
  refine rp_callS2 d_txt_addNumber_12 q_txt_addNumber_33 (Nat.le_of_ble_eq_true rfl) (Nat.le_of_ble_eq_true rfl) ?_
  refine s_math_min ?_
  rw [e2]
  refine rp_istore (i := 4) d_txt_addNumber_15 rfl (Nat.le_of_ble_eq_true rfl) ?_
  refine rp_iload (i := 4) d_txt_addNumber_17 rfl ?_
  refine rp_iconst (v := 1) d_txt_addNumber_19 (by decide) ?_
  refine rp_isub d_txt_addNumber_20 ?_
  refine rp_istore (i := 5) d_txt_addNumber_21 rfl (Nat.le_of_ble_eq_true rfl) ?_
  refine rp_lv [(0, .ref 13), (1, .long (lN n)), (5, .int (nI (max (nd n) d) - 1))] rfl ?_
  exact l_txt_addNumber hn' _ h L (by omega) w hl k
set_option maxHeartbeats 4000000 in
set_option maxRecDepth 100000 in
theorem s_mod_put {h0 h : cf_H} {P : Option Value → cf_H → Prop} {L : List Int32} (w : vT h0 L h) (hl : L.length < 600) {x : Int32} (k : ∀ h', vT h0 (L ++ [x]) h' → P none h') : RP k_mod_put 0 [(0, .ref 19), (1, .int x)] [] h P := by
  have hR := w.ok
  refine rp_aload_n (i := 0) d_mod_put_0 rfl rfl ?_
  refine rp_getR d_mod_put_1 f_mod_32 rfl (hR _ _ _ rfl) ?_
  refine rp_aload_n (i := 0) d_mod_put_4 rfl rfl ?_
  refine rp_getI d_mod_put_5 f_mod_129 rfl ?_
  refine rp_iload_n (i := 1) d_mod_put_8 rfl rfl ?_
  refine rp_i2c d_mod_put_9 ?_
  refine rp_castore d_mod_put_10 rfl (by rw [w.2.2.1]; exact vp_in_nI hl (by decide)) ?_
  rw [show vp_nar .char (x.toUInt32 % 65536).toInt32 = ch x from pk_vc x]
  refine rp_aload_n (i := 0) d_mod_put_11 rfl rfl ?_
  refine rp_dup d_mod_put_12 rfl ?_
  refine rp_getI d_mod_put_13 f_mod_129 rfl ?_
  refine rp_iconst (v := 1) d_mod_put_16 (by decide) ?_
  refine rp_iadd d_mod_put_17 ?_
  refine rp_putI d_mod_put_18 f_mod_129 rfl rfl rfl ?_
  refine rp_return d_mod_put_21 rfl ?_
  exact k _ (w.add x (by omega))
set_option maxHeartbeats 4000000 in
set_option maxRecDepth 100000 in
theorem l_mod_putN2 {h0 : cf_H} {P : Option Value → cf_H → Prop} {n : Nat} (hn : n < 2 ^ 63) : ∀ (i : Nat) (h : cf_H) (L : List Int32), i ≤ 19 → vT h0 L h → L.length + i ≤ 600 → (k : ∀ h', vT h0 (L ++ pn_ n i) h' → P none h') → RP k_mod_putNumber 37 [(0, .ref 19), (1, .long (lN n)), (4, .long (lN (10 ^ i / 10)))] [] h P := by
  intro i
  induction i with
  | zero =>
    intro h L h1 w hl k
    refine rp_lload (i := 4) d_mod_putNumber_37 rfl ?_
    refine rp_lconst (v := 0) d_mod_putNumber_39 (by decide) ?_
    refine rp_lcmp d_mod_putNumber_40 ?_
    refine rp_if_le (tgt := 72) d_mod_putNumber_41 (by decide) (fun c41 => ?_) (fun c41 => ?_)
    · refine rp_return d_mod_putNumber_72 rfl ?_
      have := k h
      rw [pn_, List.append_nil] at this
      exact this w
    · exact absurd (by decide) c41
  | succ i ih =>
    intro h L h1 w hl k
    have h10 := tenl (j := i) (by omega)
    have h18 := ten18
    have h100 := ten0 i
    rw [ten_u]
    refine rp_lload (i := 4) d_mod_putNumber_37 rfl ?_
    refine rp_lconst (v := 0) d_mod_putNumber_39 (by decide) ?_
    refine rp_lcmp d_mod_putNumber_40 ?_
    refine rp_if_le (tgt := 72) d_mod_putNumber_41 (by decide) (fun c41 => ?_) (fun c41 => ?_)
    · exact absurd ((lg_cmp_le _ _).mp c41) (fun z => by have z : lN (10 ^ i) ≤ lN 0 := z; rw [pk_lLE (by omega) (by decide)] at z; omega)
    · refine rp_aload_n (i := 0) d_mod_putNumber_44 rfl rfl ?_
      refine rp_ldc2 (v := 48) d_mod_putNumber_45 l_mod_137 ?_
      refine rp_lload_n (i := 1) d_mod_putNumber_48 rfl rfl ?_
      refine rp_lload (i := 4) d_mod_putNumber_49 rfl ?_
      refine rp_ldiv d_mod_putNumber_51 (fun z => by have z : lN (10 ^ i) = lN 0 := z; rw [pk_lEQ (by omega) (by decide)] at z; omega) ?_
      refine rp_ldc2 (v := 10) d_mod_putNumber_52 l_mod_135 ?_
      refine rp_lrem d_mod_putNumber_55 (by decide) ?_
      rw [pk_lDiv (by omega) (ten0 i) (by omega), show lN (n / 10 ^ i) - lN (n / 10 ^ i) / 10 * 10 = lN (n / 10 ^ i % 10) from pk_lRem (b := 10) (Nat.lt_of_le_of_lt (Nat.div_le_self _ _) hn) (by decide) (by decide)]
      refine rp_ladd d_mod_putNumber_56 ?_
      refine rp_l2i d_mod_putNumber_57 ?_
      rw [show (48 : Int64) + lN (n / 10 ^ i % 10) = lN (48 + n / 10 ^ i % 10) from lN_add 48 _, lN_i]
      refine rp_callV1 d_mod_putNumber_58 q_mod_putNumber_132 (Or.inl ⟨_, _, _, rfl, rfl⟩) (Nat.le_of_ble_eq_true rfl) (Nat.le_of_ble_eq_true rfl) ?_
      refine s_mod_put w (by omega) (fun h2 w2 => ?_)
      refine rp_lload (i := 4) d_mod_putNumber_61 rfl ?_
      refine rp_ldc2 (v := 10) d_mod_putNumber_63 l_mod_135 ?_
      refine rp_ldiv d_mod_putNumber_66 (by decide) ?_
      rw [show lN (10 ^ i) / 10 = lN (10 ^ i / 10) from pk_lDiv (b := 10) (by omega) (by decide) (by decide)]
      refine rp_lstore (i := 4) d_mod_putNumber_67 rfl (Nat.le_of_ble_eq_true rfl) ?_
      refine rp_goto (tgt := 37) d_mod_putNumber_69 (by decide) ?_
      refine rp_lv [(0, .ref 19), (1, .long (lN n)), (4, .long (lN (10 ^ i / 10)))] rfl ?_
      refine ih h2 _ (by omega) w2 (by rw [List.length_append]; show L.length + 1 + i ≤ 600; omega) (fun h3 w3 => k h3 ?_)
      rw [pn_, ← List.singleton_append, ← List.append_assoc]
      exact w3
set_option maxHeartbeats 4000000 in
set_option maxRecDepth 100000 in
theorem l_mod_putN1 {h0 h : cf_H} {P : Option Value → cf_H → Prop} {L : List Int32} (w : vT h0 L h) {n d : Nat} (hn : n < 10 ^ 18) (hd : d ≤ 18) (hl : L.length + (pn n d).length ≤ 600) (k : ∀ h', vT h0 (L ++ pn n d) h' → P none h') : ∀ (r t : Nat), t + r = max (nd n) d → 1 ≤ t → RP k_mod_putNumber 6 [(0, .ref 19), (1, .long (lN n)), (3, .int (nI d)), (4, .long (lN (10 ^ t / 10))), (6, .int (nI t))] [] h P := by
  obtain ⟨n1, n2, n3, n4⟩ := nd_sp hn
  have hn' : n < 2 ^ 63 := Nat.lt_trans hn ten18
  have h18 := ten18
  rw [pn, pn_len] at hl
  intro r
  induction r with
  | zero =>
    intro t e t1
    have e : t = max (nd n) d := e
    obtain ⟨i, rfl⟩ : ∃ i, t = i + 1 := ⟨t - 1, by omega⟩
    have h10 := tenl (j := i) (by omega)
    have hlt : n / 10 ^ i < 10 := by
      rw [Nat.div_lt_iff_lt_mul (ten0 i), Nat.mul_comm, ← Nat.pow_succ]
      exact Nat.lt_of_lt_of_le n3 (Nat.pow_le_pow_right (by decide) (by omega))
    refine rp_lv [(0, .ref 19), (1, .long (lN n)), (3, .int (nI d)), (4, .long (lN (10 ^ i))), (6, .int (nI (i + 1)))] (by rw [ten_u]; rfl) ?_
    refine rp_lload_n (i := 1) d_mod_putNumber_6 rfl rfl ?_
    refine rp_lload (i := 4) d_mod_putNumber_7 rfl ?_
    refine rp_ldiv d_mod_putNumber_9 (fun z => by have z : lN (10 ^ i) = lN 0 := z; rw [pk_lEQ (by omega) (by decide)] at z; have := ten0 i; omega) ?_
    rw [pk_lDiv (by omega) (ten0 i) (by omega)]
    refine rp_ldc2 (v := 10) d_mod_putNumber_10 l_mod_135 ?_
    refine rp_lcmp d_mod_putNumber_13 ?_
    refine rp_if_ge (tgt := 23) d_mod_putNumber_14 (by decide) (fun c14 => ?_) (fun c14 => ?_)
    · exact absurd ((lg_cmp_ge _ _).mp c14) (fun z => by have z : lN 10 ≤ lN (n / 10 ^ i) := z; rw [pk_lLE (by decide) (by omega)] at z; omega)
    · refine rp_iload (i := 6) d_mod_putNumber_17 rfl ?_
      refine rp_iload_n (i := 3) d_mod_putNumber_19 rfl rfl ?_
      refine rp_icmp_ge (tgt := 37) d_mod_putNumber_20 (by decide) (fun c20 => ?_) (fun c20 => ?_)
      · refine rp_lv [(0, .ref 19), (1, .long (lN n)), (4, .long (lN (10 ^ (i + 1) / 10)))] (by rw [ten_u]; rfl) ?_
        refine l_mod_putN2 hn' (i + 1) h L (by omega) w (by omega) ?_
        rw [e]
        exact k
      · exact absurd (nI_le (by omega) (by omega)) c20
  | succ r ih =>
    intro t e t1
    obtain ⟨i, rfl⟩ : ∃ i, t = i + 1 := ⟨t - 1, by omega⟩
    have h10 := tenl (j := i) (by omega)
    refine rp_lv [(0, .ref 19), (1, .long (lN n)), (3, .int (nI d)), (4, .long (lN (10 ^ i))), (6, .int (nI (i + 1)))] (by rw [ten_u]; rfl) ?_
    refine rp_lload_n (i := 1) d_mod_putNumber_6 rfl rfl ?_
    refine rp_lload (i := 4) d_mod_putNumber_7 rfl ?_
    refine rp_ldiv d_mod_putNumber_9 (fun z => by have z : lN (10 ^ i) = lN 0 := z; rw [pk_lEQ (by omega) (by decide)] at z; have := ten0 i; omega) ?_
    rw [pk_lDiv (by omega) (ten0 i) (by omega)]
    refine rp_ldc2 (v := 10) d_mod_putNumber_10 l_mod_135 ?_
    refine rp_lcmp d_mod_putNumber_13 ?_
    refine rp_if_ge (tgt := 23) d_mod_putNumber_14 (by decide) (fun c14 => ?_) (fun c14 => ?_)
    · refine rp_lload (i := 4) d_mod_putNumber_23 rfl ?_
      refine rp_ldc2 (v := 10) d_mod_putNumber_25 l_mod_135 ?_
      refine rp_lmul d_mod_putNumber_28 ?_
      rw [show lN (10 ^ i) * 10 = lN (10 ^ i * 10) from lN_mul _ 10, ← Nat.pow_succ, ← ten_u (i + 1)]
      refine rp_lstore (i := 4) d_mod_putNumber_29 rfl (Nat.le_of_ble_eq_true rfl) ?_
      refine rp_iinc (i := 6) (y := 1) d_mod_putNumber_31 rfl (by decide) rfl (Nat.le_of_ble_eq_true rfl) ?_
      refine rp_goto (tgt := 6) d_mod_putNumber_34 (by decide) ?_
      refine rp_lv [(0, .ref 19), (1, .long (lN n)), (3, .int (nI d)), (4, .long (lN (10 ^ (i + 1 + 1) / 10))), (6, .int (nI (i + 1 + 1)))] (by simp only [← nI_1]; rfl) ?_
      exact ih (i + 1 + 1) (by omega) (by omega)
    · refine rp_iload (i := 6) d_mod_putNumber_17 rfl ?_
      refine rp_iload_n (i := 3) d_mod_putNumber_19 rfl rfl ?_
      refine rp_icmp_ge (tgt := 37) d_mod_putNumber_20 (by decide) (fun c20 => ?_) (fun c20 => ?_)
      · exact absurd ((nI_leI (by omega) (by omega)).mp c20) (fun z => c14 ((lg_cmp_ge _ _).mpr (show lN 10 ≤ lN (n / 10 ^ i) from (pk_lLE (by decide) (Nat.lt_of_le_of_lt (Nat.div_le_self _ _) hn')).mpr (by rw [Nat.le_div_iff_mul_le (ten0 i), Nat.mul_comm, ← Nat.pow_succ]; exact n4 _ (by omega) (by omega)))))
      · refine rp_lload (i := 4) d_mod_putNumber_23 rfl ?_
        refine rp_ldc2 (v := 10) d_mod_putNumber_25 l_mod_135 ?_
        refine rp_lmul d_mod_putNumber_28 ?_
        rw [show lN (10 ^ i) * 10 = lN (10 ^ i * 10) from lN_mul _ 10, ← Nat.pow_succ, ← ten_u (i + 1)]
        refine rp_lstore (i := 4) d_mod_putNumber_29 rfl (Nat.le_of_ble_eq_true rfl) ?_
        refine rp_iinc (i := 6) (y := 1) d_mod_putNumber_31 rfl (by decide) rfl (Nat.le_of_ble_eq_true rfl) ?_
        refine rp_goto (tgt := 6) d_mod_putNumber_34 (by decide) ?_
        refine rp_lv [(0, .ref 19), (1, .long (lN n)), (3, .int (nI d)), (4, .long (lN (10 ^ (i + 1 + 1) / 10))), (6, .int (nI (i + 1 + 1)))] (by simp only [← nI_1]; rfl) ?_
        exact ih (i + 1 + 1) (by omega) (by omega)
set_option maxHeartbeats 4000000 in
set_option maxRecDepth 100000 in
theorem s_mod_putNumber {h0 h : cf_H} {P : Option Value → cf_H → Prop} {L : List Int32} (w : vT h0 L h) {x : Int64} {z : Int32} {n d : Nat} (hx : x = lN n) (hz : z = nI d) (hn : n < 10 ^ 18) (hd : d ≤ 18) (hl : L.length + (pn n d).length ≤ 600) (k : ∀ h', vT h0 (L ++ pn n d) h' → P none h') : RP k_mod_putNumber 0 [(0, .ref 19), (1, .long x), (3, .int z)] [] h P := by
  subst hx; subst hz
  have n1 := (nd_sp hn).1
  refine rp_lconst (v := 1) d_mod_putNumber_0 (by decide) ?_
  refine rp_lstore (i := 4) d_mod_putNumber_1 rfl (Nat.le_of_ble_eq_true rfl) ?_
  refine rp_iconst (v := 1) d_mod_putNumber_3 (by decide) ?_
  refine rp_istore (i := 6) d_mod_putNumber_4 rfl (Nat.le_of_ble_eq_true rfl) ?_
  refine rp_lv [(0, .ref 19), (1, .long (lN n)), (3, .int (nI d)), (4, .long (lN (10 ^ 1 / 10))), (6, .int (nI 1))] rfl ?_
  exact l_mod_putN1 w hn hd hl k (max (nd n) d - 1) 1 (by omega) (by omega)
set_option maxHeartbeats 4000000 in
set_option maxRecDepth 100000 in
theorem l_mod_lengthOf {h : cf_H} {P : Option Value → cf_H → Prop} {n : Nat} (hn : n < 10 ^ 18) (k : P (some (.int (nI (ln n)))) h) : ∀ (r q : Nat), q + r = ln n → RP k_mod_lengthOf 4 [(2, .int (nI q)), (3, .long (lN (n / 10 ^ q)))] [] h P := by
  obtain ⟨n1, n2, n3⟩ := ln_sp hn
  have h18 := ten18
  intro r
  induction r with
  | zero =>
    intro q e
    have e : q = ln n := e
    subst e
    have e0 : n / 10 ^ ln n = 0 := Nat.div_eq_of_lt n2
    rw [e0]
    refine rp_lload_n (i := 3) d_mod_lengthOf_4 rfl rfl ?_
    refine rp_lconst (v := 0) d_mod_lengthOf_5 (by decide) ?_
    refine rp_lcmp d_mod_lengthOf_6 ?_
    refine rp_if_le (tgt := 22) d_mod_lengthOf_7 (by decide) (fun c7 => ?_) (fun c7 => ?_)
    · refine rp_iload_n (i := 2) d_mod_lengthOf_22 rfl rfl ?_
      refine rp_ireturn (ty := .int) d_mod_lengthOf_23 rfl rfl ?_
      exact k
    · exact absurd (by decide) c7
  | succ r ih =>
    intro q e
    have hle := n3 q (by omega)
    have h1 : 1 ≤ n / 10 ^ q := by rw [Nat.le_div_iff_mul_le (ten0 q)]; omega
    have h2 : n / 10 ^ q < 2 ^ 63 := Nat.lt_of_le_of_lt (Nat.div_le_self _ _) (by omega)
    refine rp_lload_n (i := 3) d_mod_lengthOf_4 rfl rfl ?_
    refine rp_lconst (v := 0) d_mod_lengthOf_5 (by decide) ?_
    refine rp_lcmp d_mod_lengthOf_6 ?_
    refine rp_if_le (tgt := 22) d_mod_lengthOf_7 (by decide) (fun c7 => ?_) (fun c7 => ?_)
    · exact absurd ((lg_cmp_le _ _).mp c7) (fun z => by have z : lN (n / 10 ^ q) ≤ lN 0 := z; rw [pk_lLE h2 (by decide)] at z; omega)
    · refine rp_iinc (i := 2) (y := 1) d_mod_lengthOf_10 rfl (by decide) rfl (Nat.le_of_ble_eq_true rfl) ?_
      refine rp_lload_n (i := 3) d_mod_lengthOf_13 rfl rfl ?_
      refine rp_ldc2 (v := 10) d_mod_lengthOf_14 l_mod_135 ?_
      refine rp_ldiv d_mod_lengthOf_17 (by decide) ?_
      rw [show lN (n / 10 ^ q) / 10 = lN (n / 10 ^ q / 10) from pk_lDiv (b := 10) h2 (by decide) (by decide), Nat.div_div_eq_div_mul, ← Nat.pow_succ]
      refine rp_lstore_n (i := 3) d_mod_lengthOf_18 rfl rfl (Nat.le_of_ble_eq_true rfl) ?_
      refine rp_goto (tgt := 4) d_mod_lengthOf_19 (by decide) ?_
      refine rp_lv [(2, .int (nI (q + 1))), (3, .long (lN (n / 10 ^ (q + 1))))] (by simp only [← nI_1]; rfl) ?_
      exact ih (q + 1) (by omega)
set_option maxHeartbeats 4000000 in
set_option maxRecDepth 100000 in
theorem s_mod_lengthOf {h : cf_H} {P : Option Value → cf_H → Prop} {x : Int64} {n : Nat} (hx : x = lN n) (hn : n < 10 ^ 18) (k : P (some (.int (nI (ln n)))) h) : RP k_mod_lengthOf 0 [(0, .long x)] [] h P := by
  subst hx
  refine rp_iconst (v := 0) d_mod_lengthOf_0 (by decide) ?_
  refine rp_istore_n (i := 2) d_mod_lengthOf_1 rfl rfl (Nat.le_of_ble_eq_true rfl) ?_
  refine rp_lload_n (i := 0) d_mod_lengthOf_2 rfl rfl ?_
  refine rp_lstore_n (i := 3) d_mod_lengthOf_3 rfl rfl (Nat.le_of_ble_eq_true rfl) ?_
  refine rp_lv [(2, .int (nI 0)), (3, .long (lN (n / 10 ^ 0)))] (by rw [Nat.pow_zero, Nat.div_one]; rfl) ?_
  exact l_mod_lengthOf hn k (ln n) 0 (by omega)
