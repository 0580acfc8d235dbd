/-! ITEMS: the reference's token beside the class's block -/
abbrev i_It : Type := r_K × List r_K
def i_of (g : Nat → Int32) (p : Nat) (T : r_T) : i_It := ((T.1, T.2.1, T.2.2.1), c_blk g p T)
def i_sc (g : Nat → Int32) (n : Nat) : Nat → Nat → List (List i_It) → List i_It → Option Nat × List (List i_It) × List i_It
  | 0, _, D, C => (none, D, C)
  | f + 1, p, D, C => if n ≤ p then (none, D, C) else if g p = 59 then i_sc g n f (p + 1) (D ++ [C]) [] else if (r_tok g n p).1 = 0 then (some p, D, C) else i_sc g n f (r_tok g n p).2.2.2 D (C ++ [i_of g p (r_tok g n p)])
def i_T (D : List (List i_It)) (C : List i_It) : List r_K := (D.flatten ++ C).map Prod.fst
def i_st : List (List i_It) → Nat → List Nat
  | [], a => [a]
  | S :: D, a => a :: i_st D (a + S.length)
def i_X (D : List (List i_It)) (C : List i_It) : List r_K := D.flatMap (fun S => S.flatMap Prod.snd ++ [(11, 59, 0)]) ++ C.flatMap Prod.snd
theorem i_st_app (C : List i_It) : ∀ (D : List (List i_It)) (a : Nat), i_st (D ++ [C]) a = i_st D a ++ [a + D.flatten.length + C.length] := by
  intro D
  induction D with
  | nil => intro a; simp [i_st]
  | cons S D ih =>
    intro a
    rw [List.cons_append, i_st, ih, i_st]
    simp
    omega
theorem r_sc_i (g : Nat → Int32) (n : Nat) : ∀ f p D C, r_sc g n f p (i_T D C) (i_st D 0) = ((i_sc g n f p D C).1, i_T (i_sc g n f p D C).2.1 (i_sc g n f p D C).2.2, i_st (i_sc g n f p D C).2.1 0) := by
  intro f
  induction f with
  | zero => intro p D C; rfl
  | succ f ih =>
    intro p D C
    rw [r_sc, i_sc]
    split
    · rfl
    split
    · rw [← ih]
      congr 1
      · simp [i_T]
      · rw [i_st_app, i_T, List.length_map, List.length_append, Nat.zero_add]
    split
    · rfl
    · rw [← ih]
      congr 1
      simp [i_T, i_of]
/-! THE CLASS: Scanner.scan -/
def c_TH (h : cf_H) (XS : List r_K) : Prop := h.1 2 3 = nI XS.length ∧ r_hold (h.2.2.2 3) (h.2.2.2 4) (h.2.2.2 5) XS
def c_fr (h0 h : cf_H) : Prop := (∀ o k, ¬ (o = 2 ∧ k = 3) → h.1 o k = h0.1 o k) ∧ h.2.1 = h0.2.1 ∧ h.2.2.1 = h0.2.2.1 ∧ (∀ o, ¬ (o = 3 ∨ o = 4 ∨ o = 5) → h.2.2.2 o = h0.2.2.2 o)
theorem c_fr.rf (h : cf_H) : c_fr h h := ⟨fun _ _ _ => rfl, rfl, rfl, fun _ _ => rfl⟩
theorem c_fr.add {h0 h : cf_H} (f : c_fr h0 h) (a b c : Int32) : c_fr h0 (f_add h a b c) := by
  refine ⟨fun o k e => ?_, f.2.1, f.2.2.1, fun o e => ?_⟩
  · rw [f_add_I e]; exact f.1 o k e
  · rw [f_add_A ⟨fun z => e (Or.inl z), fun z => e (Or.inr (Or.inl z)), fun z => e (Or.inr (Or.inr z))⟩]; exact f.2.2.2 o e
theorem c_TH.add {h : cf_H} {XS : List r_K} (t : c_TH h XS) (hl : XS.length < 2 ^ 31) (a b c : Int32) : c_TH (f_add h a b c) (XS ++ [(a, b, c)]) := by
  refine ⟨by rw [f_add_t t.1, List.length_append]; rfl, ?_⟩
  have := r_hold_add t.2 (a, b, c) hl
  unfold f_add
  simp only [g_I2, g_A4, t.1]
  simpa using this
theorem c_adds_all {n : Nat} : ∀ (L : List r_K) (h0 h : cf_H) (XS : List r_K), c_S h n → c_TH h XS → c_fr h0 h → XS.length + L.length ≤ 40 → c_S (c_adds h L) n ∧ c_g (c_adds h L) n = c_g h n ∧ c_TH (c_adds h L) (XS ++ L) ∧ c_fr h0 (c_adds h L) := by
  intro L
  induction L with
  | nil => intro h0 h XS hS ht hf _; exact ⟨hS, rfl, by rw [List.append_nil]; exact ht, hf⟩
  | cons x L ih =>
    intro h0 h XS hS ht hf hl
    simp only [List.length_cons] at hl
    obtain ⟨h1, h2, h3, h4⟩ := ih h0 (f_add h x.1 x.2.1 x.2.2) (XS ++ [x]) (c_S_add hS _ _ _) (ht.add (by omega) _ _ _) (hf.add _ _ _) (by simp; omega)
    exact ⟨h1, h2.trans c_g_add, by rw [List.append_assoc] at h3; exact h3, h4⟩
theorem c_lit_len (g : Nat → Int32) : ∀ m a, (c_lit g a m).length = m := by
  intro m
  induction m with
  | zero => intro a; rfl
  | succ m ih => intro a; rw [c_lit, List.length_cons, ih]
theorem c_blk_len {c : Nat → Int32} {n p : Nat} (hp : p < n) (hm : ¬ (r_tok (r_at c n) n p).1 = 0) : (c_blk (r_at c n) p (r_tok (r_at c n) n p)).length ≤ (r_tok (r_at c n) n p).2.2.2 - p := by
  have he := r_tok_end hp hm
  unfold c_blk
  split
  · split
    · rw [List.length_cons, c_lit_len]
      have : p + 1 < (r_tok (r_at c n) n p).2.2.2 := by
        rename_i h1 h34
        have e : r_tok (r_at c n) n p = r_quo (r_at c n) n p := by simp [r_tok, h34]
        rw [e] at hm ⊢
        have hge := cf_fst_ge (fun j => decide (r_at c n j = 34)) (n - (p + 1)) (p + 1)
        unfold r_quo at hm ⊢
        split at hm
        · rename_i h2; rw [if_pos h2]; show p + 1 < _ + 1; omega
        · exact absurd rfl hm
      omega
    · split
      · show 1 ≤ _; omega
      · split
        · show 1 ≤ _; omega
        · show 1 ≤ _; omega
  · repeat' split
    all_goals (show 1 ≤ _; omega)

set_option maxHeartbeats 4000000 in
set_option maxRecDepth 100000 in
theorem l_scn_scan {P : Option Value → cf_H → Prop} {h0 : cf_H} {n : Nat} {g : Nat → Int32} : ∀ (f p : Nat) (h : cf_H) (D : List (List i_It)) (C : List i_It), n ≤ p + f → p ≤ n → (i_X D C).length ≤ p → c_S h n → c_g h n = g → c_TH h (i_X D C) → c_fr h0 h → (kend : ∀ h' D' C', i_sc g n f p D C = (none, D', C') → c_S h' n → c_TH h' (i_X D' C') → (i_X D' C').length ≤ n → c_fr h0 h' → P (some (.int (-1))) h') → (kerr : ∀ h' q, (i_sc g n f p D C).1 = some q → q ≤ n → c_fr h0 h' → P (some (.int (nI q))) h') → RP k_scn_scan 24 [(0, .ref 6), (3, .int (nI p))] [] h P := by
  intro f
  induction f with
  | zero =>
    intro p h D C hf hp hX hS hg ht hfr kend kerr
    obtain ⟨hR, hc, hn, h40, hv⟩ := id hS
    refine rp_iload_n (i := 3) d_scn_scan_24 rfl rfl ?_
    refine rp_aload_n (i := 0) d_scn_scan_25 rfl rfl ?_
    refine rp_getI d_scn_scan_26 f_scn_19 rfl ?_
    refine rp_icmp_ge (tgt := 54) d_scn_scan_29 (by decide) (fun c29 => ?_) (fun c29 => ?_)
    · refine rp_iconst (v := (-1)) d_scn_scan_54 (by decide) ?_
      refine rp_ireturn (ty := .int) d_scn_scan_55 rfl rfl ?_
      exact kend h D C rfl hS ht (by omega) hfr
    · exact absurd (by rw [hn]; exact nI_le (by omega) (by omega)) c29
  | succ f ih =>
    intro p h D C hf hp hX hS hg ht hfr kend kerr
    obtain ⟨hR, hc, hn, h40, hv⟩ := id hS
    rcases Nat.lt_or_ge p n with hlt | hge
    · by_cases e59 : g p = 59
      · have es : i_sc g n (f + 1) p D C = i_sc g n f (p + 1) (D ++ [C]) [] := by rw [i_sc, if_neg (by omega), if_pos e59]
        rw [es] at kend kerr
        have et : c_tk (c_g h n) n p = some ([(11, 59, 0)], 1) := c_tk_semi (by rw [hg]; exact e59)
        refine rp_iload_n (i := 3) d_scn_scan_24 rfl rfl ?_
        refine rp_aload_n (i := 0) d_scn_scan_25 rfl rfl ?_
        refine rp_getI d_scn_scan_26 f_scn_19 rfl ?_
        refine rp_icmp_ge (tgt := 54) d_scn_scan_29 (by decide) (fun c29 => ?_) (fun c29 => ?_)
        · exact absurd c29 (by rw [hn]; exact nI_ge hlt (by omega))
        · refine rp_aload_n (i := 0) d_scn_scan_32 rfl rfl ?_
          refine rp_iload_n (i := 3) d_scn_scan_33 rfl rfl ?_
          refine rp_callV1 d_scn_scan_34 q_scn_scan_34 (Or.inl ⟨_, _, _, rfl, rfl⟩) (Nat.le_of_ble_eq_true rfl) (Nat.le_of_ble_eq_true rfl) ?_
          refine s_scn_scanToken hS ht.1 (by omega) rfl hlt hX ?_
          rw [et]
          obtain ⟨a1, a2, a3, a4⟩ := c_adds_all [(11, 59, 0)] h0 h _ hS ht hfr (by simp; omega)
          change RP _ _ _ _ (c_adds h [(11, 59, 0)]) _
          generalize c_adds h [(11, 59, 0)] = h1 at a1 a2 a3 a4 ⊢
          refine rp_istore (i := 4) d_scn_scan_37 rfl (Nat.le_of_ble_eq_true rfl) ?_
          refine rp_iload (i := 4) d_scn_scan_39 rfl ?_
          refine rp_if_gt (tgt := 46) d_scn_scan_41 (by decide) (fun c41 => ?_) (fun c41 => ?_)
          · refine rp_iload_n (i := 3) d_scn_scan_46 rfl rfl ?_
            refine rp_iload (i := 4) d_scn_scan_47 rfl ?_
            refine rp_iadd d_scn_scan_49 ?_
            refine rp_istore_n (i := 3) d_scn_scan_50 rfl rfl (Nat.le_of_ble_eq_true rfl) ?_
            refine rp_goto (tgt := 24) d_scn_scan_51 (by decide) ?_
            refine rp_lv [(0, .ref 6), (3, .int (nI (p + 1)))] (by simp only [nI_succ]; rfl) ?_
            have ex : i_X D C ++ [(11, 59, 0)] = i_X (D ++ [C]) [] := by simp [i_X]
            rw [ex] at a3
            exact ih (p + 1) h1 (D ++ [C]) [] (by omega) (by omega) (by rw [← ex]; simp; omega) a1 (a2.trans hg) a3 a4 kend kerr
          · exact absurd (by decide) c41
      · have et := c_tk_eq (c := h.2.2.2 1) hv hlt (by have := congrFun hg p; rw [show r_at (h.2.2.2 1) n p = g p from this]; exact e59)
        rw [show r_at (h.2.2.2 1) n = g from hg] at et
        by_cases e0 : (r_tok g n p).1 = 0
        · have es : i_sc g n (f + 1) p D C = (some p, D, C) := by rw [i_sc, if_neg (by omega), if_neg e59, if_pos e0]
          rw [es] at kend kerr
          rw [c_of, if_pos e0] at et
          refine rp_iload_n (i := 3) d_scn_scan_24 rfl rfl ?_
          refine rp_aload_n (i := 0) d_scn_scan_25 rfl rfl ?_
          refine rp_getI d_scn_scan_26 f_scn_19 rfl ?_
          refine rp_icmp_ge (tgt := 54) d_scn_scan_29 (by decide) (fun c29 => ?_) (fun c29 => ?_)
          · exact absurd c29 (by rw [hn]; exact nI_ge hlt (by omega))
          · refine rp_aload_n (i := 0) d_scn_scan_32 rfl rfl ?_
            refine rp_iload_n (i := 3) d_scn_scan_33 rfl rfl ?_
            refine rp_callV1 d_scn_scan_34 q_scn_scan_34 (Or.inl ⟨_, _, _, rfl, rfl⟩) (Nat.le_of_ble_eq_true rfl) (Nat.le_of_ble_eq_true rfl) ?_
            refine s_scn_scanToken hS ht.1 (by omega) rfl hlt hX ?_
            rw [hg, et]
            change RP _ _ _ (_ :: _) h _
            refine rp_istore (i := 4) d_scn_scan_37 rfl (Nat.le_of_ble_eq_true rfl) ?_
            refine rp_iload (i := 4) d_scn_scan_39 rfl ?_
            refine rp_if_gt (tgt := 46) d_scn_scan_41 (by decide) (fun c41 => ?_) (fun c41 => ?_)
            · exact absurd c41 (by decide)
            · refine rp_iload_n (i := 3) d_scn_scan_44 rfl rfl ?_
              refine rp_ireturn (ty := .int) d_scn_scan_45 rfl rfl ?_
              exact kerr h p rfl (by omega) hfr
        · have es : i_sc g n (f + 1) p D C = i_sc g n f (r_tok g n p).2.2.2 D (C ++ [i_of g p (r_tok g n p)]) := by rw [i_sc, if_neg (by omega), if_neg e59, if_neg e0]
          rw [es] at kend kerr
          rw [c_of, if_neg e0] at et
          have hend := r_tok_end (c := h.2.2.2 1) hlt (by rw [show r_at (h.2.2.2 1) n = g from hg]; exact e0)
          have hbl := c_blk_len (c := h.2.2.2 1) hlt (by rw [show r_at (h.2.2.2 1) n = g from hg]; exact e0)
          rw [show r_at (h.2.2.2 1) n = g from hg] at hend hbl
          have ex : i_X D C ++ c_blk g p (r_tok g n p) = i_X D (C ++ [i_of g p (r_tok g n p)]) := by simp [i_X, i_of]
          refine rp_iload_n (i := 3) d_scn_scan_24 rfl rfl ?_
          refine rp_aload_n (i := 0) d_scn_scan_25 rfl rfl ?_
          refine rp_getI d_scn_scan_26 f_scn_19 rfl ?_
          refine rp_icmp_ge (tgt := 54) d_scn_scan_29 (by decide) (fun c29 => ?_) (fun c29 => ?_)
          · exact absurd c29 (by rw [hn]; exact nI_ge hlt (by omega))
          · refine rp_aload_n (i := 0) d_scn_scan_32 rfl rfl ?_
            refine rp_iload_n (i := 3) d_scn_scan_33 rfl rfl ?_
            refine rp_callV1 d_scn_scan_34 q_scn_scan_34 (Or.inl ⟨_, _, _, rfl, rfl⟩) (Nat.le_of_ble_eq_true rfl) (Nat.le_of_ble_eq_true rfl) ?_
            refine s_scn_scanToken hS ht.1 (by omega) rfl hlt hX ?_
            rw [hg, et]
            obtain ⟨a1, a2, a3, a4⟩ := c_adds_all (c_blk g p (r_tok g n p)) h0 h _ hS ht hfr (by omega)
            change RP _ _ _ (.int (nI ((r_tok g n p).2.2.2 - p)) :: _) (c_adds h (c_blk g p (r_tok g n p))) _
            generalize c_adds h (c_blk g p (r_tok g n p)) = h1 at a1 a2 a3 a4 ⊢
            refine rp_istore (i := 4) d_scn_scan_37 rfl (Nat.le_of_ble_eq_true rfl) ?_
            refine rp_iload (i := 4) d_scn_scan_39 rfl ?_
            refine rp_if_gt (tgt := 46) d_scn_scan_41 (by decide) (fun c41 => ?_) (fun c41 => ?_)
            · refine rp_iload_n (i := 3) d_scn_scan_46 rfl rfl ?_
              refine rp_iload (i := 4) d_scn_scan_47 rfl ?_
              refine rp_iadd d_scn_scan_49 ?_
              refine rp_istore_n (i := 3) d_scn_scan_50 rfl rfl (Nat.le_of_ble_eq_true rfl) ?_
              refine rp_goto (tgt := 24) d_scn_scan_51 (by decide) ?_
              refine rp_lv [(0, .ref 6), (3, .int (nI (r_tok g n p).2.2.2))] (by rw [show nI (r_tok g n p).2.2.2 = nI p + nI ((r_tok g n p).2.2.2 - p) by rw [nI_add]; congr 1; omega]; rfl) ?_
              rw [ex] at a3
              exact ih _ h1 D _ (by omega) (by omega) (by rw [← ex, List.length_append]; omega) a1 (a2.trans hg) a3 a4 kend kerr
            · exact absurd (nI_lt (a := 0) (by omega) (by omega)) c41
    · have es : i_sc g n (f + 1) p D C = (none, D, C) := by rw [i_sc, if_pos hge]
      refine rp_iload_n (i := 3) d_scn_scan_24 rfl rfl ?_
      refine rp_aload_n (i := 0) d_scn_scan_25 rfl rfl ?_
      refine rp_getI d_scn_scan_26 f_scn_19 rfl ?_
      refine rp_icmp_ge (tgt := 54) d_scn_scan_29 (by decide) (fun c29 => ?_) (fun c29 => ?_)
      · refine rp_iconst (v := (-1)) d_scn_scan_54 (by decide) ?_
        refine rp_ireturn (ty := .int) d_scn_scan_55 rfl rfl ?_
        exact kend h D C es hS ht (by omega) hfr
      · exact absurd (by rw [hn]; exact nI_le hge (by omega)) c29
