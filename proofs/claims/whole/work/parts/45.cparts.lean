/-! THE CLASS: readParts and compile -/
def pf (h0 h : cf_H) : Prop := (∀ o k, ¬ (o = 2 ∧ k = 3) → ¬ (9 ≤ o ∧ o ≤ 11) → ¬ (o = 0 ∧ k = 6) → ¬ (o = 6 ∧ k = 2) → h.1 o k = h0.1 o k) ∧ (∀ o k, ¬ (9 ≤ o ∧ o ≤ 11) → h.2.1 o k = h0.2.1 o k) ∧ (∀ o k, ¬ (o = 6 ∧ k = 1) → h.2.2.1 o k = h0.2.2.1 o k) ∧ (∀ o, ¬ (o = 3 ∨ o = 4 ∨ o = 5) → h.2.2.2 o = h0.2.2.2 o)
theorem pf.rf (h : cf_H) : pf h h := ⟨fun _ _ _ _ _ _ => rfl, fun _ _ _ => rfl, fun _ _ _ => rfl, fun _ _ => rfl⟩
theorem pf.tr {a b c : cf_H} (f : pf a b) (g : pf b c) : pf a c := ⟨fun o k e1 e2 e3 e4 => (g.1 o k e1 e2 e3 e4).trans (f.1 o k e1 e2 e3 e4), fun o k e => (g.2.1 o k e).trans (f.2.1 o k e), fun o k e => (g.2.2.1 o k e).trans (f.2.2.1 o k e), fun o e => (g.2.2.2 o e).trans (f.2.2.2 o e)⟩
theorem pf.s {h0 h h' : cf_H} {o : Nat} (f : pf h0 h) (ho : 9 ≤ o ∧ o ≤ 11) (g : s_fr o h h') : pf h0 h' := ⟨fun x k e1 e2 e3 e4 => (g.1 x k (fun z => e2 (by omega))).trans (f.1 x k e1 e2 e3 e4), fun x k e => (g.2.1 x k (fun z => e (by omega))).trans (f.2.1 x k e), fun x k e => by rw [g.2.2.1]; exact f.2.2.1 x k e, fun x e => (g.2.2.2 x (fun z => e (by omega))).trans (f.2.2.2 x e)⟩
theorem pf.pI {h0 h : cf_H} (f : pf h0 h) (v : Int32) : pf h0 (cf_pI h 0 6 v) := ⟨fun x j e1 e2 e3 e4 => by rw [g_I1, if_neg e3]; exact f.1 x j e1 e2 e3 e4, f.2.1, f.2.2.1, f.2.2.2⟩
def pg (h0 h : cf_H) : Prop := (∀ o k, ¬ (o = 2 ∧ k = 3) → ¬ (9 ≤ o ∧ o ≤ 11) → ¬ (o = 0 ∧ (k = 5 ∨ k = 6)) → ¬ (o = 6 ∧ k = 2) → h.1 o k = h0.1 o k) ∧ (∀ o k, ¬ (9 ≤ o ∧ o ≤ 11) → h.2.1 o k = h0.2.1 o k) ∧ (∀ o k, ¬ (o = 6 ∧ k = 1) → h.2.2.1 o k = h0.2.2.1 o k) ∧ (∀ o, ¬ (o = 3 ∨ o = 4 ∨ o = 5) → h.2.2.2 o = h0.2.2.2 o)
theorem pg.f {a b c : cf_H} (f : pg a b) (g : pf b c) : pg a c := ⟨fun o k e1 e2 e3 e4 => (g.1 o k e1 e2 (fun z => e3 ⟨z.1, Or.inr z.2⟩) e4).trans (f.1 o k e1 e2 e3 e4), fun o k e => (g.2.1 o k e).trans (f.2.1 o k e), fun o k e => (g.2.2.1 o k e).trans (f.2.2.1 o k e), fun o e => (g.2.2.2 o e).trans (f.2.2.2 o e)⟩
theorem pg.c {h0 h h' : cf_H} (f : pg h0 h) (g : c_fr h h') : pg h0 h' := ⟨fun x k e1 e2 e3 e4 => (g.1 x k e1).trans (f.1 x k e1 e2 e3 e4), fun x k e => by rw [g.2.1]; exact f.2.1 x k e, fun x k e => by rw [g.2.2.1]; exact f.2.2.1 x k e, fun x e => (g.2.2.2 x e).trans (f.2.2.2 x e)⟩
theorem pg.pI {h0 h : cf_H} (f : pg h0 h) (v : Int32) : pg h0 (cf_pI h 0 5 v) := ⟨fun x j e1 e2 e3 e4 => by rw [g_I1, if_neg (fun z => e3 ⟨z.1, Or.inl z.2⟩)]; exact f.1 x j e1 e2 e3 e4, f.2.1, f.2.2.1, f.2.2.2⟩
theorem pg.ok {h0 h : cf_H} (f : pg h0 h) (hR : cf_ok h0) : cf_ok h := by
  intro o k q e
  by_cases z : o = 6 ∧ k = 1
  · rw [z.1, z.2] at e; exact absurd e (by simp [cf_R0])
  · rw [f.2.2.1 o k z]; exact hR o k q e
theorem pf.ok {h0 h : cf_H} (f : pf h0 h) (hR : cf_ok h0) : cf_ok h := by
  intro o k q e
  by_cases z : o = 6 ∧ k = 1
  · rw [z.1, z.2] at e; exact absurd e (by simp [cf_R0])
  · rw [f.2.2.1 o k z]; exact hR o k q e
theorem cf_pR_n {h : cf_H} {o k a b : Nat} {x : Option Nat} (z : ¬ (a = o ∧ b = k)) : (cf_pR h o k x).2.2.1 a b = h.2.2.1 a b := by
  by_cases ha : a = o
  · exact cf_u2_k h.2.2.1 x (fun e => z ⟨ha, e⟩)
  · exact cf_u2_o h.2.2.1 x ha
/-- section s is read and well made -/
def dn (TS XS : List r_K) (h : cf_H) (L : List (List i_It)) (s : Nat) (S : List i_It) : Prop := ∃ XS0, secAt TS XS0 (pR L s) (pC L s) S ∧ s_W h (9 + s) XS0 (pC L s) (pC L s + (bK S).length) ∧ r_wm (r_tyl TS) (pR L s) (pR L s + S.length) = true ∧ XS0.length = XS.length ∧ (∀ j, pC L s ≤ j → j < pC L s + (bK S).length → XS[j]? = (x_rd XS0 (pC L s) (pC L s + (bK S).length))[j]?) ∧ (∀ j, x_ty XS0 j = x_ty XS j)
def fl6 (h : cf_H) (t : Nat) : Bool := !decide (h.1 (9 + t) 3 = 0)
theorem x_any_end (p : Nat → Bool) (n : Nat) : x_any p 0 (n + 1) = (x_any p 0 n || p n) := by
  unfold x_any
  rw [cf_cnt_add, Nat.zero_add]
  have e : cf_cnt p n 1 = if p n = true then 1 else 0 := by
    show (bif p n then 1 else 0) + 0 = _
    cases p n <;> rfl
  rw [e]
  by_cases q : p n = true
  · rw [if_pos q, q]; simp
  · rw [if_neg q, Bool.eq_false_iff.mpr q]; simp
theorem x_any_cg {p q : Nat → Bool} {i n : Nat} (h : ∀ j, i ≤ j → j < i + n → p j = q j) : x_any p i n = x_any q i n := by
  unfold x_any; rw [cf_cnt_congr _ _ h]
theorem s_W.fr {h h' : cf_H} {o o' : Nat} {XS : List r_K} {a b : Nat} (w : s_W h o XS a b) (g1 : ∀ k, h'.1 o k = h.1 o k) (g2 : ∀ k, h'.2.1 o k = h.2.1 o k) : s_W h' o XS a b := by
  unfold s_W s_G s_num at *
  simp only [g1, g2]
  exact w
theorem x_rd_at {XS : List r_K} {a b j : Nat} (h : ¬ (a ≤ j ∧ j < b)) : (x_rd XS a b)[j]? = XS[j]? := by
  unfold x_rd
  split
  · rfl
  · rw [x_mn_at]
    have : (decide (a ≤ j) && decide (j < b) && x_mi XS a b j) = false := by
      rw [← Bool.decide_and, decide_eq_false h]; rfl
    rw [this]
    cases XS[j]? <;> rfl
theorem x_rd_ty (XS : List r_K) (a b j : Nat) : x_ty (x_rd XS a b) j = x_ty XS j := by
  unfold x_rd
  split
  · rfl
  · exact x_mn_ty _ _ _ _ _
theorem x_rd_len (XS : List r_K) (a b : Nat) : (x_rd XS a b).length = XS.length := by
  unfold x_rd
  split
  · rfl
  · exact x_mn_len _ _ _ _
theorem oS_le (S : List i_It) (k : Nat) : oS S k ≤ (bK S).length := by
  unfold oS
  have e : bK S = bK (S.take k) ++ bK (S.drop k) := by rw [← bK_app, List.take_append_drop]
  rw [e, List.length_append]; omega
theorem pC_mono {L : List (List i_It)} {s t : Nat} (h : s ≤ t) : pC L s ≤ pC L t := by
  unfold pC
  have : L.take s = (L.take t).take s := by rw [List.take_take, Nat.min_eq_left h]
  rw [this]
  conv => rhs; rw [← List.take_append_drop s (L.take t)]
  rw [List.flatMap_append, List.length_append]; omega
theorem secAt.keep {TS XS XS' : List r_K} {A a : Nat} {S : List i_It} (H : secAt TS XS A a S) (h : ∀ j, a ≤ j → j < a + (bK S).length → XS'[j]? = XS[j]?) : secAt TS XS' A a S := by
  refine ⟨H.1, fun k it i q h1 h2 => ?_⟩
  rw [h _ (by omega) ?_]
  · exact H.2 k it i q h1 h2
  · have hi : i < it.2.length := by
      apply Classical.byContradiction; intro z; rw [List.getElem?_eq_none (by omega)] at h2; exact absurd h2 (by simp)
    have := oS_S h1
    have := oS_le S (k + 1)
    omega
theorem fd11 {c : Nat → Int32} {n : Nat} {D : List (List i_It)} {C : List i_It} (hK : ∀ S ∈ D ++ [C], iKs c n S) {s : Nat} {S : List i_It} (hS : (D ++ [C])[s]? = some S) : r_fd (x_ty (i_X D C)) 11 (pC (D ++ [C]) s) (i_X D C).length = pC (D ++ [C]) s + (bK S).length := by
  obtain ⟨h1, h2, h3, h4, h5⟩ := sec_of hS
  have hno : ∀ k, pC (D ++ [C]) s ≤ k → k < pC (D ++ [C]) s + (bK S).length → ¬ x_ty (i_X D C) k = 11 := by
    intro k k1 k2
    have hmem : S ∈ D ++ [C] := List.mem_of_getElem? hS
    have I := h1.isT (hK S hmem)
    have e0 := oF_A S (pR (D ++ [C]) s) (pC (D ++ [C]) s)
    have e1 := oF_B S (pR (D ++ [C]) s) (pC (D ++ [C]) s)
    have key : ∀ m i, i + m = pR (D ++ [C]) s + S.length → pR (D ++ [C]) s ≤ i → oF S (pR (D ++ [C]) s) (pC (D ++ [C]) s) i ≤ k → ¬ x_ty (i_X D C) k = 11 := by
      intro m
      induction m with
      | zero => intro i e _ hk; have e : i = _ := e; rw [e, e1] at hk; omega
      | succ m ih =>
        intro i e hi hk
        by_cases hlt : oF S (pR (D ++ [C]) s) (pC (D ++ [C]) s) (i + 1) ≤ k
        · exact ih (i + 1) (by omega) (by omega) hlt
        · obtain ⟨_, ⟨a1, a2⟩ | ⟨b1, b2, b3⟩⟩ := I i hi (by omega)
          · rcases a2 k hk (by omega) with z | z <;> rw [z] <;> decide
          · have : k = oF S (pR (D ++ [C]) s) (pC (D ++ [C]) s) i := by omega
            rw [this, b2]
            unfold sOk at b3
            rcases b3 with h | h | h | h | h | h | h | h | h <;> rw [h] <;> decide
    exact key S.length _ rfl (Nat.le_refl _) (by rw [e0]; exact k1)
  rw [r_fd_skip (bK S).length _ (pC (D ++ [C]) s + (bK S).length) rfl h3 hno]
  by_cases c : s < D.length
  · have h4 := h4 c
    have hl : pC (D ++ [C]) s + (bK S).length < (i_X D C).length := by
      apply Classical.byContradiction; intro z; rw [List.getElem?_eq_none (by omega)] at h4; exact absurd h4 (by simp)
    rw [r_fd_S hl, if_pos (x_ty_of h4).1]
  · have hs : s < D.length + 1 := by
      apply Classical.byContradiction; intro z
      rw [List.getElem?_eq_none (by simp; omega)] at hS; exact absurd hS (by simp)
    rw [(h5 (by omega)).1, r_fd_n]

set_option maxHeartbeats 4000000 in
set_option maxRecDepth 100000 in
theorem l_fmt_parts {c : Nat → Int32} {n : Nat} {D : List (List i_It)} {C : List i_It} {h0 : cf_H} {P : Option Value → cf_H → Prop} (hK : ∀ S ∈ D ++ [C], iKs c n S) (hR : cf_ok h0) (hl3 : D.length + 1 ≤ 3) (h40 : (i_X D C).length ≤ 40) (hT40 : (i_T D C).length ≤ 40) (kok : ∀ h' XS, x_B h' XS → (∀ j, x_ty XS j = x_ty (i_X D C) j) → XS.length = (i_X D C).length → (∀ t S, (D ++ [C])[t]? = some S → dn (i_T D C) XS h' (D ++ [C]) t S) → h'.1 0 6 = cf_b (x_any (fl6 h') 0 (D.length + 1)) → pf h0 h' → P (some (.int (-1))) h') (kbad : ∀ h' q Q, (∀ t S, t < q → (D ++ [C])[t]? = some S → r_wm (r_tyl (i_T D C)) (pR (D ++ [C]) t) (pR (D ++ [C]) t + S.length) = true) → (D ++ [C])[q]? = some Q → r_wm (r_tyl (i_T D C)) (pR (D ++ [C]) q) (pR (D ++ [C]) q + Q.length) = false → q < D.length + 1 → pf h0 h' → P (some (.int (nI q))) h') : ∀ (m s : Nat) (h : cf_H) (XS : List r_K), s + m = D.length + 1 → x_B h XS → (∀ j, x_ty XS j = x_ty (i_X D C) j) → XS.length = (i_X D C).length → (∀ t S, s ≤ t → (D ++ [C])[t]? = some S → secAt (i_T D C) XS (pR (D ++ [C]) t) (pC (D ++ [C]) t) S) → (∀ t S, t < s → (D ++ [C])[t]? = some S → dn (i_T D C) XS h (D ++ [C]) t S) → h.1 0 6 = cf_b (x_any (fl6 h) 0 s) → pf h0 h → RP k_fmt_readParts 9 [(0, .ref 0), (1, .int (nI (D.length + 1))), (2, .int (nI (pC (D ++ [C]) s))), (3, .int (nI s))] [] h P := by
  intro m
  induction m with
  | zero =>
    intro s h XS e hB hty hlen hsec hdn hfl hf
    have e : s = D.length + 1 := e
    refine rp_iload_n (i := 3) d_fmt_readParts_9 rfl rfl ?_
    refine rp_iload_n (i := 1) d_fmt_readParts_10 rfl rfl ?_
    refine rp_icmp_ge (tgt := 93) d_fmt_readParts_11 (by decide) (fun c11 => ?_) (fun c11 => ?_)
    · refine rp_iconst (v := (-1)) d_fmt_readParts_93 (by decide) ?_
      refine rp_ireturn (ty := .int) d_fmt_readParts_94 rfl rfl ?_
      refine kok h XS hB hty hlen (fun t S hS => hdn t S ?_ hS) (by rw [← e]; exact hfl) hf
      rw [e]
      apply Classical.byContradiction; intro z
      rw [List.getElem?_eq_none (by simp; omega)] at hS; exact absurd hS (by simp)
    · exact absurd (by rw [e]; exact Int32.le_refl _) c11
  | succ m ih =>
    intro s h XS e hB hty hlen hsec hdn hfl hf
    have hR1 := hf.ok hR
    have hsl : s < (D ++ [C]).length := by simp; omega
    obtain ⟨S, hS⟩ : ∃ S, (D ++ [C])[s]? = some S := ⟨_, List.getElem?_eq_getElem hsl⟩
    have hend := fd11 hK hS
    have ety : x_ty XS = x_ty (i_X D C) := funext hty
    rw [← ety] at hend
    obtain ⟨_, w2, w3, _, _⟩ := sec_of hS
    have h40' := hB.2.2
    have hRA : cf_RA (nI s).toNatClampNeg = some (9 + s) := by rw [nI_clamp (by omega)]; have : s = 0 ∨ s = 1 ∨ s = 2 := by omega
                                                               rcases this with z | z | z <;> rw [z] <;> rfl
    have ho := s_ho (o := 9 + s) (by omega)
    have hmem : S ∈ D ++ [C] := List.mem_of_getElem? hS
    have I := (hsec s S (Nat.le_refl _) hS).isT (hK S hmem)
    have hwm : r_wm (r_tyl (i_T D C)) (pR (D ++ [C]) s) (pR (D ++ [C]) s + S.length) = c_rd XS (pC (D ++ [C]) s) (pC (D ++ [C]) s + (bK S).length) := by
      rw [rd_wm (by omega) (by omega)]
      have := I.wm (by omega) (by omega) (by rw [oF_B]; omega)
      rw [oF_A, oF_B] at this
      exact this.symm

    refine rp_iload_n (i := 3) d_fmt_readParts_9 rfl rfl ?_
    refine rp_iload_n (i := 1) d_fmt_readParts_10 rfl rfl ?_
    refine rp_icmp_ge (tgt := 93) d_fmt_readParts_11 (by decide) (fun c11 => ?_) (fun c11 => ?_)
    · exact absurd c11 (nI_ge (by omega) (by omega))
    · refine rp_aload_n (i := 0) d_fmt_readParts_14 rfl rfl ?_
      refine rp_getR d_fmt_readParts_15 f_fmt_20 rfl (hR1 _ _ _ rfl) ?_
      refine rp_bipush (v := 11) d_fmt_readParts_18 (by decide) ?_
      refine rp_iload_n (i := 2) d_fmt_readParts_20 rfl rfl ?_
      refine rp_aload_n (i := 0) d_fmt_readParts_21 rfl rfl ?_
      refine rp_getR d_fmt_readParts_22 f_fmt_20 rfl (hR1 _ _ _ rfl) ?_
      refine rp_getI d_fmt_readParts_25 f_fmt_86 rfl ?_
      refine rp_callV3 d_fmt_readParts_28 q_fmt_readParts_144 (Or.inl ⟨_, _, _, rfl, rfl⟩) (Nat.le_of_ble_eq_true rfl) (Nat.le_of_ble_eq_true rfl) ?_
      refine t_find hB rfl hB.2.1.1 (by omega) hB.2.2 ?_
      refine rp_istore (i := 4) d_fmt_readParts_31 rfl (Nat.le_of_ble_eq_true rfl) ?_
      refine rp_aload_n (i := 0) d_fmt_readParts_33 rfl rfl ?_
      refine rp_getR d_fmt_readParts_34 f_fmt_35 rfl (hR1 _ _ _ rfl) ?_
      refine rp_iload_n (i := 3) d_fmt_readParts_37 rfl rfl ?_
      refine rp_aaload d_fmt_readParts_38 rfl (vp_in_nI (by omega) (by decide)) hRA ?_
      refine rp_aload_n (i := 0) d_fmt_readParts_39 rfl rfl ?_
      refine rp_getR d_fmt_readParts_40 f_fmt_20 rfl (hR1 _ _ _ rfl) ?_
      refine rp_iload_n (i := 2) d_fmt_readParts_43 rfl rfl ?_
      refine rp_iload (i := 4) d_fmt_readParts_44 rfl ?_
      refine rp_callV3 d_fmt_readParts_46 q_fmt_readParts_147 (Or.inl ⟨_, _, _, ho, rfl⟩) (Nat.le_of_ble_eq_true rfl) (Nat.le_of_ble_eq_true rfl) ?_
      rw [hlen, hend]
      refine s_sec_read (o := 9 + s) (by omega) hB rfl rfl (by omega) (by omega) (fun h' g1 g2 g3 g4 => ?_) (fun h' g1 g2 => ?_)
      · have h6 : h'.1 0 6 = cf_b (x_any (fl6 h) 0 s) := (g2.1 0 6 (by omega)).trans hfl
        refine rp_if_ne (tgt := 54) d_fmt_readParts_49 (by decide) (fun c49 => ?_) (fun c49 => ?_)
        · refine rp_aload_n (i := 0) d_fmt_readParts_54 rfl rfl ?_
          refine rp_aload_n (i := 0) d_fmt_readParts_55 rfl rfl ?_
          refine rp_getI d_fmt_readParts_56 f_fmt_43 rfl ?_
          refine rp_if_ne (tgt := 74) d_fmt_readParts_59 (by decide) (fun c59 => ?_) (fun c59 => ?_)
          · refine rp_iconst (v := 1) d_fmt_readParts_74 (by decide) ?_
            refine rp_goto (tgt := 79) d_fmt_readParts_75 (by decide) ?_
            refine rp_putI d_fmt_readParts_79 f_fmt_43 rfl (by first | rfl | decide | assumption) (by first | rfl | decide | assumption) ?_
            refine rp_iload (i := 4) d_fmt_readParts_82 rfl ?_
            refine rp_iconst (v := 1) d_fmt_readParts_84 (by decide) ?_
            refine rp_iadd d_fmt_readParts_85 ?_
            refine rp_istore_n (i := 2) d_fmt_readParts_86 rfl rfl (Nat.le_of_ble_eq_true rfl) ?_
            refine rp_iinc (i := 3) (y := 1) d_fmt_readParts_87 rfl (by decide) rfl (Nat.le_of_ble_eq_true rfl) ?_
            refine rp_goto (tgt := 9) d_fmt_readParts_90 (by decide) ?_
            have hcT : x_any (fl6 h) 0 s = true := by cases q : x_any (fl6 h) 0 s with | true => rfl | false => exact absurd (by rw [h6, q]; rfl) c59
            refine rp_lv [(0, .ref 0), (1, .int (nI (D.length + 1))), (2, .int (nI (pC (D ++ [C]) (s + 1)))), (3, .int (nI (s + 1)))] (by rw [pC_S hS, nI_1, nI_1]; rfl) ?_
            refine ih (s + 1) (cf_pI h' 0 6 (cf_b true)) (x_rd XS (pC (D ++ [C]) s) (pC (D ++ [C]) s + (bK S).length)) (by omega) ⟨g3.1, g3.2.1, g3.2.2⟩ (fun j => by rw [x_rd_ty]; exact hty j) (by rw [x_rd_len]; exact hlen) ?_ ?_ ?_ ((hf.s (by omega) g2).pI _)
            · intro t T ht hT
              refine (hsec t T (by omega) hT).keep (fun j j1 j2 => x_rd_at (fun z => ?_))
              have := pC_mono (L := D ++ [C]) (show s + 1 ≤ t by omega)
              have := pC_S hS
              omega
            · intro t T ht hT
              by_cases e : t = s
              · subst e
                have eT : T = S := by rw [hS] at hT; exact (Option.some.inj hT).symm
                subst eT
                exact ⟨XS, hsec t T (Nat.le_refl _) hS, g4.fr (o' := 0) (fun k => by rw [g_I1, if_neg (by omega)]) (fun k => rfl), hwm ▸ g1, (x_rd_len _ _ _).symm, fun j j1 j2 => rfl, fun j => (x_rd_ty _ _ _ _).symm⟩
              · obtain ⟨X0, d1, d2, d3, d4, d5, d6⟩ := hdn t T (by omega) hT
                have q1 := pC_mono (L := D ++ [C]) (show t + 1 ≤ s by omega)
                have q2 := pC_S hT
                refine ⟨X0, d1, d2.fr (o' := 0) (fun k => by rw [g_I1, if_neg (by omega)]; exact g2.1 _ _ (by omega)) (fun k => g2.2.1 _ _ (by omega)), d3, by rw [x_rd_len]; exact d4, fun j j1 j2 => ?_, fun j => (d6 j).trans (x_rd_ty _ _ _ _).symm⟩
                rw [x_rd_at (fun z => by omega)]; exact d5 j j1 j2
            · have e6 : x_any (fl6 (cf_pI h' 0 6 (cf_b true))) 0 s = x_any (fl6 h) 0 s := x_any_cg (fun j j1 j2 => by unfold fl6; rw [g_I1, if_neg (by omega), g2.1 _ _ (by omega)])
              rw [cf_pI_s, x_any_end]
              have e7 : fl6 (cf_pI h' 0 6 (cf_b true)) s = fl6 h' s := by unfold fl6; rw [g_I1, if_neg (by omega)]
              rw [e6, e7]
              congr 1
              rw [hcT]; rfl
          · refine rp_aload_n (i := 0) d_fmt_readParts_62 rfl rfl ?_
            refine rp_getR d_fmt_readParts_63 f_fmt_35 rfl (g3.1 _ _ _ rfl) ?_
            refine rp_iload_n (i := 3) d_fmt_readParts_66 rfl rfl ?_
            refine rp_aaload d_fmt_readParts_67 rfl (vp_in_nI (by omega) (by decide)) hRA ?_
            refine rp_callV0 d_fmt_readParts_68 q_fmt_readParts_151 (Or.inl ⟨_, _, _, ho, rfl⟩) (Nat.le_of_ble_eq_true rfl) (Nat.le_of_ble_eq_true rfl) ?_
            refine s_sec_hasCondition (o := 9 + s) (by omega) ?_
            refine rp_if_eq (tgt := 78) d_fmt_readParts_71 (by decide) (fun c71 => ?_) (fun c71 => ?_)
            · refine rp_iconst (v := 0) d_fmt_readParts_78 (by decide) ?_
              refine rp_putI d_fmt_readParts_79 f_fmt_43 rfl (by first | rfl | decide | assumption) (by first | rfl | decide | assumption) ?_
              refine rp_iload (i := 4) d_fmt_readParts_82 rfl ?_
              refine rp_iconst (v := 1) d_fmt_readParts_84 (by decide) ?_
              refine rp_iadd d_fmt_readParts_85 ?_
              refine rp_istore_n (i := 2) d_fmt_readParts_86 rfl rfl (Nat.le_of_ble_eq_true rfl) ?_
              refine rp_iinc (i := 3) (y := 1) d_fmt_readParts_87 rfl (by decide) rfl (Nat.le_of_ble_eq_true rfl) ?_
              refine rp_goto (tgt := 9) d_fmt_readParts_90 (by decide) ?_
              have hcF : x_any (fl6 h) 0 s = false := by cases q : x_any (fl6 h) 0 s with | false => rfl | true => exact absurd (c59.symm.trans (by rw [h6, q])) (by decide)
              have hsF : fl6 h' s = false := by cases q : fl6 h' s with | false => rfl | true => exact absurd (c71.symm.trans (by unfold fl6 at q; rw [q])) (by decide)
              refine rp_lv [(0, .ref 0), (1, .int (nI (D.length + 1))), (2, .int (nI (pC (D ++ [C]) (s + 1)))), (3, .int (nI (s + 1)))] (by rw [pC_S hS, nI_1, nI_1]; rfl) ?_
              refine ih (s + 1) (cf_pI h' 0 6 (cf_b false)) (x_rd XS (pC (D ++ [C]) s) (pC (D ++ [C]) s + (bK S).length)) (by omega) ⟨g3.1, g3.2.1, g3.2.2⟩ (fun j => by rw [x_rd_ty]; exact hty j) (by rw [x_rd_len]; exact hlen) ?_ ?_ ?_ ((hf.s (by omega) g2).pI _)
              · intro t T ht hT
                refine (hsec t T (by omega) hT).keep (fun j j1 j2 => x_rd_at (fun z => ?_))
                have := pC_mono (L := D ++ [C]) (show s + 1 ≤ t by omega)
                have := pC_S hS
                omega
              · intro t T ht hT
                by_cases e : t = s
                · subst e
                  have eT : T = S := by rw [hS] at hT; exact (Option.some.inj hT).symm
                  subst eT
                  exact ⟨XS, hsec t T (Nat.le_refl _) hS, g4.fr (o' := 0) (fun k => by rw [g_I1, if_neg (by omega)]) (fun k => rfl), hwm ▸ g1, (x_rd_len _ _ _).symm, fun j j1 j2 => rfl, fun j => (x_rd_ty _ _ _ _).symm⟩
                · obtain ⟨X0, d1, d2, d3, d4, d5, d6⟩ := hdn t T (by omega) hT
                  have q1 := pC_mono (L := D ++ [C]) (show t + 1 ≤ s by omega)
                  have q2 := pC_S hT
                  refine ⟨X0, d1, d2.fr (o' := 0) (fun k => by rw [g_I1, if_neg (by omega)]; exact g2.1 _ _ (by omega)) (fun k => g2.2.1 _ _ (by omega)), d3, by rw [x_rd_len]; exact d4, fun j j1 j2 => ?_, fun j => (d6 j).trans (x_rd_ty _ _ _ _).symm⟩
                  rw [x_rd_at (fun z => by omega)]; exact d5 j j1 j2
              · have e6 : x_any (fl6 (cf_pI h' 0 6 (cf_b false))) 0 s = x_any (fl6 h) 0 s := x_any_cg (fun j j1 j2 => by unfold fl6; rw [g_I1, if_neg (by omega), g2.1 _ _ (by omega)])
                rw [cf_pI_s, x_any_end]
                have e7 : fl6 (cf_pI h' 0 6 (cf_b false)) s = fl6 h' s := by unfold fl6; rw [g_I1, if_neg (by omega)]
                rw [e6, e7]
                congr 1
                rw [hcF, hsF]; rfl
            · refine rp_iconst (v := 1) d_fmt_readParts_74 (by decide) ?_
              refine rp_goto (tgt := 79) d_fmt_readParts_75 (by decide) ?_
              refine rp_putI d_fmt_readParts_79 f_fmt_43 rfl (by first | rfl | decide | assumption) (by first | rfl | decide | assumption) ?_
              refine rp_iload (i := 4) d_fmt_readParts_82 rfl ?_
              refine rp_iconst (v := 1) d_fmt_readParts_84 (by decide) ?_
              refine rp_iadd d_fmt_readParts_85 ?_
              refine rp_istore_n (i := 2) d_fmt_readParts_86 rfl rfl (Nat.le_of_ble_eq_true rfl) ?_
              refine rp_iinc (i := 3) (y := 1) d_fmt_readParts_87 rfl (by decide) rfl (Nat.le_of_ble_eq_true rfl) ?_
              refine rp_goto (tgt := 9) d_fmt_readParts_90 (by decide) ?_
              have hsT : fl6 h' s = true := by cases q : fl6 h' s with | true => rfl | false => exact absurd (by unfold fl6 at q; rw [q]; rfl) c71
              refine rp_lv [(0, .ref 0), (1, .int (nI (D.length + 1))), (2, .int (nI (pC (D ++ [C]) (s + 1)))), (3, .int (nI (s + 1)))] (by rw [pC_S hS, nI_1, nI_1]; rfl) ?_
              refine ih (s + 1) (cf_pI h' 0 6 (cf_b true)) (x_rd XS (pC (D ++ [C]) s) (pC (D ++ [C]) s + (bK S).length)) (by omega) ⟨g3.1, g3.2.1, g3.2.2⟩ (fun j => by rw [x_rd_ty]; exact hty j) (by rw [x_rd_len]; exact hlen) ?_ ?_ ?_ ((hf.s (by omega) g2).pI _)
              · intro t T ht hT
                refine (hsec t T (by omega) hT).keep (fun j j1 j2 => x_rd_at (fun z => ?_))
                have := pC_mono (L := D ++ [C]) (show s + 1 ≤ t by omega)
                have := pC_S hS
                omega
              · intro t T ht hT
                by_cases e : t = s
                · subst e
                  have eT : T = S := by rw [hS] at hT; exact (Option.some.inj hT).symm
                  subst eT
                  exact ⟨XS, hsec t T (Nat.le_refl _) hS, g4.fr (o' := 0) (fun k => by rw [g_I1, if_neg (by omega)]) (fun k => rfl), hwm ▸ g1, (x_rd_len _ _ _).symm, fun j j1 j2 => rfl, fun j => (x_rd_ty _ _ _ _).symm⟩
                · obtain ⟨X0, d1, d2, d3, d4, d5, d6⟩ := hdn t T (by omega) hT
                  have q1 := pC_mono (L := D ++ [C]) (show t + 1 ≤ s by omega)
                  have q2 := pC_S hT
                  refine ⟨X0, d1, d2.fr (o' := 0) (fun k => by rw [g_I1, if_neg (by omega)]; exact g2.1 _ _ (by omega)) (fun k => g2.2.1 _ _ (by omega)), d3, by rw [x_rd_len]; exact d4, fun j j1 j2 => ?_, fun j => (d6 j).trans (x_rd_ty _ _ _ _).symm⟩
                  rw [x_rd_at (fun z => by omega)]; exact d5 j j1 j2
              · have e6 : x_any (fl6 (cf_pI h' 0 6 (cf_b true))) 0 s = x_any (fl6 h) 0 s := x_any_cg (fun j j1 j2 => by unfold fl6; rw [g_I1, if_neg (by omega), g2.1 _ _ (by omega)])
                rw [cf_pI_s, x_any_end]
                have e7 : fl6 (cf_pI h' 0 6 (cf_b true)) s = fl6 h' s := by unfold fl6; rw [g_I1, if_neg (by omega)]
                rw [e6, e7]
                congr 1
                rw [hsT]; simp
        · exact absurd (c49 : (1 : Int32) = 0) (by decide)
      · refine rp_if_ne (tgt := 54) d_fmt_readParts_49 (by decide) (fun c49 => ?_) (fun c49 => ?_)
        · exact absurd rfl c49
        · refine rp_iload_n (i := 3) d_fmt_readParts_52 rfl rfl ?_
          refine rp_ireturn (ty := .int) d_fmt_readParts_53 rfl rfl ?_
          refine kbad h' s S (fun t T ht hT => ?_) hS (hwm ▸ g1) (by omega) (hf.s (by omega) g2)
          obtain ⟨X0, d1, d2, d3, d4, d5, d6⟩ := hdn t T ht hT
          exact d3
set_option maxHeartbeats 4000000 in
set_option maxRecDepth 100000 in
theorem s_fmt_readParts {c : Nat → Int32} {n : Nat} {D : List (List i_It)} {C : List i_It} {h0 : cf_H} {P : Option Value → cf_H → Prop} (hK : ∀ S ∈ D ++ [C], iKs c n S) (hR : cf_ok h0) (hl3 : D.length + 1 ≤ 3) (h40 : (i_X D C).length ≤ 40) (hT40 : (i_T D C).length ≤ 40) (kok : ∀ h' XS, x_B h' XS → (∀ j, x_ty XS j = x_ty (i_X D C) j) → XS.length = (i_X D C).length → (∀ t S, (D ++ [C])[t]? = some S → dn (i_T D C) XS h' (D ++ [C]) t S) → h'.1 0 6 = cf_b (x_any (fl6 h') 0 (D.length + 1)) → pf h0 h' → P (some (.int (-1))) h') (kbad : ∀ h' q Q, (∀ t S, t < q → (D ++ [C])[t]? = some S → r_wm (r_tyl (i_T D C)) (pR (D ++ [C]) t) (pR (D ++ [C]) t + S.length) = true) → (D ++ [C])[q]? = some Q → r_wm (r_tyl (i_T D C)) (pR (D ++ [C]) q) (pR (D ++ [C]) q + Q.length) = false → q < D.length + 1 → pf h0 h' → P (some (.int (nI q))) h') {h : cf_H} (hX : x_B h (i_X D C)) (hf : pf h0 h) : RP k_fmt_readParts 0 [(0, .ref 0), (1, .int (nI (D.length + 1)))] [] h P := by
  refine rp_aload_n (i := 0) d_fmt_readParts_0 rfl rfl ?_
  refine rp_iconst (v := 0) d_fmt_readParts_1 (by decide) ?_
  refine rp_putI d_fmt_readParts_2 f_fmt_43 rfl (by first | rfl | decide | assumption) (by first | rfl | decide | assumption) ?_
  refine rp_iconst (v := 0) d_fmt_readParts_5 (by decide) ?_
  refine rp_istore_n (i := 2) d_fmt_readParts_6 rfl rfl (Nat.le_of_ble_eq_true rfl) ?_
  refine rp_iconst (v := 0) d_fmt_readParts_7 (by decide) ?_
  refine rp_istore_n (i := 3) d_fmt_readParts_8 rfl rfl (Nat.le_of_ble_eq_true rfl) ?_
  refine rp_lv [(0, .ref 0), (1, .int (nI (D.length + 1))), (2, .int (nI (pC (D ++ [C]) 0))), (3, .int (nI 0))] (by rw [pC_0]; rfl) ?_
  refine l_fmt_parts hK hR hl3 h40 hT40 kok kbad (D.length + 1) 0 (cf_pI h 0 6 0) (i_X D C) (by omega) ⟨hX.1, hX.2.1, hX.2.2⟩ (fun _ => rfl) rfl (fun t S _ hS => (sec_of hS).1) (fun t S ht => absurd ht (by omega)) cf_pI_s (hf.pI _)
theorem r_bad_eq {D : List (List i_It)} {C : List i_It} : ∀ (m s : Nat), s + m = D.length + 1 → ((∀ t S, s ≤ t → (D ++ [C])[t]? = some S → r_wm (r_tyl (i_T D C)) (pR (D ++ [C]) t) (pR (D ++ [C]) t + S.length) = true) → r_bad (i_T D C) (i_st D 0 ++ [(i_T D C).length]) s m = none) ∧ (∀ q Q, s ≤ q → (∀ t S, s ≤ t → t < q → (D ++ [C])[t]? = some S → r_wm (r_tyl (i_T D C)) (pR (D ++ [C]) t) (pR (D ++ [C]) t + S.length) = true) → (D ++ [C])[q]? = some Q → r_wm (r_tyl (i_T D C)) (pR (D ++ [C]) q) (pR (D ++ [C]) q + Q.length) = false → r_bad (i_T D C) (i_st D 0 ++ [(i_T D C).length]) s m = some q) := by
  intro m
  induction m with
  | zero =>
    intro s e
    refine ⟨fun _ => rfl, fun q Q hq _ hQ _ => ?_⟩
    rw [List.getElem?_eq_none (by simp; omega)] at hQ; exact absurd hQ (by simp)
  | succ m ih =>
    intro s e
    have hsl : s < (D ++ [C]).length := by simp; omega
    obtain ⟨S, hS⟩ : ∃ S, (D ++ [C])[s]? = some S := ⟨_, List.getElem?_eq_getElem hsl⟩
    have e1 : (i_st D 0 ++ [(i_T D C).length]).getD s 0 = pR (D ++ [C]) s := by
      rw [List.getD_eq_getElem?_getD, bs_get (by omega)]; rfl
    have e2 : (i_st D 0 ++ [(i_T D C).length]).getD (s + 1) 0 = pR (D ++ [C]) s + S.length := by
      rw [List.getD_eq_getElem?_getD, bs_get (by omega), pR_S hS]; rfl
    obtain ⟨i1, i2⟩ := ih (s + 1) (by omega)
    rw [r_bad, e1, e2]
    refine ⟨fun h => ?_, fun q Q hq h hQ hw => ?_⟩
    · rw [h s S (Nat.le_refl _) hS]
      exact i1 (fun t T ht hT => h t T (by omega) hT)
    · by_cases eq : q = s
      · subst eq
        have : Q = S := by rw [hS] at hQ; exact (Option.some.inj hQ).symm
        subst this
        rw [hw]; rfl
      · rw [h s S (Nat.le_refl _) (by omega) hS]
        exact i2 q Q (by omega) (fun t T ht1 ht2 hT => h t T (by omega) ht2 hT) hQ hw
theorem r_cp_i (g : Nat → Int32) (n : Nat) : r_sc g n n 0 [] [0] = ((i_sc g n n 0 [] []).1, i_T (i_sc g n n 0 [] []).2.1 (i_sc g n n 0 [] []).2.2, i_st (i_sc g n n 0 [] []).2.1 0) := r_sc_i g n n 0 [] []
theorem r_cp_err {g : Nat → Int32} {n q : Nat} (h : (i_sc g n n 0 [] []).1 = some q) : r_cp g n = (-100 - nI q, none) := by
  unfold r_cp; rw [r_cp_i, h]
theorem r_cp_many {g : Nat → Int32} {n : Nat} {D : List (List i_It)} {C : List i_It} (h : i_sc g n n 0 [] [] = (none, D, C)) (h3 : 3 < D.length + 1) : r_cp g n = (-200, none) := by
  unfold r_cp; rw [r_cp_i, h]
  show (if 3 < (i_st D 0).length then _ else _) = _
  rw [i_st_len, if_pos h3]
theorem r_cp_bad {g : Nat → Int32} {n q : Nat} {D : List (List i_It)} {C : List i_It} (h : i_sc g n n 0 [] [] = (none, D, C)) (h3 : D.length + 1 ≤ 3) (hb : r_bad (i_T D C) (i_st D 0 ++ [(i_T D C).length]) 0 (D.length + 1) = some q) : r_cp g n = (-201 - nI q, none) := by
  unfold r_cp; rw [r_cp_i, h]
  show (if 3 < (i_st D 0).length then _ else _) = _
  rw [i_st_len, if_neg (by omega), hb]
theorem r_cp_ok {g : Nat → Int32} {n : Nat} {D : List (List i_It)} {C : List i_It} (h : i_sc g n n 0 [] [] = (none, D, C)) (h3 : D.length + 1 ≤ 3) (hb : r_bad (i_T D C) (i_st D 0 ++ [(i_T D C).length]) 0 (D.length + 1) = none) : r_cp g n = (nI (D.length + 1), some (i_T D C, i_st D 0 ++ [(i_T D C).length])) := by
  unfold r_cp; rw [r_cp_i, h]
  show (if 3 < (i_st D 0).length then _ else _) = _
  rw [i_st_len, if_neg (by omega), hb]
theorem bk_len {c : Nat → Int32} {n : Nat} {S : List i_It} (hK : iKs c n S) : S.length ≤ (bK S).length := by
  induction S with
  | nil => exact Nat.zero_le _
  | cons it S ih =>
    have h1 := ih (fun x hx => hK x (List.mem_cons_of_mem _ hx))
    have h2 := List.length_pos_iff.mpr (it_two (hK it (List.mem_cons_self ..))).1
    have : bK (it :: S) = it.2 ++ bK S := rfl
    rw [this, List.length_append, List.length_cons]; omega
theorem T_le_X {c : Nat → Int32} {n : Nat} : ∀ (D : List (List i_It)) (C : List i_It), (∀ S ∈ D, iKs c n S) → iKs c n C → (i_T D C).length ≤ (i_X D C).length := by
  intro D C hD hC
  unfold i_T
  rw [i_X_eq, List.length_map, List.length_append, List.length_append]
  have h1 := bk_len hC
  have h2 : D.flatten.length ≤ (D.flatMap fX).length := by
    clear h1 hC
    induction D with
    | nil => exact Nat.le_refl _
    | cons S D ih =>
      have := ih (fun x hx => hD x (List.mem_cons_of_mem _ hx))
      have h3 := bk_len (hD S (List.mem_cons_self ..))
      rw [List.flatten_cons, List.flatMap_cons, List.length_append, List.length_append, fX, List.length_append]; omega
  omega

theorem cf_nneg {q : Nat} (h : q < 2 ^ 31) : ¬ nI q < 0 := fun z => absurd ((nI_ltI (b := 0) h (by decide)).mp z) (by omega)
set_option maxHeartbeats 4000000 in
set_option maxRecDepth 100000 in
theorem s_fmt_compile {h : cf_H} {P : Option Value → cf_H → Prop} (hR : cf_ok h) {n : Nat} (hn : h.1 0 1 = nI n) (h40 : n ≤ 40) (hv : c_V (h.2.2.2 1) n) (kok : ∀ h' D C XS, r_cp (r_at (h.2.2.2 1) n) n = (nI (D.length + 1), some (i_T D C, i_st D 0 ++ [(i_T D C).length])) → (∀ S ∈ D ++ [C], iKs (h.2.2.2 1) n S) → wX (i_X D C) ≤ n → D.length + 1 ≤ 3 → x_B h' XS → (∀ j, x_ty XS j = x_ty (i_X D C) j) → XS.length = (i_X D C).length → (∀ t S, (D ++ [C])[t]? = some S → dn (i_T D C) XS h' (D ++ [C]) t S) → h'.1 0 6 = cf_b (x_any (fl6 h') 0 (D.length + 1)) → h'.1 0 5 = nI (D.length + 1) → pg h h' → P (some (.int (nI (D.length + 1)))) h') (kbad : ∀ h', (r_cp (r_at (h.2.2.2 1) n) n).2 = none → h'.1 0 5 = 0 → pg h h' → P (some (.int (r_cp (r_at (h.2.2.2 1) n) n).1)) h') : RP k_fmt_compile 0 [(0, .ref 0)] [] h P := by
  refine rp_aload_n (i := 0) d_fmt_compile_0 rfl rfl ?_
  refine rp_iconst (v := 0) d_fmt_compile_1 (by decide) ?_
  refine rp_putI d_fmt_compile_2 f_fmt_40 rfl rfl rfl ?_
  refine rp_aload_n (i := 0) d_fmt_compile_5 rfl rfl ?_
  refine rp_getR d_fmt_compile_6 f_fmt_29 rfl (hR _ _ _ rfl) ?_
  refine rp_aload_n (i := 0) d_fmt_compile_9 rfl rfl ?_
  refine rp_getR d_fmt_compile_10 f_fmt_9 rfl (hR _ _ _ rfl) ?_
  refine rp_aload_n (i := 0) d_fmt_compile_13 rfl rfl ?_
  refine rp_getI d_fmt_compile_14 f_fmt_13 rfl ?_
  refine rp_callV2 d_fmt_compile_17 q_fmt_compile_82 (Or.inl ⟨_, _, _, rfl, rfl⟩) (Nat.le_of_ble_eq_true rfl) (Nat.le_of_ble_eq_true rfl) ?_
  rw [show (cf_pI h 0 5 0).1 0 1 = nI n from (cf_pI_k (by decide)).trans hn]
  refine s_scn_scan (h := cf_pI h 0 5 0) hR h40 hv (fun h1 D C e1 e2 e3 e4 e5 => ?_) (fun h1 q e1 e2 e5 => ?_)
  · have hf : pg h h1 := by
      refine pg.c (h := cf_pI (cf_pR (cf_pI h 0 5 0) 6 1 (some 1)) 6 2 (nI n)) ⟨fun o k z1 z2 z3 z4 => ?_, fun o k _ => rfl, fun o k z => ?_, fun o _ => rfl⟩ e5
      · rw [g_I1, if_neg z4]
        show (cf_pI h 0 5 0).1 o k = _
        rw [g_I1, if_neg (fun z => z3 ⟨z.1, Or.inl z.2⟩)]
      · show (cf_pR (cf_pI h 0 5 0) 6 1 (some 1)).2.2.1 o k = _
        rw [cf_pR_n z]; rfl
    have h5 : h1.1 0 5 = 0 := by
      rw [e5.1 0 5 (by decide), g_I1, if_neg (by decide)]; exact (show (cf_pI h 0 5 0).1 0 5 = 0 from cf_pI_s)
    have hK := i_sc_K h40 n 0 [] [] (by omega) (Nat.zero_le _) (fun S hS => absurd hS (by simp)) (fun it h => absurd h (by simp)) (Nat.le_refl _) (by rw [show r_at (h.2.2.2 1) n = r_at ((cf_pI h 0 5 0).2.2.2 1) n from rfl, e1])
    rw [show r_at (h.2.2.2 1) n = r_at ((cf_pI h 0 5 0).2.2.2 1) n from rfl, e1] at hK
    have hKs : ∀ S ∈ D ++ [C], iKs (h.2.2.2 1) n S := by
      intro S hS
      rw [List.mem_append, List.mem_singleton] at hS
      rcases hS with z | z
      · exact hK.1 S z
      · rw [z]; exact hK.2.1
    have hX : x_B h1 (i_X D C) := ⟨e2.1, e3, by omega⟩
    have hD40 : D.length + 1 < 2 ^ 20 := by
      have := r_ct_le (x_ty (i_X D C)) 11 0 (i_X D C).length
      rw [ct11 (D := D) (C := C) hK.1 hK.2.1] at this; omega
    have hTX := T_le_X D C hK.1 hK.2.1
    refine rp_istore_n (i := 1) d_fmt_compile_20 rfl rfl (Nat.le_of_ble_eq_true rfl) ?_
    refine rp_iload_n (i := 1) d_fmt_compile_21 rfl rfl ?_
    refine rp_if_lt (tgt := 30) d_fmt_compile_22 (by decide) (fun c22 => ?_) (fun c22 => ?_)
    · refine rp_aload_n (i := 0) d_fmt_compile_30 rfl rfl ?_
      refine rp_getR d_fmt_compile_31 f_fmt_20 rfl (hX.1 _ _ _ rfl) ?_
      refine rp_bipush (v := 11) d_fmt_compile_34 (by decide) ?_
      refine rp_iconst (v := 0) d_fmt_compile_36 (by decide) ?_
      refine rp_aload_n (i := 0) d_fmt_compile_37 rfl rfl ?_
      refine rp_getR d_fmt_compile_38 f_fmt_20 rfl (hX.1 _ _ _ rfl) ?_
      refine rp_getI d_fmt_compile_41 f_fmt_86 rfl ?_
      refine rp_callV3 d_fmt_compile_44 q_fmt_compile_89 (Or.inl ⟨_, _, _, rfl, rfl⟩) (Nat.le_of_ble_eq_true rfl) (Nat.le_of_ble_eq_true rfl) ?_
      refine t_count hX rfl hX.2.1.1 (Nat.zero_le _) (by omega) ?_
      rw [ct11 hK.1 hK.2.1]
      refine rp_iconst (v := 1) d_fmt_compile_47 (by decide) ?_
      refine rp_iadd d_fmt_compile_48 ?_
      rw [nI_1]
      refine rp_istore_n (i := 2) d_fmt_compile_49 rfl rfl (Nat.le_of_ble_eq_true rfl) ?_
      refine rp_iload_n (i := 2) d_fmt_compile_50 rfl rfl ?_
      refine rp_iconst (v := 3) d_fmt_compile_51 (by decide) ?_
      refine rp_icmp_le (tgt := 59) d_fmt_compile_52 (by decide) (fun c52 => ?_) (fun c52 => ?_)
      · refine rp_aload_n (i := 0) d_fmt_compile_59 rfl rfl ?_
        refine rp_iload_n (i := 2) d_fmt_compile_60 rfl rfl ?_
        refine rp_callV1 d_fmt_compile_61 q_fmt_compile_93 (Or.inl ⟨_, _, _, rfl, rfl⟩) (Nat.le_of_ble_eq_true rfl) (Nat.le_of_ble_eq_true rfl) ?_
        rw [show nI (D.length + 1) ≤ (3 : Int32) ↔ D.length + 1 ≤ 3 from nI_leI (b := 3) (by omega) (by decide)] at c52
        refine s_fmt_readParts hKs hX.1 c52 hX.2.2 (by omega) (fun h2 XS g1 gt gl g2 g3 g4 => ?_) (fun h2 q Q g1 g2 g3 g4 g5 => ?_) hX (pf.rf h1)
        · have hb := (r_bad_eq (D := D) (C := C) (D.length + 1) 0 (by omega)).1 (fun t S _ hS => by obtain ⟨X0, d1, d2, d3, d4, d5, d6⟩ := g2 t S hS; exact d3)
          have er := r_cp_ok e1 c52 hb
          refine rp_istore_n (i := 3) d_fmt_compile_64 rfl rfl (Nat.le_of_ble_eq_true rfl) ?_
          refine rp_iload_n (i := 3) d_fmt_compile_65 rfl rfl ?_
          refine rp_if_lt (tgt := 75) d_fmt_compile_66 (by decide) (fun c66 => ?_) (fun c66 => ?_)
          · refine rp_aload_n (i := 0) d_fmt_compile_75 rfl rfl ?_
            refine rp_iload_n (i := 2) d_fmt_compile_76 rfl rfl ?_
            refine rp_putI d_fmt_compile_77 f_fmt_40 rfl rfl rfl ?_
            refine rp_iload_n (i := 2) d_fmt_compile_80 rfl rfl ?_
            refine rp_ireturn (ty := .int) d_fmt_compile_81 rfl rfl ?_
            refine kok _ D C XS er hKs hK.2.2 c52 ⟨g1.1, g1.2.1, g1.2.2⟩ gt gl (fun t S hS => ?_) ?_ cf_pI_s ((hf.f g4).pI _)
            · obtain ⟨X0, d1, d2, d3, d4, d5, d6⟩ := g2 t S hS
              exact ⟨X0, d1, d2.fr (o' := 0) (fun k => by rw [g_I1, if_neg (by omega)]) (fun k => rfl), d3, d4, d5, d6⟩
            · rw [cf_pI_k (by decide), g3]
              congr 1
              exact x_any_cg (fun j _ _ => by unfold fl6; rw [g_I1, if_neg (by omega)])
          · exact absurd (by decide) c66
        · have hb := (r_bad_eq (D := D) (C := C) (D.length + 1) 0 (by omega)).2 q Q (Nat.zero_le _) (fun t S _ => g1 t S) g2 g3
          have er := r_cp_bad e1 c52 hb
          refine rp_istore_n (i := 3) d_fmt_compile_64 rfl rfl (Nat.le_of_ble_eq_true rfl) ?_
          refine rp_iload_n (i := 3) d_fmt_compile_65 rfl rfl ?_
          refine rp_if_lt (tgt := 75) d_fmt_compile_66 (by decide) (fun c66 => ?_) (fun c66 => ?_)
          · exact absurd c66 (cf_nneg (by omega))
          · refine rp_sipush (v := (-201)) d_fmt_compile_69 (by decide) ?_
            refine rp_iload_n (i := 3) d_fmt_compile_72 rfl rfl ?_
            refine rp_isub d_fmt_compile_73 ?_
            refine rp_ireturn (ty := .int) d_fmt_compile_74 rfl rfl ?_
            have := kbad h2 (by rw [show r_at (h.2.2.2 1) n = r_at ((cf_pI h 0 5 0).2.2.2 1) n from rfl, er]) ((g5.1 0 5 (by decide) (by decide) (by decide) (by decide)).trans h5) (hf.f g5)
            rw [show r_at (h.2.2.2 1) n = r_at ((cf_pI h 0 5 0).2.2.2 1) n from rfl, er] at this
            exact this
      · refine rp_sipush (v := (-200)) d_fmt_compile_55 (by decide) ?_
        refine rp_ireturn (ty := .int) d_fmt_compile_58 rfl rfl ?_
        have c52 : 3 < D.length + 1 := Nat.not_le.mp (fun z => c52 ((show nI (D.length + 1) ≤ (3 : Int32) ↔ D.length + 1 ≤ 3 from nI_leI (b := 3) (by omega) (by decide)).mpr z))
        have er := r_cp_many e1 c52
        have := kbad h1 (by rw [show r_at (h.2.2.2 1) n = r_at ((cf_pI h 0 5 0).2.2.2 1) n from rfl, er]) h5 hf
        rw [show r_at (h.2.2.2 1) n = r_at ((cf_pI h 0 5 0).2.2.2 1) n from rfl, er] at this
        exact this
    · exact absurd (by decide) c22
  · have hf : pg h h1 := by
      refine pg.c (h := cf_pI (cf_pR (cf_pI h 0 5 0) 6 1 (some 1)) 6 2 (nI n)) ⟨fun o k z1 z2 z3 z4 => ?_, fun o k _ => rfl, fun o k z => ?_, fun o _ => rfl⟩ e5
      · rw [g_I1, if_neg z4]
        show (cf_pI h 0 5 0).1 o k = _
        rw [g_I1, if_neg (fun z => z3 ⟨z.1, Or.inl z.2⟩)]
      · show (cf_pR (cf_pI h 0 5 0) 6 1 (some 1)).2.2.1 o k = _
        rw [cf_pR_n z]; rfl
    have h5 : h1.1 0 5 = 0 := by
      rw [e5.1 0 5 (by decide), g_I1, if_neg (by decide)]; exact (show (cf_pI h 0 5 0).1 0 5 = 0 from cf_pI_s)
    have er := r_cp_err e1
    refine rp_istore_n (i := 1) d_fmt_compile_20 rfl rfl (Nat.le_of_ble_eq_true rfl) ?_
    refine rp_iload_n (i := 1) d_fmt_compile_21 rfl rfl ?_
    refine rp_if_lt (tgt := 30) d_fmt_compile_22 (by decide) (fun c22 => ?_) (fun c22 => ?_)
    · exact absurd c22 (cf_nneg (by omega))
    · refine rp_bipush (v := (-100)) d_fmt_compile_25 (by decide) ?_
      refine rp_iload_n (i := 1) d_fmt_compile_27 rfl rfl ?_
      refine rp_isub d_fmt_compile_28 ?_
      refine rp_ireturn (ty := .int) d_fmt_compile_29 rfl rfl ?_
      have := kbad h1 (by rw [show r_at (h.2.2.2 1) n = r_at ((cf_pI h 0 5 0).2.2.2 1) n from rfl, er]) h5 hf
      rw [show r_at (h.2.2.2 1) n = r_at ((cf_pI h 0 5 0).2.2.2 1) n from rfl, er] at this
      exact this
