/-! THE REFERENCE: what of the types matters -/
theorem cf_cnt_congr {p q : Nat → Bool} : ∀ n a, (∀ j, a ≤ j → j < a + n → p j = q j) → cf_cnt p a n = cf_cnt q a n := by
  intro n
  induction n with
  | zero => intro a _; rfl
  | succ n ih =>
    intro a h
    rw [cf_cnt, cf_cnt, h a (Nat.le_refl _) (by omega), ih (a + 1) (fun j h1 h2 => h j (by omega) (by omega))]
theorem cf_fst_congr {p q : Nat → Bool} : ∀ n a, (∀ j, a ≤ j → j < a + n → p j = q j) → cf_fst p a n = cf_fst q a n := by
  intro n
  induction n with
  | zero => intro a _; rfl
  | succ n ih =>
    intro a h
    rw [cf_fst, cf_fst, h a (Nat.le_refl _) (by omega), ih (a + 1) (fun j h1 h2 => h j (by omega) (by omega))]
def r_ag (ty ty' : Nat → Int32) (a b : Nat) : Prop := ∀ j, a ≤ j → j < b → ty j = ty' j
theorem r_ct_congr {ty ty' : Nat → Int32} {a b x y : Nat} {w : Int32} (h : r_ag ty ty' a b) (hx : a ≤ x) (hy : y ≤ b) : r_ct ty w x y = r_ct ty' w x y := cf_cnt_congr _ _ (fun j h1 h2 => by rw [h j (by omega) (by omega)])
theorem r_fd_congr {ty ty' : Nat → Int32} {a b : Nat} {w : Int32} (h : r_ag ty ty' a b) : r_fd ty w a b = r_fd ty' w a b := cf_fst_congr _ _ (fun j h1 h2 => by rw [h j (by omega) (by omega)])
theorem r_ie_congr {ty ty' : Nat → Int32} {a b : Nat} (h : r_ag ty ty' a b) : r_ie ty a b = r_ie ty' a b := by unfold r_ie; rw [r_fd_congr h, r_fd_congr h]
theorem r_kd_congr {ty ty' : Nat → Int32} {a b : Nat} (h : r_ag ty ty' a b) : r_kd ty a b = r_kd ty' a b := by
  unfold r_kd
  rw [r_ct_congr h (Nat.le_refl _) (Nat.le_refl _), r_ct_congr h (Nat.le_refl _) (Nat.le_refl _), r_ct_congr h (Nat.le_refl _) (Nat.le_refl _), r_ct_congr h (Nat.le_refl _) (Nat.le_refl _)]
theorem r_bk_ge (ty : Nat → Int32) (a : Nat) : ∀ p, a ≤ p → a ≤ r_bk ty a p := by
  intro p
  induction p with
  | zero => intro h; exact h
  | succ p ih =>
    intro h
    unfold r_bk
    split
    · rename_i z; exact ih (by omega)
    · exact h
theorem r_bk_congr {ty ty' : Nat → Int32} {a b : Nat} (h : r_ag ty ty' a b) : ∀ p, p < b → r_bk ty a p = r_bk ty' a p := by
  intro p
  induction p with
  | zero => intro _; rfl
  | succ p ih =>
    intro hp
    unfold r_bk
    by_cases e : a < p + 1
    · rw [h (p + 1) (by omega) hp, ih (by omega)]
    · rw [if_neg (fun z => e z.1), if_neg (fun z => e z.1)]
theorem r_gr_congr {ty ty' : Nat → Int32} {a b q : Nat} (h : r_ag ty ty' a b) (hab : a ≤ b) (h1 : a ≤ q) (h2 : q < b) : r_gr ty a b q = r_gr ty' a b q := by
  unfold r_gr
  rw [r_ie_congr h, r_ct_congr h (Nat.le_refl _) (by omega), r_ct_congr h h1 (r_ie_le hab)]
theorem r_scl_congr {ty ty' : Nat → Int32} {a b q : Nat} (h : r_ag ty ty' a b) (hab : a ≤ b) (h1 : a ≤ q) (h2 : q < b) : r_scl ty a b q = r_scl ty' a b q := by
  unfold r_scl
  have i1 := r_bk_ge ty' a q h1
  have i2 := r_bk_le ty' a q
  rw [r_ie_congr h, r_ct_congr h (Nat.le_refl _) (by omega), r_ct_congr h h1 (r_ie_le hab), r_bk_congr h q h2, h _ i1 (by omega)]
theorem r_cm_congr {ty ty' : Nat → Int32} {a b : Nat} (h : r_ag ty ty' a b) (hab : a ≤ b) : ∀ n q, a ≤ q → q + n = b → r_cm ty a b q n = r_cm ty' a b q n := by
  intro n
  induction n with
  | zero => intro q _ _; rfl
  | succ n ih =>
    intro q h1 h2
    rw [r_cm, r_cm, h q h1 (by omega), r_gr_congr h hab h1 (by omega), r_scl_congr h hab h1 (by omega), ih (q + 1) (by omega) (by omega)]
theorem r_w2_congr {ty ty' : Nat → Int32} {a b : Nat} (h : r_ag ty ty' a b) (hab : a ≤ b) : r_w2 ty a b = r_w2 ty' a b := by
  unfold r_w2
  have e := fun w => r_ct_congr (w := w) h (Nat.le_refl a) (Nat.le_refl b)
  rw [r_kd_congr h, e, e, e, e, e, r_fd_congr h, r_fd_congr h, r_ie_congr h, r_ct_congr h (r_fd_ge _ _ _ _) (Nat.le_refl _), r_ct_congr h (Nat.le_refl _) (r_ie_le hab), r_cm_congr h hab (b - a) a (Nat.le_refl _) (by omega)]
theorem r_wm_congr {ty ty' : Nat → Int32} {a b : Nat} (h : r_ag ty ty' a b) (hab : a ≤ b) : r_wm ty a b = r_wm ty' a b := by
  unfold r_wm
  rw [r_ct_congr h (Nat.le_refl _) (Nat.le_refl _), r_w2_congr h hab]
  by_cases e : a < b
  · rw [h a (Nat.le_refl _) e]
  · have e0 : r_ct ty' 7 a b = 0 := by have := r_ct_le ty' 7 a b; omega
    rw [e0]
    have e1 : ¬ nI 0 = 1 := by decide
    simp [e1]
/-! THE REFERENCE: compile -/
theorem r_sc_mono (g : Nat → Int32) (n : Nat) : ∀ f p TS ST, (∀ x ∈ ST, x ≤ TS.length) → ST.Pairwise (· ≤ ·) → (∀ x ∈ (r_sc g n f p TS ST).2.2, x ≤ (r_sc g n f p TS ST).2.1.length) ∧ (r_sc g n f p TS ST).2.2.Pairwise (· ≤ ·) := by
  intro f
  induction f with
  | zero => intro p TS ST h1 h2; exact ⟨h1, h2⟩
  | succ f ih =>
    intro p TS ST h1 h2
    rw [r_sc]
    split
    · exact ⟨h1, h2⟩
    split
    · refine ih _ _ _ ?_ ?_
      · intro x hx
        rcases List.mem_append.mp hx with z | z
        · exact h1 x z
        · simp at z; omega
      · rw [List.pairwise_append]
        exact ⟨h2, by simp, fun x hx y hy => by simp at hy; subst hy; exact h1 x hx⟩
    split
    · exact ⟨h1, h2⟩
    · refine ih _ _ _ ?_ h2
      intro x hx
      have := h1 x hx
      simp; omega
def r_tyl (TS : List r_K) (j : Nat) : Int32 := match TS[j]? with
  | some x => x.1
  | none => 0
theorem r_hold_ag {a b c : Nat → Int32} {TS : List r_K} (h : r_hold a b c TS) {x y : Nat} (hy : y ≤ TS.length) : r_ag a (r_tyl TS) x y := by
  intro j h1 h2
  have hj : TS[j]? = some (TS[j]'(by omega)) := List.getElem?_eq_getElem (by omega)
  rw [(h j _ hj).1, r_tyl, hj]
/-- the first section that is not well made, from s on, m of them -/
def r_bad (TS : List r_K) (BS : List Nat) : Nat → Nat → Option Nat
  | _, 0 => none
  | s, m + 1 => bif r_wm (r_tyl TS) (BS.getD s 0) (BS.getD (s + 1) 0) then r_bad TS BS (s + 1) m else some s
/-- compile's answer, and the tokens and the sections' bounds if there are some -/
def r_cp (g : Nat → Int32) (n : Nat) : Int32 × Option (List r_K × List Nat) := match r_sc g n n 0 [] [0] with
  | (some q, _, _) => (-100 - nI q, none)
  | (none, TS, ST) => if 3 < ST.length then (-200, none) else match r_bad TS (ST ++ [TS.length]) 0 ST.length with
    | some s => (-201 - nI s, none)
    | none => (nI ST.length, some (TS, ST ++ [TS.length]))

set_option maxHeartbeats 4000000 in
set_option maxRecDepth 100000 in
theorem l_mod_cwell {h : cf_H} {P : Option Value → cf_H → Prop} (hR : cf_ok h) {TS : List r_K} {BS : List Nat} {m : Nat} (hm : BS.length = m + 1) (hm3 : m ≤ 3) (hT : r_hold (h.2.2.2 22) (h.2.2.2 23) (h.2.2.2 24) TS) (hB : r_holdS (h.2.2.2 25) BS) (hp : BS.Pairwise (· ≤ ·)) (hl : ∀ x ∈ BS, x ≤ TS.length) (hT40 : TS.length ≤ 40) : ∀ (n s : Nat), s + n = m → (kok : r_bad TS BS s n = none → RP k_mod_compile 179 [(0, .ref 19), (1, .int (nI m))] [] h P) → (kbad : ∀ q, r_bad TS BS s n = some q → P (some (.int (-201 - nI q))) h) → RP k_mod_compile 154 [(0, .ref 19), (1, .int (nI m)), (3, .int (nI s))] [] h P := by
  intro n
  induction n with
  | zero =>
    intro s e kok kbad
    have e : s = m := e
    subst e
    refine rp_iload_n (i := 3) d_mod_compile_154 rfl rfl ?_
    refine rp_iload_n (i := 1) d_mod_compile_155 rfl rfl ?_
    refine rp_icmp_ge (tgt := 179) d_mod_compile_156 (by decide) (fun c156 => ?_) (fun c156 => ?_)
    · refine rp_lv [(0, .ref 19), (1, .int (nI s))] rfl ?_
      exact kok rfl
    · exact absurd (nI_le (Nat.le_refl _) (by omega)) c156
  | succ n ih =>
    intro s e kok kbad
    have hlt : s < m := by omega
    have g0 : BS[s]? = some (BS[s]'(by omega)) := List.getElem?_eq_getElem (by omega)
    have g1 : BS[s + 1]? = some (BS[s + 1]'(by omega)) := List.getElem?_eq_getElem (by omega)
    have hle : BS[s]'(by omega) ≤ BS[s + 1]'(by omega) := List.pairwise_iff_getElem.mp hp s (s + 1) (by omega) (by omega) (by omega)
    have hl1 := hl _ (List.getElem_mem (l := BS) (n := s + 1) (by omega))
    have hsec : r_sec h s (BS[s]'(by omega)) (BS[s + 1]'(by omega)) := ⟨hB s _ g0, hB (s + 1) _ g1, hle, by omega, by omega⟩
    have hw : r_wm (h.2.2.2 22) (BS[s]'(by omega)) (BS[s + 1]'(by omega)) = r_wm (r_tyl TS) (BS.getD s 0) (BS.getD (s + 1) 0) := by
      rw [List.getD_eq_getElem?_getD, List.getD_eq_getElem?_getD, g0, g1]
      exact r_wm_congr (r_hold_ag hT hl1) hle
    refine rp_iload_n (i := 3) d_mod_compile_154 rfl rfl ?_
    refine rp_iload_n (i := 1) d_mod_compile_155 rfl rfl ?_
    refine rp_icmp_ge (tgt := 179) d_mod_compile_156 (by decide) (fun c156 => ?_) (fun c156 => ?_)
    · exact absurd c156 (nI_ge hlt (by omega))
    · refine rp_aload_n (i := 0) d_mod_compile_159 rfl rfl ?_
      refine rp_iload_n (i := 3) d_mod_compile_160 rfl rfl ?_
      refine rp_callV1 d_mod_compile_161 q_mod_compile_88 (Or.inl ⟨_, _, _, rfl, rfl⟩) (Nat.le_of_ble_eq_true rfl) (Nat.le_of_ble_eq_true rfl) ?_
      refine s_mod_wellMade hR hsec rfl ?_
      rw [hw]
      rw [r_bad] at kok kbad
      cases ew : r_wm (r_tyl TS) (BS.getD s 0) (BS.getD (s + 1) 0)
      · rw [ew] at kbad
        refine rp_if_ne (tgt := 173) d_mod_compile_164 (by decide) (fun c164 => ?_) (fun c164 => ?_)
        · exact absurd rfl c164
        · refine rp_sipush (v := (-201)) d_mod_compile_167 (by decide) ?_
          refine rp_iload_n (i := 3) d_mod_compile_170 rfl rfl ?_
          refine rp_isub d_mod_compile_171 ?_
          refine rp_ireturn (ty := .int) d_mod_compile_172 rfl rfl ?_
          exact kbad s rfl
      · rw [ew] at kok kbad
        refine rp_if_ne (tgt := 173) d_mod_compile_164 (by decide) (fun c164 => ?_) (fun c164 => ?_)
        · refine rp_iinc (i := 3) (y := 1) d_mod_compile_173 rfl (by decide) rfl (Nat.le_of_ble_eq_true rfl) ?_
          refine rp_goto (tgt := 154) d_mod_compile_176 (by decide) ?_
          refine rp_lv [(0, .ref 19), (1, .int (nI m)), (3, .int (nI (s + 1)))] (by simp only [nI_succ]; rfl) ?_
          exact ih (s + 1) (by omega) kok kbad
        · exact absurd c164 (by decide)
set_option maxHeartbeats 4000000 in
set_option maxRecDepth 100000 in
theorem l_mod_text {P : Option Value → cf_H → Prop} {h0 : cf_H} {n m : Nat} (hR : cf_ok h0) (hn : h0.1 19 0 = nI n) (h40 : n ≤ 40) (k : ∀ h', h'.1 = h0.1 → h'.2.1 = h0.2.1 → h'.2.2.1 = h0.2.2.1 → (∀ o, o ≠ 21 → h'.2.2.2 o = h0.2.2.2 o) → (∀ j, j < n → h'.2.2.2 21 j = h0.2.2.2 20 j) → RP k_mod_compile 207 [(0, .ref 19), (1, .int (nI m))] [] h' P) : ∀ (f q : Nat) (h : cf_H), q + f = n → h.1 = h0.1 → h.2.1 = h0.2.1 → h.2.2.1 = h0.2.2.1 → (∀ o, o ≠ 21 → h.2.2.2 o = h0.2.2.2 o) → (∀ j, j < q → h.2.2.2 21 j = h0.2.2.2 20 j) → RP k_mod_compile 181 [(0, .ref 19), (1, .int (nI m)), (3, .int (nI q))] [] h P := by
  intro f
  induction f with
  | zero =>
    intro q h e f1 f2 f3 f4 f5
    have e : q = n := e
    subst e
    have hn' : h.1 19 0 = nI q := by rw [f1]; exact hn
    refine rp_iload_n (i := 3) d_mod_compile_181 rfl rfl ?_
    refine rp_aload_n (i := 0) d_mod_compile_182 rfl rfl ?_
    refine rp_getI d_mod_compile_183 f_mod_36 rfl ?_
    refine rp_icmp_ge (tgt := 207) d_mod_compile_186 (by decide) (fun c186 => ?_) (fun c186 => ?_)
    · refine rp_lv [(0, .ref 19), (1, .int (nI m))] rfl ?_
      exact k h f1 f2 f3 f4 f5
    · exact absurd (by rw [hn']; exact nI_le (Nat.le_refl _) (by omega)) c186
  | succ f ih =>
    intro q h e f1 f2 f3 f4 f5
    have hlt : q < n := by omega
    have hn' : h.1 19 0 = nI n := by rw [f1]; exact hn
    have hR' : cf_ok h := fun o k q e => by rw [f3]; exact hR o k q e
    refine rp_iload_n (i := 3) d_mod_compile_181 rfl rfl ?_
    refine rp_aload_n (i := 0) d_mod_compile_182 rfl rfl ?_
    refine rp_getI d_mod_compile_183 f_mod_36 rfl ?_
    refine rp_icmp_ge (tgt := 207) d_mod_compile_186 (by decide) (fun c186 => ?_) (fun c186 => ?_)
    · exact absurd c186 (by rw [hn']; exact nI_ge hlt (by omega))
    · refine rp_aload_n (i := 0) d_mod_compile_189 rfl rfl ?_
      refine rp_getR d_mod_compile_190 f_mod_13 rfl (hR' _ _ _ rfl) ?_
      refine rp_iload_n (i := 3) d_mod_compile_193 rfl rfl ?_
      refine rp_aload_n (i := 0) d_mod_compile_194 rfl rfl ?_
      refine rp_getR d_mod_compile_195 f_mod_7 rfl (hR' _ _ _ rfl) ?_
      refine rp_iload_n (i := 3) d_mod_compile_198 rfl rfl ?_
      refine rp_iaload d_mod_compile_199 rfl (vp_in_nI (by omega) (by omega)) ?_
      refine rp_iastore d_mod_compile_200 rfl (vp_in_nI (by omega) (by omega)) ?_
      refine rp_iinc (i := 3) (y := 1) d_mod_compile_201 rfl (by decide) rfl (Nat.le_of_ble_eq_true rfl) ?_
      refine rp_goto (tgt := 181) d_mod_compile_204 (by decide) ?_
      refine rp_lv [(0, .ref 19), (1, .int (nI m)), (3, .int (nI (q + 1)))] (by simp only [nI_succ]; rfl) ?_
      refine ih (q + 1) _ (by omega) f1 f2 f3 (fun o ho => ?_) (fun j hj => ?_)
      · rw [g_A4, if_neg ho]; exact f4 o ho
      · rw [g_A4, if_pos rfl, nI_clamp (by omega), f4 20 (by decide)]
        unfold upd
        split
        · rename_i z; rw [z]
        · exact f5 j (by omega)
