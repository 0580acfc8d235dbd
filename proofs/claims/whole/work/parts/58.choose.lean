/-! WHICH SECTION -/
def hld (w : Int32) (x n : Int64) : Bool := if w = 1 then decide (x < n) else if w = 2 then decide (x ≤ n) else if w = 3 then decide (n < x) else if w = 4 then decide (n ≤ x) else if w = 5 then decide (x = n) else !decide (x = n)
def w16 (w : Int32) : Prop := w = 1 ∨ w = 2 ∨ w = 3 ∨ w = 4 ∨ w = 5 ∨ w = 6
def oc (x n : Int64) : Int32 := if x = n then 2 else if x < n then 1 else 4
theorem adm_eq {w : Int32} {x n : Int64} (hw : w16 w) : (!decide (c_tst w &&& oc x n = 0)) = hld w x n := by
  unfold oc
  by_cases e : x = n
  · subst e
    rw [if_pos rfl]
    rcases hw with z | z | z | z | z | z <;> subst z <;> simp [hld, c_tst, Int64.lt_irrefl, Int64.le_refl] <;> decide
  · rw [if_neg e]
    by_cases l : x < n
    · rw [if_pos l]
      have l2 : x ≤ n := Int64.le_of_lt l
      have l3 : ¬ n < x := fun z => Int64.lt_irrefl (Int64.lt_trans l z)
      have l4 : ¬ n ≤ x := Int64.not_le.mpr l
      rcases hw with z | z | z | z | z | z <;> subst z <;> simp [hld, c_tst, e, l, l2, l3, l4] <;> decide
    · rw [if_neg l]
      have l4 : n ≤ x := Int64.not_lt.mp l
      have l3 : n < x := Int64.lt_of_le_of_ne l4 (fun z => e z.symm)
      have l2 : ¬ x ≤ n := Int64.not_le.mpr l3
      rcases hw with z | z | z | z | z | z <;> subst z <;> simp [hld, c_tst, e, l, l2, l3, l4] <;> decide
/-- section o holds its condition as ad says -/
def adO (h : cf_H) (o : Nat) (x : Int64) (ad : Bool) : Prop := (h.1 o 3 = 0 ∧ ad = true) ∨ ∃ w, w16 w ∧ h.1 o 3 = c_tst w ∧ ad = hld w x (h.2.1 o 4)
theorem tst0 {w : Int32} (hw : w16 w) : ¬ c_tst w = 0 := by rcases hw with z | z | z | z | z | z <;> subst z <;> decide

set_option maxHeartbeats 4000000 in
set_option maxRecDepth 100000 in
theorem s_sec_admits {h : cf_H} {P : Option Value → cf_H → Prop} {o : Nat} (ho9 : 9 ≤ o ∧ o ≤ 11) {x : Int64} {ad : Bool} (ha : adO h o x ad) (k : P (some (.int (cf_b ad))) h) : RP k_sec_admits 0 [(0, .ref o), (1, .long x)] [] h P := by
  have ho := s_ho ho9
  rcases ha with ⟨h3, hd⟩ | ⟨w, hw, h3, hd⟩
  · refine rp_aload_n (i := 0) d_sec_admits_0 rfl rfl ?_
    refine rp_callV0 d_sec_admits_1 q_sec_admits_48 (Or.inl ⟨_, _, _, ho, rfl⟩) (Nat.le_of_ble_eq_true rfl) (Nat.le_of_ble_eq_true rfl) ?_
    refine s_sec_hasCondition ho9 ?_
    refine rp_if_ne (tgt := 9) d_sec_admits_4 (by decide) (fun c4 => ?_) (fun c4 => ?_)
    · exact absurd (by rw [h3]; rfl) c4
    · refine rp_iconst (v := 1) d_sec_admits_7 (by decide) ?_
      refine rp_ireturn (ty := .boolean) d_sec_admits_8 rfl (by first | rfl | decide | assumption) ?_
      rw [hd] at k
      exact k
  · have hn : ¬ h.1 o 3 = 0 := by rw [h3]; exact tst0 hw
    refine rp_aload_n (i := 0) d_sec_admits_0 rfl rfl ?_
    refine rp_callV0 d_sec_admits_1 q_sec_admits_48 (Or.inl ⟨_, _, _, ho, rfl⟩) (Nat.le_of_ble_eq_true rfl) (Nat.le_of_ble_eq_true rfl) ?_
    refine s_sec_hasCondition ho9 ?_
    refine rp_if_ne (tgt := 9) d_sec_admits_4 (by decide) (fun c4 => ?_) (fun c4 => ?_)
    · refine rp_iconst (v := 2) d_sec_admits_9 (by decide) ?_
      refine rp_istore_n (i := 3) d_sec_admits_10 rfl rfl (Nat.le_of_ble_eq_true rfl) ?_
      refine rp_lload_n (i := 1) d_sec_admits_11 rfl rfl ?_
      refine rp_aload_n (i := 0) d_sec_admits_12 rfl rfl ?_
      refine rp_getJ d_sec_admits_13 f_sec_52 ho ?_
      refine rp_lcmp d_sec_admits_16 ?_
      refine rp_if_eq (tgt := 35) d_sec_admits_17 (by decide) (fun c17 => ?_) (fun c17 => ?_)
      · refine rp_aload_n (i := 0) d_sec_admits_35 rfl rfl ?_
        refine rp_getI d_sec_admits_36 f_sec_45 ho ?_
        refine rp_iload_n (i := 3) d_sec_admits_39 rfl rfl ?_
        refine rp_iand d_sec_admits_40 ?_
        refine rp_if_eq (tgt := 48) d_sec_admits_41 (by decide) (fun c41 => ?_) (fun c41 => ?_)
        · refine rp_iconst (v := 0) d_sec_admits_48 (by decide) ?_
          refine rp_ireturn (ty := .boolean) d_sec_admits_49 rfl (by first | rfl | decide | assumption) ?_
          have eo : oc x (h.2.1 o 4) = 2 := if_pos ((lg_cmp_eq _ _).mp c17)
          have ea := adm_eq (x := x) (n := h.2.1 o 4) hw
          rw [eo, ← h3] at ea
          rw [hd, ← ea, decide_eq_true c41] at k
          exact k
        · refine rp_iconst (v := 1) d_sec_admits_44 (by decide) ?_
          refine rp_goto (tgt := 49) d_sec_admits_45 (by decide) ?_
          refine rp_ireturn (ty := .boolean) d_sec_admits_49 rfl (by first | rfl | decide | assumption) ?_
          have eo : oc x (h.2.1 o 4) = 2 := if_pos ((lg_cmp_eq _ _).mp c17)
          have ea := adm_eq (x := x) (n := h.2.1 o 4) hw
          rw [eo, ← h3] at ea
          rw [hd, ← ea, decide_eq_false c41] at k
          exact k
      · refine rp_lload_n (i := 1) d_sec_admits_20 rfl rfl ?_
        refine rp_aload_n (i := 0) d_sec_admits_21 rfl rfl ?_
        refine rp_getJ d_sec_admits_22 f_sec_52 ho ?_
        refine rp_lcmp d_sec_admits_25 ?_
        refine rp_if_ge (tgt := 33) d_sec_admits_26 (by decide) (fun c26 => ?_) (fun c26 => ?_)
        · refine rp_iconst (v := 4) d_sec_admits_33 (by decide) ?_
          refine rp_istore_n (i := 3) d_sec_admits_34 rfl rfl (Nat.le_of_ble_eq_true rfl) ?_
          refine rp_aload_n (i := 0) d_sec_admits_35 rfl rfl ?_
          refine rp_getI d_sec_admits_36 f_sec_45 ho ?_
          refine rp_iload_n (i := 3) d_sec_admits_39 rfl rfl ?_
          refine rp_iand d_sec_admits_40 ?_
          refine rp_if_eq (tgt := 48) d_sec_admits_41 (by decide) (fun c41 => ?_) (fun c41 => ?_)
          · refine rp_iconst (v := 0) d_sec_admits_48 (by decide) ?_
            refine rp_ireturn (ty := .boolean) d_sec_admits_49 rfl (by first | rfl | decide | assumption) ?_
            have eo : oc x (h.2.1 o 4) = 4 := by unfold oc; rw [if_neg (fun z => c17 ((lg_cmp_eq _ _).mpr z)), if_neg (Int64.not_lt.mpr ((lg_cmp_ge _ _).mp c26))]
            have ea := adm_eq (x := x) (n := h.2.1 o 4) hw
            rw [eo, ← h3] at ea
            rw [hd, ← ea, decide_eq_true c41] at k
            exact k
          · refine rp_iconst (v := 1) d_sec_admits_44 (by decide) ?_
            refine rp_goto (tgt := 49) d_sec_admits_45 (by decide) ?_
            refine rp_ireturn (ty := .boolean) d_sec_admits_49 rfl (by first | rfl | decide | assumption) ?_
            have eo : oc x (h.2.1 o 4) = 4 := by unfold oc; rw [if_neg (fun z => c17 ((lg_cmp_eq _ _).mpr z)), if_neg (Int64.not_lt.mpr ((lg_cmp_ge _ _).mp c26))]
            have ea := adm_eq (x := x) (n := h.2.1 o 4) hw
            rw [eo, ← h3] at ea
            rw [hd, ← ea, decide_eq_false c41] at k
            exact k
        · refine rp_iconst (v := 1) d_sec_admits_29 (by decide) ?_
          refine rp_goto (tgt := 34) d_sec_admits_30 (by decide) ?_
          refine rp_istore_n (i := 3) d_sec_admits_34 rfl rfl (Nat.le_of_ble_eq_true rfl) ?_
          refine rp_aload_n (i := 0) d_sec_admits_35 rfl rfl ?_
          refine rp_getI d_sec_admits_36 f_sec_45 ho ?_
          refine rp_iload_n (i := 3) d_sec_admits_39 rfl rfl ?_
          refine rp_iand d_sec_admits_40 ?_
          refine rp_if_eq (tgt := 48) d_sec_admits_41 (by decide) (fun c41 => ?_) (fun c41 => ?_)
          · refine rp_iconst (v := 0) d_sec_admits_48 (by decide) ?_
            refine rp_ireturn (ty := .boolean) d_sec_admits_49 rfl (by first | rfl | decide | assumption) ?_
            have eo : oc x (h.2.1 o 4) = 1 := by unfold oc; rw [if_neg (fun z => c17 ((lg_cmp_eq _ _).mpr z)), if_pos (Int64.not_le.mp (fun z => c26 ((lg_cmp_ge _ _).mpr z)))]
            have ea := adm_eq (x := x) (n := h.2.1 o 4) hw
            rw [eo, ← h3] at ea
            rw [hd, ← ea, decide_eq_true c41] at k
            exact k
          · refine rp_iconst (v := 1) d_sec_admits_44 (by decide) ?_
            refine rp_goto (tgt := 49) d_sec_admits_45 (by decide) ?_
            refine rp_ireturn (ty := .boolean) d_sec_admits_49 rfl (by first | rfl | decide | assumption) ?_
            have eo : oc x (h.2.1 o 4) = 1 := by unfold oc; rw [if_neg (fun z => c17 ((lg_cmp_eq _ _).mpr z)), if_pos (Int64.not_le.mp (fun z => c26 ((lg_cmp_ge _ _).mpr z)))]
            have ea := adm_eq (x := x) (n := h.2.1 o 4) hw
            rw [eo, ← h3] at ea
            rw [hd, ← ea, decide_eq_false c41] at k
            exact k
    · exact absurd c4 (by rw [decide_eq_false hn]; decide)
set_option maxHeartbeats 4000000 in
set_option maxRecDepth 100000 in
theorem l_fmt_cbc {h : cf_H} {P : Option Value → cf_H → Prop} (hR : cf_ok h) {m : Nat} (hm : h.1 0 5 = nI m) (hm3 : m ≤ 3) {x : Int64} {ad : Nat → Bool} (ha : ∀ t, t < m → adO h (9 + t) x (ad t)) : ∀ (n s : Nat), s + n = m → (k : P (some (.int (if cf_fst ad s n < m then nI (cf_fst ad s n) else -1))) h) → RP k_fmt_chooseByCondition 2 [(0, .ref 0), (1, .long x), (3, .int (nI s))] [] h P := by
  intro n
  induction n with
  | zero =>
    intro s e k
    have e : s = m := e
    refine rp_iload_n (i := 3) d_fmt_chooseByCondition_2 rfl rfl ?_
    refine rp_aload_n (i := 0) d_fmt_chooseByCondition_3 rfl rfl ?_
    refine rp_getI d_fmt_chooseByCondition_4 f_fmt_40 rfl ?_
    rw [hm]
    refine rp_icmp_ge (tgt := 31) d_fmt_chooseByCondition_7 (by decide) (fun c7 => ?_) (fun c7 => ?_)
    · refine rp_iconst (v := (-1)) d_fmt_chooseByCondition_31 (by decide) ?_
      refine rp_ireturn (ty := .int) d_fmt_chooseByCondition_32 rfl rfl ?_
      rw [show cf_fst ad s 0 = s from rfl, if_neg (by omega)] at k
      exact k
    · exact absurd (by rw [e]; exact Int32.le_refl _) c7
  | succ n ih =>
    intro s e k
    have hRA : cf_RA (nI s).toNatClampNeg = some (9 + s) := by rw [nI_clamp (by omega)]; have : s = 0 ∨ s = 1 ∨ s = 2 := by omega
                                                               rcases this with z | z | z <;> rw [z] <;> rfl
    have ho := s_ho (o := 9 + s) (by omega)
    refine rp_iload_n (i := 3) d_fmt_chooseByCondition_2 rfl rfl ?_
    refine rp_aload_n (i := 0) d_fmt_chooseByCondition_3 rfl rfl ?_
    refine rp_getI d_fmt_chooseByCondition_4 f_fmt_40 rfl ?_
    rw [hm]
    refine rp_icmp_ge (tgt := 31) d_fmt_chooseByCondition_7 (by decide) (fun c7 => ?_) (fun c7 => ?_)
    · exact absurd c7 (nI_ge (by omega) (by omega))
    · refine rp_aload_n (i := 0) d_fmt_chooseByCondition_10 rfl rfl ?_
      refine rp_getR d_fmt_chooseByCondition_11 f_fmt_35 rfl (hR _ _ _ rfl) ?_
      refine rp_iload_n (i := 3) d_fmt_chooseByCondition_14 rfl rfl ?_
      refine rp_aaload d_fmt_chooseByCondition_15 rfl (vp_in_nI (by omega) (by decide)) hRA ?_
      refine rp_lload_n (i := 1) d_fmt_chooseByCondition_16 rfl rfl ?_
      refine rp_callV1 d_fmt_chooseByCondition_17 q_fmt_chooseByCondition_158 (Or.inl ⟨_, _, _, ho, rfl⟩) (Nat.le_of_ble_eq_true rfl) (Nat.le_of_ble_eq_true rfl) ?_
      refine s_sec_admits (by omega) (ha s (by omega)) ?_
      refine rp_if_eq (tgt := 25) d_fmt_chooseByCondition_20 (by decide) (fun c20 => ?_) (fun c20 => ?_)
      · refine rp_iinc (i := 3) (y := 1) d_fmt_chooseByCondition_25 rfl (by decide) rfl (Nat.le_of_ble_eq_true rfl) ?_
        refine rp_goto (tgt := 2) d_fmt_chooseByCondition_28 (by decide) ?_
        rw [cf_fst, cf_b_f c20] at k
        refine rp_lv [(0, .ref 0), (1, .long x), (3, .int (nI (s + 1)))] (by rw [← nI_1]; rfl) ?_
        exact ih (s + 1) (by omega) k
      · refine rp_iload_n (i := 3) d_fmt_chooseByCondition_23 rfl rfl ?_
        refine rp_ireturn (ty := .int) d_fmt_chooseByCondition_24 rfl rfl ?_
        rw [cf_fst, cf_b_t c20] at k
        rw [cond, if_pos (by omega)] at k
        exact k
/-- the section that is chosen, or -1 -/
def sel (m : Nat) (any : Bool) (ad : Nat → Bool) (x : Int64) : Int32 := bif any then (if cf_fst ad 0 m < m then nI (cf_fst ad 0 m) else -1) else if m = 1 ∨ 0 < x then 0 else if x < 0 then 1 else if m = 3 then 2 else 0
set_option maxHeartbeats 4000000 in
set_option maxRecDepth 100000 in
theorem s_fmt_chooseByCondition {h : cf_H} {P : Option Value → cf_H → Prop} (hR : cf_ok h) {m : Nat} (hm : h.1 0 5 = nI m) (hm3 : m ≤ 3) {x : Int64} {ad : Nat → Bool} (ha : ∀ t, t < m → adO h (9 + t) x (ad t)) (k : P (some (.int (if cf_fst ad 0 m < m then nI (cf_fst ad 0 m) else -1))) h) : RP k_fmt_chooseByCondition 0 [(0, .ref 0), (1, .long x)] [] h P := by
  refine rp_iconst (v := 0) d_fmt_chooseByCondition_0 (by decide) ?_
  refine rp_istore_n (i := 3) d_fmt_chooseByCondition_1 rfl rfl (Nat.le_of_ble_eq_true rfl) ?_
  refine rp_lv [(0, .ref 0), (1, .long x), (3, .int (nI 0))] rfl ?_
  exact l_fmt_cbc hR hm hm3 ha m 0 (by omega) k
set_option maxHeartbeats 4000000 in
set_option maxRecDepth 100000 in
theorem s_fmt_choosePart {h : cf_H} {P : Option Value → cf_H → Prop} (hR : cf_ok h) {m : Nat} (hm : h.1 0 5 = nI m) (hm3 : m ≤ 3) {any : Bool} (h6 : h.1 0 6 = cf_b any) {x : Int64} {ad : Nat → Bool} (ha : ∀ t, t < m → adO h (9 + t) x (ad t)) (k : P (some (.int (sel m any ad x))) h) : RP k_fmt_choosePart 0 [(0, .ref 0), (1, .long x)] [] h P := by
  refine rp_aload_n (i := 0) d_fmt_choosePart_0 rfl rfl ?_
  refine rp_getI d_fmt_choosePart_1 f_fmt_43 rfl ?_
  rw [h6]
  refine rp_if_eq (tgt := 13) d_fmt_choosePart_4 (by decide) (fun c4 => ?_) (fun c4 => ?_)
  · refine rp_aload_n (i := 0) d_fmt_choosePart_13 rfl rfl ?_
    refine rp_getI d_fmt_choosePart_14 f_fmt_40 rfl ?_
    rw [hm]
    refine rp_iconst (v := 1) d_fmt_choosePart_17 (by decide) ?_
    refine rp_icmp_eq (tgt := 27) d_fmt_choosePart_18 (by decide) (fun c18 => ?_) (fun c18 => ?_)
    · refine rp_iconst (v := 0) d_fmt_choosePart_27 (by decide) ?_
      refine rp_ireturn (ty := .int) d_fmt_choosePart_28 rfl rfl ?_
      rw [sel, cf_b_f c4, cond] at k
      rw [if_pos (Or.inl ((show nI m = (1 : Int32) ↔ m = 1 from nI_eq (b := 1) (by omega) (by decide)).mp c18))] at k
      exact k
    · refine rp_lload_n (i := 1) d_fmt_choosePart_21 rfl rfl ?_
      refine rp_lconst (v := 0) d_fmt_choosePart_22 (by decide) ?_
      refine rp_lcmp d_fmt_choosePart_23 ?_
      refine rp_if_le (tgt := 29) d_fmt_choosePart_24 (by decide) (fun c24 => ?_) (fun c24 => ?_)
      · refine rp_lload_n (i := 1) d_fmt_choosePart_29 rfl rfl ?_
        refine rp_lconst (v := 0) d_fmt_choosePart_30 (by decide) ?_
        refine rp_lcmp d_fmt_choosePart_31 ?_
        refine rp_if_ge (tgt := 37) d_fmt_choosePart_32 (by decide) (fun c32 => ?_) (fun c32 => ?_)
        · refine rp_aload_n (i := 0) d_fmt_choosePart_37 rfl rfl ?_
          refine rp_getI d_fmt_choosePart_38 f_fmt_40 rfl ?_
          rw [hm]
          refine rp_iconst (v := 3) d_fmt_choosePart_41 (by decide) ?_
          refine rp_icmp_ne (tgt := 49) d_fmt_choosePart_42 (by decide) (fun c42 => ?_) (fun c42 => ?_)
          · refine rp_iconst (v := 0) d_fmt_choosePart_49 (by decide) ?_
            refine rp_ireturn (ty := .int) d_fmt_choosePart_50 rfl rfl ?_
            rw [sel, cf_b_f c4, cond] at k
            rw [if_neg (fun z => z.elim (fun z => c18 ((show nI m = (1 : Int32) ↔ m = 1 from nI_eq (b := 1) (by omega) (by decide)).mpr z)) (fun z => absurd ((lg_cmp_le _ _).mp c24) (Int64.not_le.mpr z)))] at k
            rw [if_neg (Int64.not_lt.mpr ((lg_cmp_ge _ _).mp c32))] at k
            rw [if_neg (fun z => c42 ((show nI m = (3 : Int32) ↔ m = 3 from nI_eq (b := 3) (by omega) (by decide)).mpr z))] at k
            exact k
          · refine rp_iconst (v := 2) d_fmt_choosePart_45 (by decide) ?_
            refine rp_goto (tgt := 50) d_fmt_choosePart_46 (by decide) ?_
            refine rp_ireturn (ty := .int) d_fmt_choosePart_50 rfl rfl ?_
            rw [sel, cf_b_f c4, cond] at k
            rw [if_neg (fun z => z.elim (fun z => c18 ((show nI m = (1 : Int32) ↔ m = 1 from nI_eq (b := 1) (by omega) (by decide)).mpr z)) (fun z => absurd ((lg_cmp_le _ _).mp c24) (Int64.not_le.mpr z)))] at k
            rw [if_neg (Int64.not_lt.mpr ((lg_cmp_ge _ _).mp c32))] at k
            rw [if_pos ((show nI m = (3 : Int32) ↔ m = 3 from nI_eq (b := 3) (by omega) (by decide)).mp c42)] at k
            exact k
        · refine rp_iconst (v := 1) d_fmt_choosePart_35 (by decide) ?_
          refine rp_ireturn (ty := .int) d_fmt_choosePart_36 rfl rfl ?_
          rw [sel, cf_b_f c4, cond] at k
          rw [if_neg (fun z => z.elim (fun z => c18 ((show nI m = (1 : Int32) ↔ m = 1 from nI_eq (b := 1) (by omega) (by decide)).mpr z)) (fun z => absurd ((lg_cmp_le _ _).mp c24) (Int64.not_le.mpr z)))] at k
          rw [if_pos (Int64.not_le.mp (fun z => c32 ((lg_cmp_ge _ _).mpr z)))] at k
          exact k
      · refine rp_iconst (v := 0) d_fmt_choosePart_27 (by decide) ?_
        refine rp_ireturn (ty := .int) d_fmt_choosePart_28 rfl rfl ?_
        rw [sel, cf_b_f c4, cond] at k
        rw [if_pos (Or.inr (Int64.not_le.mp (fun z => c24 ((lg_cmp_le _ _).mpr z))))] at k
        exact k
  · refine rp_aload_n (i := 0) d_fmt_choosePart_7 rfl rfl ?_
    refine rp_lload_n (i := 1) d_fmt_choosePart_8 rfl rfl ?_
    refine rp_callV1 d_fmt_choosePart_9 q_fmt_choosePart_155 (Or.inl ⟨_, _, _, rfl, rfl⟩) (Nat.le_of_ble_eq_true rfl) (Nat.le_of_ble_eq_true rfl) ?_
    rw [sel, cf_b_t c4, cond] at k
    refine s_fmt_chooseByCondition hR hm hm3 ha ?_
    refine rp_ireturn (ty := .int) d_fmt_choosePart_12 rfl rfl ?_
    exact k
set_option maxHeartbeats 4000000 in
set_option maxRecDepth 100000 in
theorem s_mod_conditional {h : cf_H} {P : Option Value → cf_H → Prop} (hR : cf_ok h) {s a b : Nat} (hs : r_sec h s a b) {x : Int32} (hx : x = nI s) (k : P (some (.int (cf_b (decide (a < b ∧ h.2.2.2 22 a = 7))))) h) : RP k_mod_conditional 0 [(0, .ref 19), (1, .int x)] [] h P := by
  subst hx
  obtain ⟨s1, s2, s3, s4, s5⟩ := id hs
  refine rp_aload_n (i := 0) d_mod_conditional_0 rfl rfl ?_
  refine rp_getR d_mod_conditional_1 f_mod_25 rfl (hR _ _ _ rfl) ?_
  refine rp_iload_n (i := 1) d_mod_conditional_4 rfl rfl ?_
  refine rp_iaload d_mod_conditional_5 rfl (vp_in_nI (by omega) (by decide)) ?_
  rw [r_s0 hs]
  refine rp_aload_n (i := 0) d_mod_conditional_6 rfl rfl ?_
  refine rp_getR d_mod_conditional_7 f_mod_25 rfl (hR _ _ _ rfl) ?_
  refine rp_iload_n (i := 1) d_mod_conditional_10 rfl rfl ?_
  refine rp_iconst (v := 1) d_mod_conditional_11 (by decide) ?_
  refine rp_iadd d_mod_conditional_12 ?_
  refine rp_iaload d_mod_conditional_13 rfl (by rw [nI_1]; exact vp_in_nI (by omega) (by decide)) ?_
  rw [r_s1 hs]
  refine rp_icmp_ge (tgt := 37) d_mod_conditional_14 (by decide) (fun c14 => ?_) (fun c14 => ?_)
  · refine rp_iconst (v := 0) d_mod_conditional_37 (by decide) ?_
    refine rp_ireturn (ty := .boolean) d_mod_conditional_38 rfl (by first | rfl | decide | assumption) ?_
    rw [decide_eq_false (fun z => absurd ((nI_leI (by omega) (by omega)).mp c14) (by omega))] at k
    exact k
  · refine rp_aload_n (i := 0) d_mod_conditional_17 rfl rfl ?_
    refine rp_getR d_mod_conditional_18 f_mod_16 rfl (hR _ _ _ rfl) ?_
    refine rp_aload_n (i := 0) d_mod_conditional_21 rfl rfl ?_
    refine rp_getR d_mod_conditional_22 f_mod_25 rfl (hR _ _ _ rfl) ?_
    refine rp_iload_n (i := 1) d_mod_conditional_25 rfl rfl ?_
    refine rp_iaload d_mod_conditional_26 rfl (vp_in_nI (by omega) (by decide)) ?_
    rw [r_s0 hs]
    have c14 : a < b := Nat.not_le.mp (fun z => c14 ((nI_leI (by omega) (by omega)).mpr z))
    refine rp_iaload d_mod_conditional_27 rfl (vp_in_nI (by omega) (by decide)) ?_
    rw [nI_clamp (by omega)]
    refine rp_bipush (v := 7) d_mod_conditional_28 (by decide) ?_
    refine rp_icmp_ne (tgt := 37) d_mod_conditional_30 (by decide) (fun c30 => ?_) (fun c30 => ?_)
    · refine rp_iconst (v := 0) d_mod_conditional_37 (by decide) ?_
      refine rp_ireturn (ty := .boolean) d_mod_conditional_38 rfl (by first | rfl | decide | assumption) ?_
      rw [decide_eq_false (fun z => c30 z.2)] at k
      exact k
    · refine rp_iconst (v := 1) d_mod_conditional_33 (by decide) ?_
      refine rp_goto (tgt := 38) d_mod_conditional_34 (by decide) ?_
      refine rp_ireturn (ty := .boolean) d_mod_conditional_38 rfl (by first | rfl | decide | assumption) ?_
      rw [decide_eq_true ⟨c14, c30⟩] at k
      exact k
set_option maxHeartbeats 4000000 in
set_option maxRecDepth 100000 in
theorem s_mod_holds {h : cf_H} {P : Option Value → cf_H → Prop} (hR : cf_ok h) {s a b : Nat} (hs : r_sec h s a b) (hab : a < b) {z : Int32} (hz : z = nI s) {x : Int64} (k : P (some (.int (cf_b (hld (h.2.2.2 23 a) x ((h.2.2.2 24 a).toInt64 * 1000000))))) h) : RP k_mod_holds 0 [(0, .ref 19), (1, .int z), (2, .long x)] [] h P := by
  subst hz
  obtain ⟨s1, s2, s3, s4, s5⟩ := id hs
  refine rp_aload_n (i := 0) d_mod_holds_0 rfl rfl ?_
  refine rp_getR d_mod_holds_1 f_mod_22 rfl (hR _ _ _ rfl) ?_
  refine rp_aload_n (i := 0) d_mod_holds_4 rfl rfl ?_
  refine rp_getR d_mod_holds_5 f_mod_25 rfl (hR _ _ _ rfl) ?_
  refine rp_iload_n (i := 1) d_mod_holds_8 rfl rfl ?_
  refine rp_iaload d_mod_holds_9 rfl (vp_in_nI (by omega) (by decide)) ?_
  rw [r_s0 hs]
  refine rp_iaload d_mod_holds_10 rfl (vp_in_nI (by omega) (by decide)) ?_
  rw [nI_clamp (by omega)]
  refine rp_i2l d_mod_holds_11 ?_
  refine rp_ldc2 (v := 1000000) d_mod_holds_12 l_mod_116 ?_
  refine rp_lmul d_mod_holds_15 ?_
  refine rp_lstore (i := 4) d_mod_holds_16 rfl (Nat.le_of_ble_eq_true rfl) ?_
  refine rp_aload_n (i := 0) d_mod_holds_18 rfl rfl ?_
  refine rp_getR d_mod_holds_19 f_mod_19 rfl (hR _ _ _ rfl) ?_
  refine rp_aload_n (i := 0) d_mod_holds_22 rfl rfl ?_
  refine rp_getR d_mod_holds_23 f_mod_25 rfl (hR _ _ _ rfl) ?_
  refine rp_iload_n (i := 1) d_mod_holds_26 rfl rfl ?_
  refine rp_iaload d_mod_holds_27 rfl (vp_in_nI (by omega) (by decide)) ?_
  rw [r_s0 hs]
  refine rp_iaload d_mod_holds_28 rfl (vp_in_nI (by omega) (by decide)) ?_
  rw [nI_clamp (by omega)]
  refine rp_istore (i := 6) d_mod_holds_29 rfl (Nat.le_of_ble_eq_true rfl) ?_
  refine rp_iload (i := 6) d_mod_holds_31 rfl ?_
  refine rp_iconst (v := 1) d_mod_holds_33 (by decide) ?_
  refine rp_icmp_ne (tgt := 52) d_mod_holds_34 (by decide) (fun c34 => ?_) (fun c34 => ?_)
  · refine rp_iload (i := 6) d_mod_holds_52 rfl ?_
    refine rp_iconst (v := 2) d_mod_holds_54 (by decide) ?_
    refine rp_icmp_ne (tgt := 73) d_mod_holds_55 (by decide) (fun c55 => ?_) (fun c55 => ?_)
    · refine rp_iload (i := 6) d_mod_holds_73 rfl ?_
      refine rp_iconst (v := 3) d_mod_holds_75 (by decide) ?_
      refine rp_icmp_ne (tgt := 94) d_mod_holds_76 (by decide) (fun c76 => ?_) (fun c76 => ?_)
      · refine rp_iload (i := 6) d_mod_holds_94 rfl ?_
        refine rp_iconst (v := 4) d_mod_holds_96 (by decide) ?_
        refine rp_icmp_ne (tgt := 115) d_mod_holds_97 (by decide) (fun c97 => ?_) (fun c97 => ?_)
        · refine rp_iload (i := 6) d_mod_holds_115 rfl ?_
          refine rp_iconst (v := 5) d_mod_holds_117 (by decide) ?_
          refine rp_icmp_ne (tgt := 136) d_mod_holds_118 (by decide) (fun c118 => ?_) (fun c118 => ?_)
          · refine rp_lload_n (i := 2) d_mod_holds_136 rfl rfl ?_
            refine rp_lload (i := 4) d_mod_holds_137 rfl ?_
            refine rp_lcmp d_mod_holds_139 ?_
            refine rp_if_eq (tgt := 147) d_mod_holds_140 (by decide) (fun c140 => ?_) (fun c140 => ?_)
            · refine rp_iconst (v := 0) d_mod_holds_147 (by decide) ?_
              refine rp_ireturn (ty := .boolean) d_mod_holds_148 rfl (by first | rfl | decide | assumption) ?_
              rw [hld, if_neg c34, if_neg c55, if_neg c76, if_neg c97, if_neg c118, decide_eq_true ((lg_cmp_eq _ _).mp c140)] at k
              exact k
            · refine rp_iconst (v := 1) d_mod_holds_143 (by decide) ?_
              refine rp_goto (tgt := 148) d_mod_holds_144 (by decide) ?_
              refine rp_ireturn (ty := .boolean) d_mod_holds_148 rfl (by first | rfl | decide | assumption) ?_
              rw [hld, if_neg c34, if_neg c55, if_neg c76, if_neg c97, if_neg c118, decide_eq_false (fun z => c140 ((lg_cmp_eq _ _).mpr z))] at k
              exact k
          · refine rp_lload_n (i := 2) d_mod_holds_121 rfl rfl ?_
            refine rp_lload (i := 4) d_mod_holds_122 rfl ?_
            refine rp_lcmp d_mod_holds_124 ?_
            refine rp_if_ne (tgt := 132) d_mod_holds_125 (by decide) (fun c125 => ?_) (fun c125 => ?_)
            · refine rp_iconst (v := 0) d_mod_holds_132 (by decide) ?_
              refine rp_goto (tgt := 148) d_mod_holds_133 (by decide) ?_
              refine rp_ireturn (ty := .boolean) d_mod_holds_148 rfl (by first | rfl | decide | assumption) ?_
              rw [hld, if_neg c34, if_neg c55, if_neg c76, if_neg c97, if_pos c118, decide_eq_false (fun z => c125 ((lg_cmp_eq _ _).mpr z))] at k
              exact k
            · refine rp_iconst (v := 1) d_mod_holds_128 (by decide) ?_
              refine rp_goto (tgt := 148) d_mod_holds_129 (by decide) ?_
              refine rp_ireturn (ty := .boolean) d_mod_holds_148 rfl (by first | rfl | decide | assumption) ?_
              rw [hld, if_neg c34, if_neg c55, if_neg c76, if_neg c97, if_pos c118, decide_eq_true ((lg_cmp_eq _ _).mp c125)] at k
              exact k
        · refine rp_lload_n (i := 2) d_mod_holds_100 rfl rfl ?_
          refine rp_lload (i := 4) d_mod_holds_101 rfl ?_
          refine rp_lcmp d_mod_holds_103 ?_
          refine rp_if_lt (tgt := 111) d_mod_holds_104 (by decide) (fun c104 => ?_) (fun c104 => ?_)
          · refine rp_iconst (v := 0) d_mod_holds_111 (by decide) ?_
            refine rp_goto (tgt := 148) d_mod_holds_112 (by decide) ?_
            refine rp_ireturn (ty := .boolean) d_mod_holds_148 rfl (by first | rfl | decide | assumption) ?_
            rw [hld, if_neg c34, if_neg c55, if_neg c76, if_pos c97, decide_eq_false (Int64.not_le.mpr ((lg_cmp_lt _ _).mp c104))] at k
            exact k
          · refine rp_iconst (v := 1) d_mod_holds_107 (by decide) ?_
            refine rp_goto (tgt := 148) d_mod_holds_108 (by decide) ?_
            refine rp_ireturn (ty := .boolean) d_mod_holds_148 rfl (by first | rfl | decide | assumption) ?_
            rw [hld, if_neg c34, if_neg c55, if_neg c76, if_pos c97, decide_eq_true (Int64.not_lt.mp (fun z => c104 ((lg_cmp_lt _ _).mpr z)))] at k
            exact k
      · refine rp_lload_n (i := 2) d_mod_holds_79 rfl rfl ?_
        refine rp_lload (i := 4) d_mod_holds_80 rfl ?_
        refine rp_lcmp d_mod_holds_82 ?_
        refine rp_if_le (tgt := 90) d_mod_holds_83 (by decide) (fun c83 => ?_) (fun c83 => ?_)
        · refine rp_iconst (v := 0) d_mod_holds_90 (by decide) ?_
          refine rp_goto (tgt := 148) d_mod_holds_91 (by decide) ?_
          refine rp_ireturn (ty := .boolean) d_mod_holds_148 rfl (by first | rfl | decide | assumption) ?_
          rw [hld, if_neg c34, if_neg c55, if_pos c76, decide_eq_false (Int64.not_lt.mpr ((lg_cmp_le _ _).mp c83))] at k
          exact k
        · refine rp_iconst (v := 1) d_mod_holds_86 (by decide) ?_
          refine rp_goto (tgt := 148) d_mod_holds_87 (by decide) ?_
          refine rp_ireturn (ty := .boolean) d_mod_holds_148 rfl (by first | rfl | decide | assumption) ?_
          rw [hld, if_neg c34, if_neg c55, if_pos c76, decide_eq_true (Int64.not_le.mp (fun z => c83 ((lg_cmp_le _ _).mpr z)))] at k
          exact k
    · refine rp_lload_n (i := 2) d_mod_holds_58 rfl rfl ?_
      refine rp_lload (i := 4) d_mod_holds_59 rfl ?_
      refine rp_lcmp d_mod_holds_61 ?_
      refine rp_if_gt (tgt := 69) d_mod_holds_62 (by decide) (fun c62 => ?_) (fun c62 => ?_)
      · refine rp_iconst (v := 0) d_mod_holds_69 (by decide) ?_
        refine rp_goto (tgt := 148) d_mod_holds_70 (by decide) ?_
        refine rp_ireturn (ty := .boolean) d_mod_holds_148 rfl (by first | rfl | decide | assumption) ?_
        rw [hld, if_neg c34, if_pos c55, decide_eq_false (Int64.not_le.mpr ((lg_cmp_gt _ _).mp c62))] at k
        exact k
      · refine rp_iconst (v := 1) d_mod_holds_65 (by decide) ?_
        refine rp_goto (tgt := 148) d_mod_holds_66 (by decide) ?_
        refine rp_ireturn (ty := .boolean) d_mod_holds_148 rfl (by first | rfl | decide | assumption) ?_
        rw [hld, if_neg c34, if_pos c55, decide_eq_true (Int64.not_lt.mp (fun z => c62 ((lg_cmp_gt _ _).mpr z)))] at k
        exact k
  · refine rp_lload_n (i := 2) d_mod_holds_37 rfl rfl ?_
    refine rp_lload (i := 4) d_mod_holds_38 rfl ?_
    refine rp_lcmp d_mod_holds_40 ?_
    refine rp_if_ge (tgt := 48) d_mod_holds_41 (by decide) (fun c41 => ?_) (fun c41 => ?_)
    · refine rp_iconst (v := 0) d_mod_holds_48 (by decide) ?_
      refine rp_goto (tgt := 148) d_mod_holds_49 (by decide) ?_
      refine rp_ireturn (ty := .boolean) d_mod_holds_148 rfl (by first | rfl | decide | assumption) ?_
      rw [hld, if_pos c34, decide_eq_false (Int64.not_lt.mpr ((lg_cmp_ge _ _).mp c41))] at k
      exact k
    · refine rp_iconst (v := 1) d_mod_holds_44 (by decide) ?_
      refine rp_goto (tgt := 148) d_mod_holds_45 (by decide) ?_
      refine rp_ireturn (ty := .boolean) d_mod_holds_148 rfl (by first | rfl | decide | assumption) ?_
      rw [hld, if_pos c34, decide_eq_true (Int64.not_le.mp (fun z => c41 ((lg_cmp_ge _ _).mpr z)))] at k
      exact k
set_option maxHeartbeats 4000000 in
set_option maxRecDepth 100000 in
theorem l_mod_any {h : cf_H} {P : Option Value → cf_H → Prop} (hR : cf_ok h) {m : Nat} (hm : h.1 19 2 = nI m) (hm3 : m ≤ 3) {cd : Nat → Bool} (hcd : ∀ t, t < m → ∃ a b, r_sec h t a b ∧ cd t = decide (a < b ∧ h.2.2.2 22 a = 7)) : ∀ (n i : Nat) (g : Bool), i + n = m → (k : P (some (.int (cf_b (g || x_any cd i n)))) h) → RP k_mod_anyCondition 4 [(0, .ref 19), (1, .int (cf_b g)), (2, .int (nI i))] [] h P := by
  intro n
  induction n with
  | zero =>
    intro i g e k
    have e : i = m := e
    refine rp_iload_n (i := 2) d_mod_anyCondition_4 rfl rfl ?_
    refine rp_aload_n (i := 0) d_mod_anyCondition_5 rfl rfl ?_
    refine rp_getI d_mod_anyCondition_6 f_mod_79 rfl ?_
    rw [hm]
    refine rp_icmp_ge (tgt := 36) d_mod_anyCondition_9 (by decide) (fun c9 => ?_) (fun c9 => ?_)
    · refine rp_iload_n (i := 1) d_mod_anyCondition_36 rfl rfl ?_
      refine rp_ireturn (ty := .boolean) d_mod_anyCondition_37 rfl (by cases g <;> rfl) ?_
      rw [show x_any cd i 0 = false from rfl, Bool.or_false] at k
      exact k
    · exact absurd (by rw [e]; exact Int32.le_refl _) c9
  | succ n ih =>
    intro i g e k
    obtain ⟨a, b, hs, hd⟩ := hcd i (by omega)
    refine rp_iload_n (i := 2) d_mod_anyCondition_4 rfl rfl ?_
    refine rp_aload_n (i := 0) d_mod_anyCondition_5 rfl rfl ?_
    refine rp_getI d_mod_anyCondition_6 f_mod_79 rfl ?_
    rw [hm]
    refine rp_icmp_ge (tgt := 36) d_mod_anyCondition_9 (by decide) (fun c9 => ?_) (fun c9 => ?_)
    · exact absurd c9 (nI_ge (by omega) (by omega))
    · refine rp_iload_n (i := 1) d_mod_anyCondition_12 rfl rfl ?_
      refine rp_if_ne (tgt := 24) d_mod_anyCondition_13 (by decide) (fun c13 => ?_) (fun c13 => ?_)
      · refine rp_iconst (v := 1) d_mod_anyCondition_24 (by decide) ?_
        refine rp_goto (tgt := 29) d_mod_anyCondition_25 (by decide) ?_
        refine rp_istore_n (i := 1) d_mod_anyCondition_29 rfl rfl (Nat.le_of_ble_eq_true rfl) ?_
        refine rp_iinc (i := 2) (y := 1) d_mod_anyCondition_30 rfl (by decide) rfl (Nat.le_of_ble_eq_true rfl) ?_
        refine rp_goto (tgt := 4) d_mod_anyCondition_33 (by decide) ?_
        have eg : (g || cd i) = true := by rw [cf_b_t c13]; rfl
        rw [x_any_S, ← Bool.or_assoc, eg] at k
        refine rp_lv [(0, .ref 19), (1, .int (cf_b true)), (2, .int (nI (i + 1)))] (by rw [← nI_1]; rfl) ?_
        exact ih (i + 1) true (by omega) k
      · refine rp_aload_n (i := 0) d_mod_anyCondition_16 rfl rfl ?_
        refine rp_iload_n (i := 2) d_mod_anyCondition_17 rfl rfl ?_
        refine rp_callV1 d_mod_anyCondition_18 q_mod_anyCondition_118 (Or.inl ⟨_, _, _, rfl, rfl⟩) (Nat.le_of_ble_eq_true rfl) (Nat.le_of_ble_eq_true rfl) ?_
        refine s_mod_conditional hR hs rfl ?_
        rw [← hd]
        refine rp_if_eq (tgt := 28) d_mod_anyCondition_21 (by decide) (fun c21 => ?_) (fun c21 => ?_)
        · refine rp_iconst (v := 0) d_mod_anyCondition_28 (by decide) ?_
          refine rp_istore_n (i := 1) d_mod_anyCondition_29 rfl rfl (Nat.le_of_ble_eq_true rfl) ?_
          refine rp_iinc (i := 2) (y := 1) d_mod_anyCondition_30 rfl (by decide) rfl (Nat.le_of_ble_eq_true rfl) ?_
          refine rp_goto (tgt := 4) d_mod_anyCondition_33 (by decide) ?_
          have eg : (g || cd i) = false := by rw [cf_b_f c13, cf_b_f c21]; rfl
          rw [x_any_S, ← Bool.or_assoc, eg] at k
          refine rp_lv [(0, .ref 19), (1, .int (cf_b false)), (2, .int (nI (i + 1)))] (by rw [← nI_1]; rfl) ?_
          exact ih (i + 1) false (by omega) k
        · refine rp_iconst (v := 1) d_mod_anyCondition_24 (by decide) ?_
          refine rp_goto (tgt := 29) d_mod_anyCondition_25 (by decide) ?_
          refine rp_istore_n (i := 1) d_mod_anyCondition_29 rfl rfl (Nat.le_of_ble_eq_true rfl) ?_
          refine rp_iinc (i := 2) (y := 1) d_mod_anyCondition_30 rfl (by decide) rfl (Nat.le_of_ble_eq_true rfl) ?_
          refine rp_goto (tgt := 4) d_mod_anyCondition_33 (by decide) ?_
          have eg : (g || cd i) = true := by rw [cf_b_t c21]; exact Bool.or_true _
          rw [x_any_S, ← Bool.or_assoc, eg] at k
          refine rp_lv [(0, .ref 19), (1, .int (cf_b true)), (2, .int (nI (i + 1)))] (by rw [← nI_1]; rfl) ?_
          exact ih (i + 1) true (by omega) k
set_option maxHeartbeats 4000000 in
set_option maxRecDepth 100000 in
theorem s_mod_anyCondition {h : cf_H} {P : Option Value → cf_H → Prop} (hR : cf_ok h) {m : Nat} (hm : h.1 19 2 = nI m) (hm3 : m ≤ 3) {cd : Nat → Bool} (hcd : ∀ t, t < m → ∃ a b, r_sec h t a b ∧ cd t = decide (a < b ∧ h.2.2.2 22 a = 7)) (k : P (some (.int (cf_b (x_any cd 0 m)))) h) : RP k_mod_anyCondition 0 [(0, .ref 19)] [] h P := by
  refine rp_iconst (v := 0) d_mod_anyCondition_0 (by decide) ?_
  refine rp_istore_n (i := 1) d_mod_anyCondition_1 rfl rfl (Nat.le_of_ble_eq_true rfl) ?_
  refine rp_iconst (v := 0) d_mod_anyCondition_2 (by decide) ?_
  refine rp_istore_n (i := 2) d_mod_anyCondition_3 rfl rfl (Nat.le_of_ble_eq_true rfl) ?_
  refine rp_lv [(0, .ref 19), (1, .int (cf_b false)), (2, .int (nI 0))] rfl ?_
  refine l_mod_any hR hm hm3 hcd m 0 false (by omega) ?_
  rw [Bool.false_or]; exact k
set_option maxHeartbeats 4000000 in
set_option maxRecDepth 100000 in
theorem l_mod_sf {h : cf_H} {P : Option Value → cf_H → Prop} (hR : cf_ok h) {m : Nat} (hm : h.1 19 2 = nI m) (hm3 : m ≤ 3) {x : Int64} {cd ad : Nat → Bool} (had : ∀ t, t < m → ∃ a b, r_sec h t a b ∧ cd t = decide (a < b ∧ h.2.2.2 22 a = 7) ∧ ad t = (!cd t || hld (h.2.2.2 23 a) x ((h.2.2.2 24 a).toInt64 * 1000000))) : ∀ (n s : Nat), s + n = m → (k : P (some (.int (if cf_fst ad s n < m then nI (cf_fst ad s n) else -1))) h) → RP k_mod_sectionFor 57 [(0, .ref 19), (1, .long x), (3, .int (nI s))] [] h P := by
  intro n
  induction n with
  | zero =>
    intro s e k
    have e : s = m := e
    refine rp_iload_n (i := 3) d_mod_sectionFor_57 rfl rfl ?_
    refine rp_aload_n (i := 0) d_mod_sectionFor_58 rfl rfl ?_
    refine rp_getI d_mod_sectionFor_59 f_mod_79 rfl ?_
    rw [hm]
    refine rp_icmp_ge (tgt := 90) d_mod_sectionFor_62 (by decide) (fun c62 => ?_) (fun c62 => ?_)
    · refine rp_iconst (v := (-1)) d_mod_sectionFor_90 (by decide) ?_
      refine rp_ireturn (ty := .int) d_mod_sectionFor_91 rfl rfl ?_
      rw [show cf_fst ad s 0 = s from rfl, if_neg (by omega)] at k
      exact k
    · exact absurd (by rw [e]; exact Int32.le_refl _) c62
  | succ n ih =>
    intro s e k
    obtain ⟨a, b, hs, hd, hd2⟩ := had s (by omega)
    refine rp_iload_n (i := 3) d_mod_sectionFor_57 rfl rfl ?_
    refine rp_aload_n (i := 0) d_mod_sectionFor_58 rfl rfl ?_
    refine rp_getI d_mod_sectionFor_59 f_mod_79 rfl ?_
    rw [hm]
    refine rp_icmp_ge (tgt := 90) d_mod_sectionFor_62 (by decide) (fun c62 => ?_) (fun c62 => ?_)
    · exact absurd c62 (nI_ge (by omega) (by omega))
    · refine rp_aload_n (i := 0) d_mod_sectionFor_65 rfl rfl ?_
      refine rp_iload_n (i := 3) d_mod_sectionFor_66 rfl rfl ?_
      refine rp_callV1 d_mod_sectionFor_67 q_mod_sectionFor_118 (Or.inl ⟨_, _, _, rfl, rfl⟩) (Nat.le_of_ble_eq_true rfl) (Nat.le_of_ble_eq_true rfl) ?_
      refine s_mod_conditional hR hs rfl ?_
      rw [← hd]
      refine rp_if_eq (tgt := 82) d_mod_sectionFor_70 (by decide) (fun c70 => ?_) (fun c70 => ?_)
      · refine rp_iload_n (i := 3) d_mod_sectionFor_82 rfl rfl ?_
        refine rp_ireturn (ty := .int) d_mod_sectionFor_83 rfl rfl ?_
        have e0 : ad s = true := by rw [hd2, cf_b_f c70]; rfl
        rw [cf_fst, e0] at k
        rw [cond, if_pos (by omega)] at k
        exact k
      · refine rp_aload_n (i := 0) d_mod_sectionFor_73 rfl rfl ?_
        refine rp_iload_n (i := 3) d_mod_sectionFor_74 rfl rfl ?_
        refine rp_lload_n (i := 1) d_mod_sectionFor_75 rfl rfl ?_
        refine rp_callV2 d_mod_sectionFor_76 q_mod_sectionFor_125 (Or.inl ⟨_, _, _, rfl, rfl⟩) (Nat.le_of_ble_eq_true rfl) (Nat.le_of_ble_eq_true rfl) ?_
        have hcs := cf_b_t c70
        refine s_mod_holds hR hs (by rw [hd] at hcs; exact (of_decide_eq_true hcs).1) rfl ?_
        refine rp_if_eq (tgt := 84) d_mod_sectionFor_79 (by decide) (fun c79 => ?_) (fun c79 => ?_)
        · refine rp_iinc (i := 3) (y := 1) d_mod_sectionFor_84 rfl (by decide) rfl (Nat.le_of_ble_eq_true rfl) ?_
          refine rp_goto (tgt := 57) d_mod_sectionFor_87 (by decide) ?_
          have e0 : ad s = false := by rw [hd2, cf_b_t c70, cf_b_f c79]; rfl
          rw [cf_fst, e0] at k
          refine rp_lv [(0, .ref 19), (1, .long x), (3, .int (nI (s + 1)))] (by rw [← nI_1]; rfl) ?_
          exact ih (s + 1) (by omega) k
        · refine rp_iload_n (i := 3) d_mod_sectionFor_82 rfl rfl ?_
          refine rp_ireturn (ty := .int) d_mod_sectionFor_83 rfl rfl ?_
          have e0 : ad s = true := by rw [hd2, cf_b_t c79]; exact Bool.or_true _
          rw [cf_fst, e0] at k
          rw [cond, if_pos (by omega)] at k
          exact k
set_option maxHeartbeats 4000000 in
set_option maxRecDepth 100000 in
theorem s_mod_sectionFor {h : cf_H} {P : Option Value → cf_H → Prop} (hR : cf_ok h) {m : Nat} (hm : h.1 19 2 = nI m) (hm1 : 1 ≤ m) (hm3 : m ≤ 3) {x : Int64} {cd ad : Nat → Bool} (had : ∀ t, t < m → ∃ a b, r_sec h t a b ∧ cd t = decide (a < b ∧ h.2.2.2 22 a = 7) ∧ ad t = (!cd t || hld (h.2.2.2 23 a) x ((h.2.2.2 24 a).toInt64 * 1000000))) (k : P (some (.int (sel m (x_any cd 0 m) ad x))) h) : RP k_mod_sectionFor 0 [(0, .ref 19), (1, .long x)] [] h P := by
  refine rp_aload_n (i := 0) d_mod_sectionFor_0 rfl rfl ?_
  refine rp_callV0 d_mod_sectionFor_1 q_mod_sectionFor_121 (Or.inl ⟨_, _, _, rfl, rfl⟩) (Nat.le_of_ble_eq_true rfl) (Nat.le_of_ble_eq_true rfl) ?_
  refine s_mod_anyCondition hR hm hm3 (fun t ht => by obtain ⟨a, b, q1, q2, q3⟩ := had t ht; exact ⟨a, b, q1, q2⟩) ?_
  refine rp_if_ne (tgt := 55) d_mod_sectionFor_4 (by decide) (fun c4 => ?_) (fun c4 => ?_)
  · refine rp_iconst (v := 0) d_mod_sectionFor_55 (by decide) ?_
    refine rp_istore_n (i := 3) d_mod_sectionFor_56 rfl rfl (Nat.le_of_ble_eq_true rfl) ?_
    rw [sel, cf_b_t c4, cond] at k
    refine rp_lv [(0, .ref 19), (1, .long x), (3, .int (nI 0))] rfl ?_
    exact l_mod_sf hR hm hm3 had m 0 (by omega) k
  · refine rp_aload_n (i := 0) d_mod_sectionFor_7 rfl rfl ?_
    refine rp_getI d_mod_sectionFor_8 f_mod_79 rfl ?_
    rw [hm]
    refine rp_iconst (v := 3) d_mod_sectionFor_11 (by decide) ?_
    refine rp_icmp_ne (tgt := 25) d_mod_sectionFor_12 (by decide) (fun c12 => ?_) (fun c12 => ?_)
    · refine rp_iconst (v := 0) d_mod_sectionFor_25 (by decide) ?_
      refine rp_istore_n (i := 3) d_mod_sectionFor_26 rfl rfl (Nat.le_of_ble_eq_true rfl) ?_
      refine rp_lload_n (i := 1) d_mod_sectionFor_27 rfl rfl ?_
      refine rp_lconst (v := 0) d_mod_sectionFor_28 (by decide) ?_
      refine rp_lcmp d_mod_sectionFor_29 ?_
      refine rp_if_ge (tgt := 45) d_mod_sectionFor_30 (by decide) (fun c30 => ?_) (fun c30 => ?_)
      · refine rp_iload_n (i := 3) d_mod_sectionFor_45 rfl rfl ?_
        refine rp_if_eq (tgt := 53) d_mod_sectionFor_46 (by decide) (fun c46 => ?_) (fun c46 => ?_)
        · refine rp_iconst (v := 0) d_mod_sectionFor_53 (by decide) ?_
          refine rp_ireturn (ty := .int) d_mod_sectionFor_54 rfl rfl ?_
          rw [sel, cf_b_f c4, cond] at k
          have key : (if m = 1 ∨ 0 < x then (0 : Int32) else if x < 0 then 1 else if m = 3 then 2 else 0) = 0 := by
            by_cases q1 : m = 1 ∨ 0 < x
            · rw [if_pos q1]
            · rw [if_neg q1]
              rw [if_neg (Int64.not_lt.mpr ((lg_cmp_ge _ _).mp c30))]
              rw [if_neg (fun z => c12 ((show nI m = (3 : Int32) ↔ m = 3 from nI_eq (b := 3) (by omega) (by decide)).mpr z))]
          rw [key] at k
          exact k
        · exact absurd rfl c46
      · refine rp_aload_n (i := 0) d_mod_sectionFor_33 rfl rfl ?_
        refine rp_getI d_mod_sectionFor_34 f_mod_79 rfl ?_
        rw [hm]
        refine rp_iconst (v := 1) d_mod_sectionFor_37 (by decide) ?_
        refine rp_icmp_le (tgt := 45) d_mod_sectionFor_38 (by decide) (fun c38 => ?_) (fun c38 => ?_)
        · refine rp_iload_n (i := 3) d_mod_sectionFor_45 rfl rfl ?_
          refine rp_if_eq (tgt := 53) d_mod_sectionFor_46 (by decide) (fun c46 => ?_) (fun c46 => ?_)
          · refine rp_iconst (v := 0) d_mod_sectionFor_53 (by decide) ?_
            refine rp_ireturn (ty := .int) d_mod_sectionFor_54 rfl rfl ?_
            rw [sel, cf_b_f c4, cond] at k
            have key : (if m = 1 ∨ 0 < x then (0 : Int32) else if x < 0 then 1 else if m = 3 then 2 else 0) = 0 := by
              by_cases q1 : m = 1 ∨ 0 < x
              · rw [if_pos q1]
              · rw [if_neg q1]
                exact absurd (Or.inl ((fun (z : m ≤ 1) => by omega) (((show nI m ≤ (1 : Int32) ↔ m ≤ 1 from nI_leI (b := 1) (by omega) (by decide))).mp c38))) q1
            rw [key] at k
            exact k
          · exact absurd rfl c46
        · refine rp_iconst (v := 1) d_mod_sectionFor_41 (by decide) ?_
          refine rp_goto (tgt := 54) d_mod_sectionFor_42 (by decide) ?_
          refine rp_ireturn (ty := .int) d_mod_sectionFor_54 rfl rfl ?_
          rw [sel, cf_b_f c4, cond] at k
          have x0 : x < 0 := Int64.not_le.mp (fun z => c30 ((lg_cmp_ge _ _).mpr z))
          have m1 : ¬ m = 1 := fun z => c38 (by rw [z]; decide)
          rw [if_neg (fun z => z.elim m1 (fun z => Int64.lt_irrefl (Int64.lt_trans x0 z))), if_pos x0] at k
          exact k
    · refine rp_lload_n (i := 1) d_mod_sectionFor_15 rfl rfl ?_
      refine rp_lconst (v := 0) d_mod_sectionFor_16 (by decide) ?_
      refine rp_lcmp d_mod_sectionFor_17 ?_
      refine rp_if_ne (tgt := 25) d_mod_sectionFor_18 (by decide) (fun c18 => ?_) (fun c18 => ?_)
      · refine rp_iconst (v := 0) d_mod_sectionFor_25 (by decide) ?_
        refine rp_istore_n (i := 3) d_mod_sectionFor_26 rfl rfl (Nat.le_of_ble_eq_true rfl) ?_
        refine rp_lload_n (i := 1) d_mod_sectionFor_27 rfl rfl ?_
        refine rp_lconst (v := 0) d_mod_sectionFor_28 (by decide) ?_
        refine rp_lcmp d_mod_sectionFor_29 ?_
        refine rp_if_ge (tgt := 45) d_mod_sectionFor_30 (by decide) (fun c30 => ?_) (fun c30 => ?_)
        · refine rp_iload_n (i := 3) d_mod_sectionFor_45 rfl rfl ?_
          refine rp_if_eq (tgt := 53) d_mod_sectionFor_46 (by decide) (fun c46 => ?_) (fun c46 => ?_)
          · refine rp_iconst (v := 0) d_mod_sectionFor_53 (by decide) ?_
            refine rp_ireturn (ty := .int) d_mod_sectionFor_54 rfl rfl ?_
            rw [sel, cf_b_f c4, cond] at k
            have key : (if m = 1 ∨ 0 < x then (0 : Int32) else if x < 0 then 1 else if m = 3 then 2 else 0) = 0 := by
              by_cases q1 : m = 1 ∨ 0 < x
              · rw [if_pos q1]
              · rw [if_neg q1]
                rw [if_neg (Int64.not_lt.mpr ((lg_cmp_ge _ _).mp c30))]
                exact absurd ((lg_cmp_eq _ _).mpr (Int64.le_antisymm (Int64.not_lt.mp (fun z => q1 (Or.inr z))) ((lg_cmp_ge _ _).mp c30))) c18
            rw [key] at k
            exact k
          · exact absurd rfl c46
        · refine rp_aload_n (i := 0) d_mod_sectionFor_33 rfl rfl ?_
          refine rp_getI d_mod_sectionFor_34 f_mod_79 rfl ?_
          rw [hm]
          refine rp_iconst (v := 1) d_mod_sectionFor_37 (by decide) ?_
          refine rp_icmp_le (tgt := 45) d_mod_sectionFor_38 (by decide) (fun c38 => ?_) (fun c38 => ?_)
          · refine rp_iload_n (i := 3) d_mod_sectionFor_45 rfl rfl ?_
            refine rp_if_eq (tgt := 53) d_mod_sectionFor_46 (by decide) (fun c46 => ?_) (fun c46 => ?_)
            · refine rp_iconst (v := 0) d_mod_sectionFor_53 (by decide) ?_
              refine rp_ireturn (ty := .int) d_mod_sectionFor_54 rfl rfl ?_
              rw [sel, cf_b_f c4, cond] at k
              have key : (if m = 1 ∨ 0 < x then (0 : Int32) else if x < 0 then 1 else if m = 3 then 2 else 0) = 0 := by
                by_cases q1 : m = 1 ∨ 0 < x
                · rw [if_pos q1]
                · rw [if_neg q1]
                  exact absurd (Or.inl ((fun (z : m ≤ 1) => by omega) (((show nI m ≤ (1 : Int32) ↔ m ≤ 1 from nI_leI (b := 1) (by omega) (by decide))).mp c38))) q1
              rw [key] at k
              exact k
            · exact absurd rfl c46
          · refine rp_iconst (v := 1) d_mod_sectionFor_41 (by decide) ?_
            refine rp_goto (tgt := 54) d_mod_sectionFor_42 (by decide) ?_
            refine rp_ireturn (ty := .int) d_mod_sectionFor_54 rfl rfl ?_
            rw [sel, cf_b_f c4, cond] at k
            have x0 : x < 0 := Int64.not_le.mp (fun z => c30 ((lg_cmp_ge _ _).mpr z))
            have m1 : ¬ m = 1 := fun z => c38 (by rw [z]; decide)
            rw [if_neg (fun z => z.elim m1 (fun z => Int64.lt_irrefl (Int64.lt_trans x0 z))), if_pos x0] at k
            exact k
      · refine rp_iconst (v := 1) d_mod_sectionFor_21 (by decide) ?_
        refine rp_goto (tgt := 26) d_mod_sectionFor_22 (by decide) ?_
        refine rp_istore_n (i := 3) d_mod_sectionFor_26 rfl rfl (Nat.le_of_ble_eq_true rfl) ?_
        refine rp_lload_n (i := 1) d_mod_sectionFor_27 rfl rfl ?_
        refine rp_lconst (v := 0) d_mod_sectionFor_28 (by decide) ?_
        refine rp_lcmp d_mod_sectionFor_29 ?_
        refine rp_if_ge (tgt := 45) d_mod_sectionFor_30 (by decide) (fun c30 => ?_) (fun c30 => ?_)
        · refine rp_iload_n (i := 3) d_mod_sectionFor_45 rfl rfl ?_
          refine rp_if_eq (tgt := 53) d_mod_sectionFor_46 (by decide) (fun c46 => ?_) (fun c46 => ?_)
          · exact absurd c46 (by decide)
          · refine rp_iconst (v := 2) d_mod_sectionFor_49 (by decide) ?_
            refine rp_goto (tgt := 54) d_mod_sectionFor_50 (by decide) ?_
            refine rp_ireturn (ty := .int) d_mod_sectionFor_54 rfl rfl ?_
            rw [sel, cf_b_f c4, cond] at k
            have x0 : x = 0 := (lg_cmp_eq _ _).mp c18
            have m3 : m = 3 := (show nI m = (3 : Int32) ↔ m = 3 from nI_eq (b := 3) (by omega) (by decide)).mp c12
            subst x0
            rw [if_neg (fun z => z.elim (fun z => by omega) (fun z => Int64.lt_irrefl z)), if_neg Int64.lt_irrefl, if_pos m3] at k
            exact k
        · refine rp_aload_n (i := 0) d_mod_sectionFor_33 rfl rfl ?_
          refine rp_getI d_mod_sectionFor_34 f_mod_79 rfl ?_
          rw [hm]
          refine rp_iconst (v := 1) d_mod_sectionFor_37 (by decide) ?_
          refine rp_icmp_le (tgt := 45) d_mod_sectionFor_38 (by decide) (fun c38 => ?_) (fun c38 => ?_)
          · refine rp_iload_n (i := 3) d_mod_sectionFor_45 rfl rfl ?_
            refine rp_if_eq (tgt := 53) d_mod_sectionFor_46 (by decide) (fun c46 => ?_) (fun c46 => ?_)
            · exact absurd c46 (by decide)
            · refine rp_iconst (v := 2) d_mod_sectionFor_49 (by decide) ?_
              refine rp_goto (tgt := 54) d_mod_sectionFor_50 (by decide) ?_
              refine rp_ireturn (ty := .int) d_mod_sectionFor_54 rfl rfl ?_
              rw [sel, cf_b_f c4, cond] at k
              have x0 : x = 0 := (lg_cmp_eq _ _).mp c18
              have m3 : m = 3 := (show nI m = (3 : Int32) ↔ m = 3 from nI_eq (b := 3) (by omega) (by decide)).mp c12
              subst x0
              rw [if_neg (fun z => z.elim (fun z => by omega) (fun z => Int64.lt_irrefl z)), if_neg Int64.lt_irrefl, if_pos m3] at k
              exact k
          · refine rp_iconst (v := 1) d_mod_sectionFor_41 (by decide) ?_
            refine rp_goto (tgt := 54) d_mod_sectionFor_42 (by decide) ?_
            refine rp_ireturn (ty := .int) d_mod_sectionFor_54 rfl rfl ?_
            rw [sel, cf_b_f c4, cond] at k
            have x0 : x < 0 := Int64.not_le.mp (fun z => c30 ((lg_cmp_ge _ _).mpr z))
            have m1 : ¬ m = 1 := fun z => c38 (by rw [z]; decide)
            rw [if_neg (fun z => z.elim m1 (fun z => Int64.lt_irrefl (Int64.lt_trans x0 z))), if_pos x0] at k
            exact k
