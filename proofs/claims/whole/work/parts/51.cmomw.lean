/-! MOMENTS: the class's write -/
/-- what writing a moment changes -/
def mF (h0 h : cf_H) : Prop := (∀ o k, ¬ (o = 18 ∧ k = 3) → ¬ (o = 12 ∧ (k = 1 ∨ k = 2 ∨ k = 3 ∨ k = 4)) → ¬ (o = 13 ∧ k = 1) → h.1 o k = h0.1 o k) ∧ (∀ o k, ¬ (o = 18 ∧ k = 2) → h.2.1 o k = h0.2.1 o k) ∧ h.2.2.1 = h0.2.2.1 ∧ (∀ o, o ≠ 14 → h.2.2.2 o = h0.2.2.2 o)
theorem mF.rf (h : cf_H) : mF h h := ⟨fun _ _ _ _ _ => rfl, fun _ _ _ => rfl, rfl, fun _ _ => rfl⟩
theorem mF.m {h0 h h' : cf_H} (f : mF h0 h) (g : m_fr h h') : mF h0 h' := ⟨fun o k e1 e2 e3 => (g.1 o k e1).trans (f.1 o k e1 e2 e3), fun o k e => (g.2.1 o k e).trans (f.2.1 o k e), by rw [show h'.2.2.1 = h.2.2.1 from by rw [g.2.2]]; exact f.2.2.1, fun o e => by rw [show h'.2.2.2 = h.2.2.2 from by rw [g.2.2]]; exact f.2.2.2 o e⟩
theorem mF.k {h0 h h' : cf_H} (f : mF h0 h) (g : k_fr h h') : mF h0 h' := ⟨fun o k e1 e2 e3 => (g.1 o k e2).trans (f.1 o k e1 e2 e3), fun o k e => by rw [show h'.2.1 = h.2.1 from by rw [g.2]]; exact f.2.1 o k e, by rw [show h'.2.2.1 = h.2.2.1 from by rw [g.2]]; exact f.2.2.1, fun o e => by rw [show h'.2.2.2 = h.2.2.2 from by rw [g.2]]; exact f.2.2.2 o e⟩
theorem mF.w {h0 h h' : cf_H} {L : List Int32} (f : mF h0 h) (w : wT h L h') : mF h0 h' := ⟨fun o k e1 e2 e3 => (w.2.1.1 o k e3).trans (f.1 o k e1 e2 e3), fun o k e => by rw [w.2.1.2.1]; exact f.2.1 o k e, w.2.1.2.2.1.trans f.2.2.1, fun o e => (w.2.1.2.2.2 o e).trans (f.2.2.2 o e)⟩
theorem mF.ok {h0 h : cf_H} (f : mF h0 h) (hR : cf_ok h0) : cf_ok h := fun o k q e => by rw [f.2.2.1]; exact hR o k q e

set_option maxHeartbeats 4000000 in
set_option maxRecDepth 100000 in
theorem l_mom_write {h0 : cf_H} {P : Option Value → cf_H → Prop} {D S : Nat} (hm : mH h0 D S) (hD : D ≤ 10 ^ 10) (hS : S < 86400) {o : Nat} (ho9 : 9 ≤ o ∧ o ≤ 11) {XS : List r_K} (hB : x_B h0 XS) {tw : Bool} {y m dd wd a b : Nat} (hb1 : h0.1 o 1 = nI b) (htw : h0.1 o 13 = cf_b tw) (hb : b ≤ 40) (hF : ∀ j, a ≤ j → j < b → x_ty XS j = 8 → ∃ r, x_de XS j = nI r ∧ fO (x_va XS j) r ∧ ((x_va XS j = 121 ∨ x_va XS j = 109 ∨ x_va XS j = 100) → dH h0 y m dd wd)) : ∀ (n j : Nat) (h : cf_H) (L : List Int32), j + n = b → a ≤ j → wT h0 L h → L.length + (fl (cMt D S tw y m dd wd (x_ty XS) (x_va XS) (x_de XS)) j n).length ≤ 256 → (k : ∀ h', wT h0 (L ++ fl (cMt D S tw y m dd wd (x_ty XS) (x_va XS) (x_de XS)) j n) h' → P (some (.int 1)) h') → RP k_mom_write 61 [(0, .ref 18), (1, .ref 2), (2, .ref o), (5, .int (nI j))] [] h P := by
  have ho := s_ho ho9
  intro n
  induction n with
  | zero =>
    intro j h L e ha w hl k
    have e : j = b := e
    refine rp_iload (i := 5) d_mom_write_61 rfl ?_
    refine rp_aload_n (i := 2) d_mom_write_63 rfl rfl ?_
    refine rp_getI d_mom_write_64 f_mom_47 ho ?_
    rw [(w.2.1.1 o 1 (by omega)).trans hb1]
    refine rp_icmp_ge (tgt := 87) d_mom_write_67 (by decide) (fun c67 => ?_) (fun c67 => ?_)
    · refine rp_iconst (v := 1) d_mom_write_87 (by decide) ?_
      refine rp_ireturn (ty := .boolean) d_mom_write_88 rfl (by first | rfl | decide | assumption) ?_
      refine k h ?_
      show wT h0 (L ++ []) h
      rw [List.append_nil]; exact w
    · exact absurd (by rw [e]; exact Int32.le_refl _) c67
  | succ n ih =>
    intro j h L e ha w hl k
    refine rp_iload (i := 5) d_mom_write_61 rfl ?_
    refine rp_aload_n (i := 2) d_mom_write_63 rfl rfl ?_
    refine rp_getI d_mom_write_64 f_mom_47 ho ?_
    rw [(w.2.1.1 o 1 (by omega)).trans hb1]
    refine rp_icmp_ge (tgt := 87) d_mom_write_67 (by decide) (fun c67 => ?_) (fun c67 => ?_)
    · exact absurd c67 (nI_ge (by omega) (by omega))
    · refine rp_aload_n (i := 0) d_mom_write_70 rfl rfl ?_
      refine rp_aload_n (i := 1) d_mom_write_71 rfl rfl ?_
      refine rp_iload (i := 5) d_mom_write_72 rfl ?_
      refine rp_aload_n (i := 2) d_mom_write_74 rfl rfl ?_
      refine rp_getI d_mom_write_75 f_mom_50 ho ?_
      rw [(w.2.1.1 o 13 (by omega)).trans htw]
      refine rp_callV3 d_mom_write_78 q_mom_write_53 (Or.inl ⟨_, _, _, rfl, rfl⟩) (Nat.le_of_ble_eq_true rfl) (Nat.le_of_ble_eq_true rfl) ?_
      rw [fl_S, List.length_append] at hl
      simp only [fl_S] at k
      refine s_mom_writeToken w hm hD hS hB (y := y) (m := m) (dd := dd) (wd := wd) (by omega) (hF j ha (by omega)) rfl rfl (by omega) (fun h w => ?_)
      refine rp_iinc (i := 5) (y := 1) d_mom_write_81 rfl (by decide) rfl (Nat.le_of_ble_eq_true rfl) ?_
      refine rp_goto (tgt := 61) d_mom_write_84 (by decide) ?_
      refine rp_lv [(0, .ref 18), (1, .ref 2), (2, .ref o), (5, .int (nI (j + 1)))] (by rw [← nI_1]; rfl) ?_
      refine ih (j + 1) h _ (by omega) (by omega) w (by rw [List.length_append]; omega) (fun h3 z => k h3 ?_)
      rw [List.append_assoc] at z; exact z
theorem k_wd_b (c : Bool) (s : Nat) : 1 ≤ k_wd c s ∧ k_wd c s ≤ 7 := by unfold k_wd; split <;> omega
theorem q_do_le31 (c : Bool) (y m : Nat) : q_do c y m ≤ 31 := by unfold q_do; (repeat' split) <;> omega
set_option maxHeartbeats 4000000 in
set_option maxRecDepth 100000 in
theorem t_mom_55 {h h1 : cf_H} {P : Option Value → cf_H → Prop} (hR : cf_ok h) {L : List Int32} (hL : h1.1 13 1 = nI L.length ∧ tx (h1.2.2.2 14) L) {D S : Nat} (hm : mH h1 D S) (hD : D ≤ 10 ^ 10) (hS : S < 86400) {o : Nat} (ho9 : 9 ≤ o ∧ o ≤ 11) {XS : List r_K} (hB : x_B h1 XS) {tw : Bool} {y m dd wd a b : Nat} (ha1 : h1.1 o 0 = nI a) (hb1 : h1.1 o 1 = nI b) (htw : h1.1 o 13 = cf_b tw) (hab : a ≤ b) (hb : b ≤ 40) (hF : ∀ j, a ≤ j → j < b → x_ty XS j = 8 → ∃ r, x_de XS j = nI r ∧ fO (x_va XS j) r ∧ ((x_va XS j = 121 ∨ x_va XS j = 109 ∨ x_va XS j = 100) → dH h1 y m dd wd)) (f : mF h h1) (hl : L.length + (fl (cMt D S tw y m dd wd (x_ty XS) (x_va XS) (x_de XS)) a (b - a)).length ≤ 256) (k : ∀ h', mF h h' → h'.1 13 1 = nI (L ++ fl (cMt D S tw y m dd wd (x_ty XS) (x_va XS) (x_de XS)) a (b - a)).length → tx (h'.2.2.2 14) (L ++ fl (cMt D S tw y m dd wd (x_ty XS) (x_va XS) (x_de XS)) a (b - a)) → P (some (.int 1)) h') : RP k_mom_write 55 [(0, .ref 18), (1, .ref 2), (2, .ref o)] [] h1 P := by
  have ho := s_ho ho9
  refine rp_aload_n (i := 2) d_mom_write_55 rfl rfl ?_
  refine rp_getI d_mom_write_56 f_mom_43 ho ?_
  rw [ha1]
  refine rp_istore (i := 5) d_mom_write_59 rfl (Nat.le_of_ble_eq_true rfl) ?_
  refine rp_lv [(0, .ref 18), (1, .ref 2), (2, .ref o), (5, .int (nI a))] rfl ?_
  exact l_mom_write hm hD hS ho9 hB (a := a) hb1 htw hb hF (b - a) a h1 L (by omega) (Nat.le_refl _) ⟨f.ok hR, w_fr.rf h1, hL.1, hL.2⟩ hl (fun h2 w => k h2 (f.w w) w.2.2.1 w.2.2.2)
set_option maxHeartbeats 4000000 in
set_option maxRecDepth 100000 in
theorem s_mom_write {h : cf_H} {P : Option Value → cf_H → Prop} (hR : cf_ok h) {L : List Int32} (hL : h.1 13 1 = nI L.length ∧ tx (h.2.2.2 14) L) {c : Bool} (hc : h.1 12 0 = cf_b c) {o : Nat} (ho9 : 9 ≤ o ∧ o ≤ 11) {XS : List r_K} (hB : x_B h XS) {tw nd : Bool} {a b : Nat} (ha1 : h.1 o 0 = nI a) (hb1 : h.1 o 1 = nI b) (htw : h.1 o 13 = cf_b tw) (hnd : h.1 o 14 = cf_b nd) (hab : a ≤ b) (hb : b ≤ 40) (hF : ∀ j, a ≤ j → j < b → x_ty XS j = 8 → ∃ r, x_de XS j = nI r ∧ fO (x_va XS j) r ∧ ((x_va XS j = 121 ∨ x_va XS j = 109 ∨ x_va XS j = 100) → nd = true)) {x : Int64} (hx2 : x ≤ lN (10 ^ 15)) (hl : ∀ u y m dd, u ≤ 10 ^ 15 → mDy u ≤ k_hi c → y ≤ 9999 → m ≤ 12 → dd ≤ 31 → L.length + (fl (cMt (mDy u) (mSe u) tw y m dd (k_wd c (mDy u)) (x_ty XS) (x_va XS) (x_de XS)) a (b - a)).length ≤ 256) (k0 : ∀ h', mF h h' → (x < 0 ∨ ∃ u, x = lN u ∧ u ≤ 10 ^ 15 ∧ (k_hi c < mDy u ∨ (nd = true ∧ mDy u < k_lo c))) → h'.1 13 1 = nI L.length → P (some (.int 0)) h') (k1 : ∀ h' u y m dd, x = lN u → u ≤ 10 ^ 15 → mDy u ≤ k_hi c → (nd = true → k_lo c ≤ mDy u ∧ q_day c (mDy u) y m dd) → L.length + (fl (cMt (mDy u) (mSe u) tw y m dd (k_wd c (mDy u)) (x_ty XS) (x_va XS) (x_de XS)) a (b - a)).length ≤ 256 → mF h h' → h'.1 13 1 = nI (L ++ fl (cMt (mDy u) (mSe u) tw y m dd (k_wd c (mDy u)) (x_ty XS) (x_va XS) (x_de XS)) a (b - a)).length → tx (h'.2.2.2 14) (L ++ fl (cMt (mDy u) (mSe u) tw y m dd (k_wd c (mDy u)) (x_ty XS) (x_va XS) (x_de XS)) a (b - a)) → P (some (.int 1)) h') : RP k_mom_write 0 [(0, .ref 18), (1, .ref 2), (2, .ref o), (3, .long x)] [] h P := by
  have ho := s_ho ho9
  by_cases hx0 : x < 0
  · refine rp_lload_n (i := 3) d_mom_write_0 rfl rfl ?_
    refine rp_lconst (v := 0) d_mom_write_1 (by decide) ?_
    refine rp_lcmp d_mom_write_2 ?_
    refine rp_if_ge (tgt := 8) d_mom_write_3 (by decide) (fun c3 => ?_) (fun c3 => ?_)
    · exact absurd ((lg_cmp_ge _ _).mp c3) (Int64.not_le.mpr hx0)
    · refine rp_iconst (v := 0) d_mom_write_6 (by decide) ?_
      refine rp_ireturn (ty := .boolean) d_mom_write_7 rfl (by first | rfl | decide | assumption) ?_
      exact k0 h (mF.rf h) (Or.inl hx0) hL.1
  · obtain ⟨u, hu0, rfl⟩ := pk_lOf hx0
    have hu : u ≤ 10 ^ 15 := (pk_lLE hu0 (by decide)).mp hx2
    refine rp_lload_n (i := 3) d_mom_write_0 rfl rfl ?_
    refine rp_lconst (v := 0) d_mom_write_1 (by decide) ?_
    refine rp_lcmp d_mom_write_2 ?_
    refine rp_if_ge (tgt := 8) d_mom_write_3 (by decide) (fun c3 => ?_) (fun c3 => ?_)
    · refine rp_aload_n (i := 0) d_mom_write_8 rfl rfl ?_
      refine rp_lload_n (i := 3) d_mom_write_9 rfl rfl ?_
      refine rp_callV1 d_mom_write_10 q_mom_write_19 (Or.inl ⟨_, _, _, rfl, rfl⟩) (Nat.le_of_ble_eq_true rfl) (Nat.le_of_ble_eq_true rfl) ?_
      refine s_mom_roundToSeconds rfl hu (fun h1 g1 g2 => ?_)
      have f1 : mF h h1 := (mF.rf h).m g2
      have hR1 := f1.ok hR
      have hc1 : h1.1 12 0 = cf_b c := (g2.1 12 0 (by decide)).trans hc
      have hdl := mDy_le hu
      have hsl := mSe_lt u
      have hhi : k_hi c < 2 ^ 24 := by cases c <;> decide
      have l13 : h1.1 13 1 = nI L.length := (g2.1 13 1 (by decide)).trans hL.1
      have t13 : tx (h1.2.2.2 14) L := by rw [show h1.2.2.2 = h.2.2.2 from by rw [g2.2.2]]; exact hL.2
      refine rp_aload_n (i := 0) d_mom_write_13 rfl rfl ?_
      refine rp_getJ d_mom_write_14 f_mom_23 rfl ?_
      rw [g1.1]
      refine rp_aload_n (i := 0) d_mom_write_17 rfl rfl ?_
      refine rp_getR d_mom_write_18 f_mom_15 rfl (hR1 _ _ _ rfl) ?_
      refine rp_callV0 d_mom_write_21 q_mom_write_27 (Or.inl ⟨_, _, _, rfl, rfl⟩) (Nat.le_of_ble_eq_true rfl) (Nat.le_of_ble_eq_true rfl) ?_
      refine s_cal_lastSerial hc1 ?_
      refine rp_i2l d_mom_write_24 ?_
      rw [nI_l (by omega)]
      refine rp_lcmp d_mom_write_25 ?_
      refine rp_if_le (tgt := 31) d_mom_write_26 (by decide) (fun c26 => ?_) (fun c26 => ?_)
      · refine rp_aload_n (i := 2) d_mom_write_31 rfl rfl ?_
        refine rp_getI d_mom_write_32 f_mom_33 ho ?_
        rw [(g2.1 o 14 (by omega)).trans hnd]
        refine rp_if_eq (tgt := 55) d_mom_write_35 (by decide) (fun c35 => ?_) (fun c35 => ?_)
        · have c26 : mDy u ≤ k_hi c := (pk_lLE (by omega) (by omega)).mp ((lg_cmp_le _ _).mp c26)
          have c35 : nd = false := cf_b_f c35
          have r0 : ∀ k, h1.1 o k = h.1 o k := fun k => g2.1 o k (by omega)
          have hB2 : x_B h1 XS := ⟨hR1, ⟨by rw [f1.1 2 3 (by decide) (by decide) (by decide)]; exact hB.2.1.1, by rw [f1.2.2.2 3 (by decide), f1.2.2.2 4 (by decide), f1.2.2.2 5 (by decide)]; exact hB.2.1.2⟩, hB.2.2⟩
          refine rp_lv [(0, .ref 18), (1, .ref 2), (2, .ref o)] rfl ?_
          refine t_mom_55 (h := h) hR ⟨l13, t13⟩ (D := mDy u) (S := mSe u) g1 (by omega) hsl ho9 hB2 (tw := tw) (y := 0) (m := 0) (dd := 0) (wd := k_wd c (mDy u)) ((r0 0).trans ha1) ((r0 1).trans hb1) ((r0 13).trans htw) hab hb (fun j j1 j2 j3 => ?_) f1 (hl u 0 0 0 hu c26 (by omega) (by omega) (by omega)) (fun h3 z1 z2 z3 => k1 h3 u 0 0 0 rfl hu c26 (fun q => absurd q (by rw [c35]; decide)) (hl u 0 0 0 hu c26 (by omega) (by omega) (by omega)) z1 z2 z3)
          obtain ⟨r, r1, r2, r3⟩ := hF j j1 j2 j3
          exact ⟨r, r1, r2, fun q => absurd (r3 q) (by rw [c35]; decide)⟩
        · refine rp_aload_n (i := 0) d_mom_write_38 rfl rfl ?_
          refine rp_getR d_mom_write_39 f_mom_15 rfl (hR1 _ _ _ rfl) ?_
          refine rp_aload_n (i := 0) d_mom_write_42 rfl rfl ?_
          refine rp_getJ d_mom_write_43 f_mom_23 rfl ?_
          rw [g1.1]
          refine rp_l2i d_mom_write_46 ?_
          rw [lN_i]
          refine rp_callV1 d_mom_write_47 q_mom_write_39 (Or.inl ⟨_, _, _, rfl, rfl⟩) (Nat.le_of_ble_eq_true rfl) (Nat.le_of_ble_eq_true rfl) ?_
          refine s_cal_findDay hc1 (fun q => ?_) (fun h2 s y m dd q1 q2 q3 q4 q5 q6 q7 => ?_)
          · have c26 : mDy u ≤ k_hi c := (pk_lLE (by omega) (by omega)).mp ((lg_cmp_le _ _).mp c26)
            have qlo : mDy u < k_lo c := by
              rcases q with q | q
              · exact (nI_ltI (by omega) (by cases c <;> decide)).mp q
              · exact absurd ((nI_ltI (by omega) (by omega)).mp q) (by omega)
            refine rp_if_ne (tgt := 55) d_mom_write_50 (by decide) (fun c50 => ?_) (fun c50 => ?_)
            · exact absurd rfl c50
            · refine rp_iconst (v := 0) d_mom_write_53 (by decide) ?_
              refine rp_ireturn (ty := .boolean) d_mom_write_54 rfl (by first | rfl | decide | assumption) ?_
              exact k0 h1 f1 (Or.inr ⟨u, rfl, hu, Or.inr ⟨cf_b_t c35, qlo⟩⟩) l13
          · have hs31 : s < 2 ^ 31 := by omega
            have es : mDy u = s := (nI_eq (by omega) hs31).mp q1
            subst es
            have qd := k_day_q q2 q4
            obtain ⟨_, y1, m1, m2, _, d1, _⟩ := id qd
            have w1 := k_wd_b c (mDy u)
            have d2 := q_do_le31 c y m
            have f2 := f1.k q7
            have r0 : ∀ k, h2.1 o k = h.1 o k := fun k => (q7.1 o k (by omega)).trans (g2.1 o k (by omega))
            have hB2 : x_B h2 XS := ⟨f2.ok hR, ⟨by rw [f2.1 2 3 (by decide) (by decide) (by decide)]; exact hB.2.1.1, by rw [f2.2.2.2 3 (by decide), f2.2.2.2 4 (by decide), f2.2.2.2 5 (by decide)]; exact hB.2.1.2⟩, hB.2.2⟩
            refine rp_if_ne (tgt := 55) d_mom_write_50 (by decide) (fun c50 => ?_) (fun c50 => ?_)
            · refine rp_lv [(0, .ref 18), (1, .ref 2), (2, .ref o)] rfl ?_
              refine t_mom_55 (h := h) hR ⟨(q7.1 13 1 (by decide)).trans l13, by rw [show h2.2.2.2 = h1.2.2.2 from by rw [q7.2]]; exact t13⟩ (D := mDy u) (S := mSe u) ⟨by rw [show h2.2.1 = h1.2.1 from by rw [q7.2]]; exact g1.1, (q7.1 18 3 (by decide)).trans g1.2⟩ (by omega) hsl ho9 hB2 (tw := tw) (y := y) (m := m) (dd := dd) (wd := k_wd c (mDy u)) ((r0 0).trans ha1) ((r0 1).trans hb1) ((r0 13).trans htw) hab hb (fun j j1 j2 j3 => ?_) f2 (hl u y m dd hu q3 (by omega) m2 (by omega)) (fun h3 z1 z2 z3 => k1 h3 u y m dd rfl hu q3 (fun _ => ⟨q2, qd⟩) (hl u y m dd hu q3 (by omega) m2 (by omega)) z1 z2 z3)
              obtain ⟨r, r1, r2, r3⟩ := hF j j1 j2 j3
              exact ⟨r, r1, r2, fun _ => ⟨q5, q6, m1, m2, w1.1, w1.2, y1, by omega⟩⟩
            · exact absurd c50 (by decide)
      · refine rp_iconst (v := 0) d_mom_write_29 (by decide) ?_
        refine rp_ireturn (ty := .boolean) d_mom_write_30 rfl (by first | rfl | decide | assumption) ?_
        have c26 : k_hi c < mDy u := Nat.not_le.mp (fun q => c26 ((lg_cmp_le _ _).mpr ((pk_lLE (by omega) (by omega)).mpr q)))
        exact k0 h1 f1 (Or.inr ⟨u, rfl, hu, Or.inl c26⟩) l13
    · exact absurd ((lg_cmp_ge _ _).mpr (Int64.not_lt.mp hx0)) c3
