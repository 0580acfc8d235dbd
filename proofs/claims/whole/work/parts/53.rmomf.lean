/-! MOMENTS: the reference's fields and moment -/
def dFt (v : Int32) (r : Nat) (y m dd wd : Nat) : List Int32 := if v = 121 ∧ r = 4 then pn y 1 else if v = 121 then pn (y % 100) 2 else if v = 109 ∧ r < 3 then pn m r else if v = 109 then mth m else if r < 3 then pn dd r else wkd wd
def h12 (mer : Bool) (H : Nat) : Nat := bif mer then (if H % 12 = 0 then 12 else H % 12) else H
def tFt (t v : Int32) (r : Nat) (mer : Bool) (D S : Nat) : List Int32 := if t = 10 then aT S else if t = 8 then eT v (D * 86400 + S) else if v = 104 then pn (h12 mer (S / 3600)) r else pn (if v = 115 then S % 60 else S / 60 % 60) r
def rMt (D S : Nat) (y m dd wd : Nat) (ty fi se tx : Nat → Int32) (a b k : Nat) : List Int32 := if ty k = 1 then rLt tx (fi k) (se k) else if rFd ty k = true ∧ rDy ty fi se a b k = true then dFt (fi k) (se k).toNatClampNeg y m dd wd else if rFd ty k = true then tFt (ty k) (fi k) (se k).toNatClampNeg (!decide (r_ct ty 10 a b = 0)) D S else []
theorem q_dt_in {c : Bool} {D : Nat} {p : Int32} {y m dd : Nat} (h1 : k_lo c ≤ D) (h2 : D ≤ k_hi c) (hp : ¬ (p < 0 ∨ 3 < p)) : q_dt c (nI D) p y m dd = if p = 3 then nI (k_wd c D) else if p = 0 then nI y else if p = 1 then nI m else nI dd := by
  have hhi : k_hi c < 2 ^ 24 := by cases c <;> decide
  unfold q_dt
  rw [if_neg, nI_clamp (by omega)]
  rintro (z | z | z | z)
  · exact absurd ((nI_ltI (by omega) (by omega)).mp z) (by omega)
  · exact absurd ((nI_ltI (by omega) (by omega)).mp z) (by omega)
  · exact hp (Or.inl z)
  · exact hp (Or.inr z)

theorem mth_len {m : Nat} (h1 : 1 ≤ m) (h2 : m ≤ 12) : (mth m).length = 3 := by
  obtain ⟨m, rfl⟩ : ∃ q, m = q + 1 := ⟨m - 1, by omega⟩
  rw [mth_ch m (by omega)]; rfl
theorem wkd_len {m : Nat} (h1 : 1 ≤ m) (h2 : m ≤ 7) : (wkd m).length = 3 := by
  obtain ⟨m, rfl⟩ : ∃ q, m = q + 1 := ⟨m - 1, by omega⟩
  rw [wkd_ch m (by omega)]; rfl
set_option maxHeartbeats 4000000 in
set_option maxRecDepth 100000 in
theorem s_mod_dailyField {h0 h : cf_H} {P : Option Value → cf_H → Prop} {L : List Int32} (w : vT h0 L h) {K : Nat} (hK : K < 40) {v : Int32} {r : Nat} (hv : h0.2.2.2 23 K = v) (hr : h0.2.2.2 24 K = nI r) (hr4 : r ≤ 4) {c : Bool} (hc : h0.1 19 9 = cf_b c) {D y m dd : Nat} (hlo : k_lo c ≤ D) (hh : D ≤ k_hi c) (hq : q_day c D y m dd) {x z : Int32} (hx : x = nI K) (hz : z = nI D) (hl : L.length + (dFt v r y m dd (k_wd c D)).length ≤ 600) (k : ∀ h', vT h0 (L ++ dFt v r y m dd (k_wd c D)) h' → P none h') : RP k_mod_dailyField 0 [(0, .ref 19), (1, .int x), (2, .int z)] [] h P := by
  subst hx; subst hz
  have hR := w.ok
  have hc1 : h.1 19 9 = cf_b c := (w.2.1.1 19 9 (by decide)).trans hc
  have hhi : k_hi c < 2 ^ 24 := by cases c <;> decide
  obtain ⟨_, y1, m1, m2, _, d1, _⟩ := id hq
  have d2 := q_do_le31 c y m
  have wb := k_wd_b c D
  have t18 := t18
  refine rp_aload_n (i := 0) d_mod_dailyField_0 rfl rfl ?_
  refine rp_getR d_mod_dailyField_1 f_mod_19 rfl (hR _ _ _ rfl) ?_
  refine rp_iload_n (i := 1) d_mod_dailyField_4 rfl rfl ?_
  refine rp_iaload d_mod_dailyField_5 rfl (vp_in_nI (by omega) (by decide)) ?_
  rw [w.2.1.2.2.2 23 (by decide), nI_clamp (by omega), hv]
  refine rp_istore_n (i := 3) d_mod_dailyField_6 rfl rfl (Nat.le_of_ble_eq_true rfl) ?_
  refine rp_aload_n (i := 0) d_mod_dailyField_7 rfl rfl ?_
  refine rp_getR d_mod_dailyField_8 f_mod_22 rfl (hR _ _ _ rfl) ?_
  refine rp_iload_n (i := 1) d_mod_dailyField_11 rfl rfl ?_
  refine rp_iaload d_mod_dailyField_12 rfl (vp_in_nI (by omega) (by decide)) ?_
  rw [w.2.1.2.2.2 24 (by decide), nI_clamp (by omega), hr]
  refine rp_istore (i := 4) d_mod_dailyField_13 rfl (Nat.le_of_ble_eq_true rfl) ?_
  refine rp_iload_n (i := 3) d_mod_dailyField_15 rfl rfl ?_
  refine rp_bipush (v := 121) d_mod_dailyField_16 (by decide) ?_
  refine rp_icmp_ne (tgt := 42) d_mod_dailyField_18 (by decide) (fun c18 => ?_) (fun c18 => ?_)
  · refine rp_iload_n (i := 3) d_mod_dailyField_42 rfl rfl ?_
    refine rp_bipush (v := 121) d_mod_dailyField_43 (by decide) ?_
    refine rp_icmp_ne (tgt := 66) d_mod_dailyField_45 (by decide) (fun c45 => ?_) (fun c45 => ?_)
    · refine rp_iload_n (i := 3) d_mod_dailyField_66 rfl rfl ?_
      refine rp_bipush (v := 109) d_mod_dailyField_67 (by decide) ?_
      refine rp_icmp_ne (tgt := 94) d_mod_dailyField_69 (by decide) (fun c69 => ?_) (fun c69 => ?_)
      · refine rp_iload_n (i := 3) d_mod_dailyField_94 rfl rfl ?_
        refine rp_bipush (v := 109) d_mod_dailyField_95 (by decide) ?_
        refine rp_icmp_ne (tgt := 113) d_mod_dailyField_97 (by decide) (fun c97 => ?_) (fun c97 => ?_)
        · refine rp_iload (i := 4) d_mod_dailyField_113 rfl ?_
          refine rp_iconst (v := 3) d_mod_dailyField_115 (by decide) ?_
          refine rp_icmp_ge (tgt := 135) d_mod_dailyField_116 (by decide) (fun c116 => ?_) (fun c116 => ?_)
          · refine rp_aload_n (i := 0) d_mod_dailyField_135 rfl rfl ?_
            refine rp_aload_n (i := 0) d_mod_dailyField_136 rfl rfl ?_
            refine rp_iload_n (i := 2) d_mod_dailyField_137 rfl rfl ?_
            refine rp_iconst (v := 3) d_mod_dailyField_138 (by decide) ?_
            refine rp_callV2 d_mod_dailyField_139 q_mod_dailyField_215 (Or.inl ⟨_, _, _, rfl, rfl⟩) (Nat.le_of_ble_eq_true rfl) (Nat.le_of_ble_eq_true rfl) ?_
            refine s_mod_date hc1 (y := y) (m := m) (dd := dd) (fun _ s q1 q2 q3 => ?_) ?_
            · have : D = s := (nI_eq (by omega) (by omega)).mp q1
              rw [← this]; exact hq
            rw [q_dt_in hlo hh (by decide)]
            rw [show (if (3 : Int32) = 3 then nI (k_wd c D) else if (3 : Int32) = 0 then nI y else if (3 : Int32) = 1 then nI m else nI dd) = nI (k_wd c D) from rfl]
            refine rp_callV1 d_mod_dailyField_142 q_mod_dailyField_221 (Or.inl ⟨_, _, _, rfl, rfl⟩) (Nat.le_of_ble_eq_true rfl) (Nat.le_of_ble_eq_true rfl) ?_
            have ec : dFt v r y m dd (k_wd c D) = wkd (k_wd c D) := by unfold dFt; rw [if_neg (fun q => c18 q.1), if_neg c18, if_neg (fun q => c69 q.1), if_neg c69, if_neg (fun q => absurd ((show (3 : Int32) ≤ nI r ↔ 3 ≤ r from nI_leI (a := 3) (by decide) (by omega)).mp c116) (by omega))]
            rw [ec] at hl k
            rw [wkd_len wb.1 wb.2] at hl
            refine s_mod_weekday w wb.1 wb.2 hl rfl (fun h2 w2 => ?_)
            refine rp_return d_mod_dailyField_145 rfl ?_
            exact k h2 w2
          · refine rp_aload_n (i := 0) d_mod_dailyField_119 rfl rfl ?_
            refine rp_aload_n (i := 0) d_mod_dailyField_120 rfl rfl ?_
            refine rp_iload_n (i := 2) d_mod_dailyField_121 rfl rfl ?_
            refine rp_iconst (v := 2) d_mod_dailyField_122 (by decide) ?_
            refine rp_callV2 d_mod_dailyField_123 q_mod_dailyField_215 (Or.inl ⟨_, _, _, rfl, rfl⟩) (Nat.le_of_ble_eq_true rfl) (Nat.le_of_ble_eq_true rfl) ?_
            refine s_mod_date hc1 (y := y) (m := m) (dd := dd) (fun _ s q1 q2 q3 => ?_) ?_
            · have : D = s := (nI_eq (by omega) (by omega)).mp q1
              rw [← this]; exact hq
            rw [q_dt_in hlo hh (by decide)]
            rw [show (if (2 : Int32) = 3 then nI (k_wd c D) else if (2 : Int32) = 0 then nI y else if (2 : Int32) = 1 then nI m else nI dd) = nI dd from rfl]
            refine rp_i2l d_mod_dailyField_126 ?_
            rw [nI_l (by omega)]
            refine rp_iload (i := 4) d_mod_dailyField_127 rfl ?_
            refine rp_callV2 d_mod_dailyField_129 q_mod_dailyField_172 (Or.inl ⟨_, _, _, rfl, rfl⟩) (Nat.le_of_ble_eq_true rfl) (Nat.le_of_ble_eq_true rfl) ?_
            have ec : dFt v r y m dd (k_wd c D) = pn dd r := by unfold dFt; rw [if_neg (fun q => c18 q.1), if_neg c18, if_neg (fun q => c69 q.1), if_neg c69, if_pos (Nat.not_le.mp (fun q => c116 ((show (3 : Int32) ≤ nI r ↔ 3 ≤ r from nI_leI (a := 3) (by decide) (by omega)).mpr q)))]
            rw [ec] at hl k
            refine s_mod_putNumber w rfl rfl (by omega) (by omega) hl (fun h2 w2 => ?_)
            refine rp_goto (tgt := 145) d_mod_dailyField_132 (by decide) ?_
            refine rp_return d_mod_dailyField_145 rfl ?_
            exact k h2 w2
        · exact absurd c97 c69
      · refine rp_iload (i := 4) d_mod_dailyField_72 rfl ?_
        refine rp_iconst (v := 3) d_mod_dailyField_74 (by decide) ?_
        refine rp_icmp_ge (tgt := 94) d_mod_dailyField_75 (by decide) (fun c75 => ?_) (fun c75 => ?_)
        · refine rp_iload_n (i := 3) d_mod_dailyField_94 rfl rfl ?_
          refine rp_bipush (v := 109) d_mod_dailyField_95 (by decide) ?_
          refine rp_icmp_ne (tgt := 113) d_mod_dailyField_97 (by decide) (fun c97 => ?_) (fun c97 => ?_)
          · exact absurd c69 c97
          · refine rp_aload_n (i := 0) d_mod_dailyField_100 rfl rfl ?_
            refine rp_aload_n (i := 0) d_mod_dailyField_101 rfl rfl ?_
            refine rp_iload_n (i := 2) d_mod_dailyField_102 rfl rfl ?_
            refine rp_iconst (v := 1) d_mod_dailyField_103 (by decide) ?_
            refine rp_callV2 d_mod_dailyField_104 q_mod_dailyField_215 (Or.inl ⟨_, _, _, rfl, rfl⟩) (Nat.le_of_ble_eq_true rfl) (Nat.le_of_ble_eq_true rfl) ?_
            refine s_mod_date hc1 (y := y) (m := m) (dd := dd) (fun _ s q1 q2 q3 => ?_) ?_
            · have : D = s := (nI_eq (by omega) (by omega)).mp q1
              rw [← this]; exact hq
            rw [q_dt_in hlo hh (by decide)]
            rw [show (if (1 : Int32) = 3 then nI (k_wd c D) else if (1 : Int32) = 0 then nI y else if (1 : Int32) = 1 then nI m else nI dd) = nI m from rfl]
            refine rp_callV1 d_mod_dailyField_107 q_mod_dailyField_218 (Or.inl ⟨_, _, _, rfl, rfl⟩) (Nat.le_of_ble_eq_true rfl) (Nat.le_of_ble_eq_true rfl) ?_
            have ec : dFt v r y m dd (k_wd c D) = mth m := by unfold dFt; rw [if_neg (fun q => c18 q.1), if_neg c18, if_neg (fun q => absurd ((show (3 : Int32) ≤ nI r ↔ 3 ≤ r from nI_leI (a := 3) (by decide) (by omega)).mp c75) (by omega)), if_pos c69]
            rw [ec] at hl k
            rw [mth_len m1 m2] at hl
            refine s_mod_month w m1 m2 hl rfl (fun h2 w2 => ?_)
            refine rp_goto (tgt := 145) d_mod_dailyField_110 (by decide) ?_
            refine rp_return d_mod_dailyField_145 rfl ?_
            exact k h2 w2
        · refine rp_aload_n (i := 0) d_mod_dailyField_78 rfl rfl ?_
          refine rp_aload_n (i := 0) d_mod_dailyField_79 rfl rfl ?_
          refine rp_iload_n (i := 2) d_mod_dailyField_80 rfl rfl ?_
          refine rp_iconst (v := 1) d_mod_dailyField_81 (by decide) ?_
          refine rp_callV2 d_mod_dailyField_82 q_mod_dailyField_215 (Or.inl ⟨_, _, _, rfl, rfl⟩) (Nat.le_of_ble_eq_true rfl) (Nat.le_of_ble_eq_true rfl) ?_
          refine s_mod_date hc1 (y := y) (m := m) (dd := dd) (fun _ s q1 q2 q3 => ?_) ?_
          · have : D = s := (nI_eq (by omega) (by omega)).mp q1
            rw [← this]; exact hq
          rw [q_dt_in hlo hh (by decide)]
          rw [show (if (1 : Int32) = 3 then nI (k_wd c D) else if (1 : Int32) = 0 then nI y else if (1 : Int32) = 1 then nI m else nI dd) = nI m from rfl]
          refine rp_i2l d_mod_dailyField_85 ?_
          rw [nI_l (by omega)]
          refine rp_iload (i := 4) d_mod_dailyField_86 rfl ?_
          refine rp_callV2 d_mod_dailyField_88 q_mod_dailyField_172 (Or.inl ⟨_, _, _, rfl, rfl⟩) (Nat.le_of_ble_eq_true rfl) (Nat.le_of_ble_eq_true rfl) ?_
          have ec : dFt v r y m dd (k_wd c D) = pn m r := by unfold dFt; rw [if_neg (fun q => c18 q.1), if_neg c18, if_pos ⟨c69, Nat.not_le.mp (fun q => c75 ((show (3 : Int32) ≤ nI r ↔ 3 ≤ r from nI_leI (a := 3) (by decide) (by omega)).mpr q))⟩]
          rw [ec] at hl k
          refine s_mod_putNumber w rfl rfl (by omega) (by omega) hl (fun h2 w2 => ?_)
          refine rp_goto (tgt := 145) d_mod_dailyField_91 (by decide) ?_
          refine rp_return d_mod_dailyField_145 rfl ?_
          exact k h2 w2
    · exact absurd c45 c18
  · refine rp_iload (i := 4) d_mod_dailyField_21 rfl ?_
    refine rp_iconst (v := 4) d_mod_dailyField_23 (by decide) ?_
    refine rp_icmp_ne (tgt := 42) d_mod_dailyField_24 (by decide) (fun c24 => ?_) (fun c24 => ?_)
    · refine rp_iload_n (i := 3) d_mod_dailyField_42 rfl rfl ?_
      refine rp_bipush (v := 121) d_mod_dailyField_43 (by decide) ?_
      refine rp_icmp_ne (tgt := 66) d_mod_dailyField_45 (by decide) (fun c45 => ?_) (fun c45 => ?_)
      · exact absurd c18 c45
      · refine rp_aload_n (i := 0) d_mod_dailyField_48 rfl rfl ?_
        refine rp_aload_n (i := 0) d_mod_dailyField_49 rfl rfl ?_
        refine rp_iload_n (i := 2) d_mod_dailyField_50 rfl rfl ?_
        refine rp_iconst (v := 0) d_mod_dailyField_51 (by decide) ?_
        refine rp_callV2 d_mod_dailyField_52 q_mod_dailyField_215 (Or.inl ⟨_, _, _, rfl, rfl⟩) (Nat.le_of_ble_eq_true rfl) (Nat.le_of_ble_eq_true rfl) ?_
        refine s_mod_date hc1 (y := y) (m := m) (dd := dd) (fun _ s q1 q2 q3 => ?_) ?_
        · have : D = s := (nI_eq (by omega) (by omega)).mp q1
          rw [← this]; exact hq
        rw [q_dt_in hlo hh (by decide)]
        rw [show (if (0 : Int32) = 3 then nI (k_wd c D) else if (0 : Int32) = 0 then nI y else if (0 : Int32) = 1 then nI m else nI dd) = nI y from rfl]
        refine rp_bipush (v := 100) d_mod_dailyField_55 (by decide) ?_
        refine rp_irem d_mod_dailyField_57 (by decide) ?_
        rw [show nI y - nI y / 100 * 100 = nI (y % 100) from pk_rem (d := 100) (by omega) (by decide) (by decide)]
        refine rp_i2l d_mod_dailyField_58 ?_
        rw [nI_l (by omega)]
        refine rp_iconst (v := 2) d_mod_dailyField_59 (by decide) ?_
        refine rp_callV2 d_mod_dailyField_60 q_mod_dailyField_172 (Or.inl ⟨_, _, _, rfl, rfl⟩) (Nat.le_of_ble_eq_true rfl) (Nat.le_of_ble_eq_true rfl) ?_
        have ec : dFt v r y m dd (k_wd c D) = pn (y % 100) 2 := by unfold dFt; rw [if_neg (fun q => c24 ((show nI r = (4 : Int32) ↔ r = 4 from nI_eq (b := 4) (by omega) (by decide)).mpr q.2)), if_pos c18]
        rw [ec] at hl k
        refine s_mod_putNumber w rfl (d := 2) rfl (by omega) (by decide) hl (fun h2 w2 => ?_)
        refine rp_goto (tgt := 145) d_mod_dailyField_63 (by decide) ?_
        refine rp_return d_mod_dailyField_145 rfl ?_
        exact k h2 w2
    · refine rp_aload_n (i := 0) d_mod_dailyField_27 rfl rfl ?_
      refine rp_aload_n (i := 0) d_mod_dailyField_28 rfl rfl ?_
      refine rp_iload_n (i := 2) d_mod_dailyField_29 rfl rfl ?_
      refine rp_iconst (v := 0) d_mod_dailyField_30 (by decide) ?_
      refine rp_callV2 d_mod_dailyField_31 q_mod_dailyField_215 (Or.inl ⟨_, _, _, rfl, rfl⟩) (Nat.le_of_ble_eq_true rfl) (Nat.le_of_ble_eq_true rfl) ?_
      refine s_mod_date hc1 (y := y) (m := m) (dd := dd) (fun _ s q1 q2 q3 => ?_) ?_
      · have : D = s := (nI_eq (by omega) (by omega)).mp q1
        rw [← this]; exact hq
      rw [q_dt_in hlo hh (by decide)]
      rw [show (if (0 : Int32) = 3 then nI (k_wd c D) else if (0 : Int32) = 0 then nI y else if (0 : Int32) = 1 then nI m else nI dd) = nI y from rfl]
      refine rp_i2l d_mod_dailyField_34 ?_
      rw [nI_l (by omega)]
      refine rp_iconst (v := 1) d_mod_dailyField_35 (by decide) ?_
      refine rp_callV2 d_mod_dailyField_36 q_mod_dailyField_172 (Or.inl ⟨_, _, _, rfl, rfl⟩) (Nat.le_of_ble_eq_true rfl) (Nat.le_of_ble_eq_true rfl) ?_
      have ec : dFt v r y m dd (k_wd c D) = pn y 1 := by unfold dFt; rw [if_pos ⟨c18, (show nI r = (4 : Int32) ↔ r = 4 from nI_eq (b := 4) (by omega) (by decide)).mp c24⟩]
      rw [ec] at hl k
      refine s_mod_putNumber w rfl (d := 1) rfl (by omega) (by decide) hl (fun h2 w2 => ?_)
      refine rp_goto (tgt := 145) d_mod_dailyField_39 (by decide) ?_
      refine rp_return d_mod_dailyField_145 rfl ?_
      exact k h2 w2
set_option maxHeartbeats 4000000 in
set_option maxRecDepth 100000 in
theorem s_mod_timeField {h0 h : cf_H} {P : Option Value → cf_H → Prop} {L : List Int32} (w : vT h0 L h) {K : Nat} (hK : K < 40) {v : Int32} {r : Nat} (hv : h0.2.2.2 23 K = v) (hr : h0.2.2.2 24 K = nI r) (hr4 : r ≤ 4) {s a b : Nat} (hs : r_sec h0 s a b) {D S : Nat} (hD : D ≤ 10 ^ 10) (hS : S < 86400) {x1 x2 : Int32} {x3 : Int64} {x5 : Int32} (e1 : x1 = nI s) (e2 : x2 = nI K) (e3 : x3 = lN D) (e5 : x5 = nI S) (hl : L.length + (tFt (h0.2.2.2 22 K) v r (!decide (r_ct (h0.2.2.2 22) 10 a b = 0)) D S).length ≤ 600) (k : ∀ h', vT h0 (L ++ (tFt (h0.2.2.2 22 K) v r (!decide (r_ct (h0.2.2.2 22) 10 a b = 0)) D S)) h' → P none h') : RP k_mod_timeField 0 [(0, .ref 19), (1, .int x1), (2, .int x2), (3, .long x3), (5, .int x5)] [] h P := by
  subst e1; subst e2; subst e3; subst e5
  have hR := w.ok
  have hs1 := w.sec hs
  obtain ⟨s1, s2, s3, s4, s5⟩ := id hs
  have e22 := w.2.1.2.2.2 22 (by decide)
  have m10 := r_ct_le (h0.2.2.2 22) 10 a b
  have t18 := t18
  refine rp_iload (i := 5) d_mod_timeField_0 rfl ?_
  refine rp_sipush (v := 3600) d_mod_timeField_2 (by decide) ?_
  refine rp_idiv d_mod_timeField_5 (by decide) ?_
  rw [show nI S / 3600 = nI (S / 3600) from pk_div (d := 3600) (by omega) (by decide) (by decide)]
  refine rp_istore (i := 6) d_mod_timeField_6 rfl (Nat.le_of_ble_eq_true rfl) ?_
  refine rp_ldc2 (v := 86400) d_mod_timeField_8 l_mod_224 ?_
  refine rp_lload_n (i := 3) d_mod_timeField_11 rfl rfl ?_
  refine rp_lmul d_mod_timeField_12 ?_
  refine rp_iload (i := 5) d_mod_timeField_13 rfl ?_
  refine rp_i2l d_mod_timeField_15 ?_
  rw [nI_l (by omega)]
  refine rp_ladd d_mod_timeField_16 ?_
  rw [show (86400 : Int64) * lN D + lN S = lN (D * 86400 + S) from by rw [show (86400 : Int64) = lN 86400 from rfl, lN_mul, lN_add, Nat.mul_comm]]
  refine rp_lstore (i := 7) d_mod_timeField_17 rfl (Nat.le_of_ble_eq_true rfl) ?_
  refine rp_aload_n (i := 0) d_mod_timeField_19 rfl rfl ?_
  refine rp_aload_n (i := 0) d_mod_timeField_20 rfl rfl ?_
  refine rp_getR d_mod_timeField_21 f_mod_25 rfl (hR _ _ _ rfl) ?_
  refine rp_iload_n (i := 1) d_mod_timeField_24 rfl rfl ?_
  refine rp_iaload d_mod_timeField_25 rfl (vp_in_nI (by omega) (by decide)) ?_
  rw [r_s0 hs1]
  refine rp_aload_n (i := 0) d_mod_timeField_26 rfl rfl ?_
  refine rp_getR d_mod_timeField_27 f_mod_25 rfl (hR _ _ _ rfl) ?_
  refine rp_iload_n (i := 1) d_mod_timeField_30 rfl rfl ?_
  refine rp_iconst (v := 1) d_mod_timeField_31 (by decide) ?_
  refine rp_iadd d_mod_timeField_32 ?_
  refine rp_iaload d_mod_timeField_33 rfl (by rw [nI_1]; exact vp_in_nI (by omega) (by decide)) ?_
  rw [r_s1 hs1]
  refine rp_bipush (v := 10) d_mod_timeField_34 (by decide) ?_
  refine rp_callV3 d_mod_timeField_36 q_mod_timeField_91 (Or.inl ⟨_, _, _, rfl, rfl⟩) (Nat.le_of_ble_eq_true rfl) (Nat.le_of_ble_eq_true rfl) ?_
  refine s_mod_count hR rfl rfl s3 s4 ?_
  rw [e22]
  refine rp_if_le (tgt := 46) d_mod_timeField_39 (by decide) (fun c39 => ?_) (fun c39 => ?_)
  · refine rp_iconst (v := 0) d_mod_timeField_46 (by decide) ?_
    have hmer : (!decide (r_ct (h0.2.2.2 22) 10 a b = 0)) = false := by rw [decide_eq_true ((z_le (by omega)).mp c39)]; rfl
    refine rp_istore (i := 9) d_mod_timeField_47 rfl (Nat.le_of_ble_eq_true rfl) ?_
    refine rp_aload_n (i := 0) d_mod_timeField_49 rfl rfl ?_
    refine rp_getR d_mod_timeField_50 f_mod_16 rfl (hR _ _ _ rfl) ?_
    refine rp_iload_n (i := 2) d_mod_timeField_53 rfl rfl ?_
    refine rp_iaload d_mod_timeField_54 rfl (vp_in_nI (by omega) (by decide)) ?_
    rw [w.2.1.2.2.2 22 (by decide), nI_clamp (by omega)]
    refine rp_bipush (v := 10) d_mod_timeField_55 (by decide) ?_
    refine rp_icmp_ne (tgt := 87) d_mod_timeField_57 (by decide) (fun c57 => ?_) (fun c57 => ?_)
    · refine rp_aload_n (i := 0) d_mod_timeField_87 rfl rfl ?_
      refine rp_getR d_mod_timeField_88 f_mod_16 rfl (hR _ _ _ rfl) ?_
      refine rp_iload_n (i := 2) d_mod_timeField_91 rfl rfl ?_
      refine rp_iaload d_mod_timeField_92 rfl (vp_in_nI (by omega) (by decide)) ?_
      rw [w.2.1.2.2.2 22 (by decide), nI_clamp (by omega)]
      refine rp_bipush (v := 8) d_mod_timeField_93 (by decide) ?_
      refine rp_icmp_ne (tgt := 148) d_mod_timeField_95 (by decide) (fun c95 => ?_) (fun c95 => ?_)
      · refine rp_aload_n (i := 0) d_mod_timeField_148 rfl rfl ?_
        refine rp_getR d_mod_timeField_149 f_mod_19 rfl (hR _ _ _ rfl) ?_
        refine rp_iload_n (i := 2) d_mod_timeField_152 rfl rfl ?_
        refine rp_iaload d_mod_timeField_153 rfl (vp_in_nI (by omega) (by decide)) ?_
        rw [w.2.1.2.2.2 23 (by decide), nI_clamp (by omega), hv]
        refine rp_bipush (v := 104) d_mod_timeField_154 (by decide) ?_
        refine rp_icmp_ne (tgt := 205) d_mod_timeField_156 (by decide) (fun c156 => ?_) (fun c156 => ?_)
        · refine rp_aload_n (i := 0) d_mod_timeField_205 rfl rfl ?_
          refine rp_aload_n (i := 0) d_mod_timeField_206 rfl rfl ?_
          refine rp_getR d_mod_timeField_207 f_mod_19 rfl (hR _ _ _ rfl) ?_
          refine rp_iload_n (i := 2) d_mod_timeField_210 rfl rfl ?_
          refine rp_iaload d_mod_timeField_211 rfl (vp_in_nI (by omega) (by decide)) ?_
          rw [w.2.1.2.2.2 23 (by decide), nI_clamp (by omega), hv]
          refine rp_bipush (v := 115) d_mod_timeField_212 (by decide) ?_
          refine rp_icmp_ne (tgt := 226) d_mod_timeField_214 (by decide) (fun c214 => ?_) (fun c214 => ?_)
          · refine rp_iload (i := 5) d_mod_timeField_226 rfl ?_
            refine rp_bipush (v := 60) d_mod_timeField_228 (by decide) ?_
            refine rp_idiv d_mod_timeField_230 (by decide) ?_
            rw [show nI S / 60 = nI (S / 60) from pk_div (d := 60) (by omega) (by decide) (by decide)]
            refine rp_bipush (v := 60) d_mod_timeField_231 (by decide) ?_
            refine rp_irem d_mod_timeField_233 (by decide) ?_
            rw [show nI (S / 60) - nI (S / 60) / 60 * 60 = nI (S / 60 % 60) from pk_rem (d := 60) (by omega) (by decide) (by decide)]
            refine rp_i2l d_mod_timeField_234 ?_
            rw [nI_l (by omega)]
            refine rp_aload_n (i := 0) d_mod_timeField_235 rfl rfl ?_
            refine rp_getR d_mod_timeField_236 f_mod_22 rfl (hR _ _ _ rfl) ?_
            refine rp_iload_n (i := 2) d_mod_timeField_239 rfl rfl ?_
            refine rp_iaload d_mod_timeField_240 rfl (vp_in_nI (by omega) (by decide)) ?_
            rw [w.2.1.2.2.2 24 (by decide), nI_clamp (by omega), hr]
            refine rp_callV2 d_mod_timeField_241 q_mod_timeField_172 (Or.inl ⟨_, _, _, rfl, rfl⟩) (Nat.le_of_ble_eq_true rfl) (Nat.le_of_ble_eq_true rfl) ?_
            have ec : (tFt (h0.2.2.2 22 K) v r (!decide (r_ct (h0.2.2.2 22) 10 a b = 0)) D S) = pn (if v = 115 then S % 60 else S / 60 % 60) r := by unfold tFt; rw [if_neg c57, if_neg c95, if_neg c156]
            rw [ec] at hl k
            rw [if_neg c214] at hl k
            refine s_mod_putNumber w rfl rfl (by omega) (by omega) hl (fun h2 w2 => ?_)
            refine rp_return d_mod_timeField_244 rfl ?_
            exact k h2 w2
          · refine rp_iload (i := 5) d_mod_timeField_217 rfl ?_
            refine rp_bipush (v := 60) d_mod_timeField_219 (by decide) ?_
            refine rp_irem d_mod_timeField_221 (by decide) ?_
            rw [show nI S - nI S / 60 * 60 = nI (S % 60) from pk_rem (d := 60) (by omega) (by decide) (by decide)]
            refine rp_i2l d_mod_timeField_222 ?_
            rw [nI_l (by omega)]
            refine rp_goto (tgt := 235) d_mod_timeField_223 (by decide) ?_
            refine rp_aload_n (i := 0) d_mod_timeField_235 rfl rfl ?_
            refine rp_getR d_mod_timeField_236 f_mod_22 rfl (hR _ _ _ rfl) ?_
            refine rp_iload_n (i := 2) d_mod_timeField_239 rfl rfl ?_
            refine rp_iaload d_mod_timeField_240 rfl (vp_in_nI (by omega) (by decide)) ?_
            rw [w.2.1.2.2.2 24 (by decide), nI_clamp (by omega), hr]
            refine rp_callV2 d_mod_timeField_241 q_mod_timeField_172 (Or.inl ⟨_, _, _, rfl, rfl⟩) (Nat.le_of_ble_eq_true rfl) (Nat.le_of_ble_eq_true rfl) ?_
            have ec : (tFt (h0.2.2.2 22 K) v r (!decide (r_ct (h0.2.2.2 22) 10 a b = 0)) D S) = pn (if v = 115 then S % 60 else S / 60 % 60) r := by unfold tFt; rw [if_neg c57, if_neg c95, if_neg c156]
            rw [ec] at hl k
            rw [if_pos c214] at hl k
            refine s_mod_putNumber w rfl rfl (by omega) (by omega) hl (fun h2 w2 => ?_)
            refine rp_return d_mod_timeField_244 rfl ?_
            exact k h2 w2
        · refine rp_iload (i := 9) d_mod_timeField_159 rfl ?_
          refine rp_if_ne (tgt := 169) d_mod_timeField_161 (by decide) (fun c161 => ?_) (fun c161 => ?_)
          · exact absurd rfl c161
          · refine rp_iload (i := 6) d_mod_timeField_164 rfl ?_
            refine rp_goto (tgt := 187) d_mod_timeField_166 (by decide) ?_
            refine rp_istore (i := 10) d_mod_timeField_187 rfl (Nat.le_of_ble_eq_true rfl) ?_
            refine rp_aload_n (i := 0) d_mod_timeField_189 rfl rfl ?_
            refine rp_iload (i := 10) d_mod_timeField_190 rfl ?_
            refine rp_i2l d_mod_timeField_192 ?_
            rw [nI_l (by omega)]
            refine rp_aload_n (i := 0) d_mod_timeField_193 rfl rfl ?_
            refine rp_getR d_mod_timeField_194 f_mod_22 rfl (hR _ _ _ rfl) ?_
            refine rp_iload_n (i := 2) d_mod_timeField_197 rfl rfl ?_
            refine rp_iaload d_mod_timeField_198 rfl (vp_in_nI (by omega) (by decide)) ?_
            rw [w.2.1.2.2.2 24 (by decide), nI_clamp (by omega), hr]
            refine rp_callV2 d_mod_timeField_199 q_mod_timeField_172 (Or.inl ⟨_, _, _, rfl, rfl⟩) (Nat.le_of_ble_eq_true rfl) (Nat.le_of_ble_eq_true rfl) ?_
            have e12 : h12 (!decide (r_ct (h0.2.2.2 22) 10 a b = 0)) (S / 3600) = S / 3600 := by rw [hmer]; rfl
            have ec : (tFt (h0.2.2.2 22 K) v r (!decide (r_ct (h0.2.2.2 22) 10 a b = 0)) D S) = pn (h12 (!decide (r_ct (h0.2.2.2 22) 10 a b = 0)) (S / 3600)) r := by unfold tFt; rw [if_neg c57, if_neg c95, if_pos c156]
            rw [ec] at hl k
            rw [e12] at hl k
            refine s_mod_putNumber w rfl rfl (by omega) (by omega) hl (fun h2 w2 => ?_)
            refine rp_goto (tgt := 244) d_mod_timeField_202 (by decide) ?_
            refine rp_return d_mod_timeField_244 rfl ?_
            exact k h2 w2
      · refine rp_aload_n (i := 0) d_mod_timeField_98 rfl rfl ?_
        refine rp_aload_n (i := 0) d_mod_timeField_99 rfl rfl ?_
        refine rp_getR d_mod_timeField_100 f_mod_19 rfl (hR _ _ _ rfl) ?_
        refine rp_iload_n (i := 2) d_mod_timeField_103 rfl rfl ?_
        refine rp_iaload d_mod_timeField_104 rfl (vp_in_nI (by omega) (by decide)) ?_
        rw [w.2.1.2.2.2 23 (by decide), nI_clamp (by omega), hv]
        refine rp_bipush (v := 104) d_mod_timeField_105 (by decide) ?_
        refine rp_icmp_ne (tgt := 119) d_mod_timeField_107 (by decide) (fun c107 => ?_) (fun c107 => ?_)
        · refine rp_aload_n (i := 0) d_mod_timeField_119 rfl rfl ?_
          refine rp_getR d_mod_timeField_120 f_mod_19 rfl (hR _ _ _ rfl) ?_
          refine rp_iload_n (i := 2) d_mod_timeField_123 rfl rfl ?_
          refine rp_iaload d_mod_timeField_124 rfl (vp_in_nI (by omega) (by decide)) ?_
          rw [w.2.1.2.2.2 23 (by decide), nI_clamp (by omega), hv]
          refine rp_bipush (v := 109) d_mod_timeField_125 (by decide) ?_
          refine rp_icmp_ne (tgt := 139) d_mod_timeField_127 (by decide) (fun c127 => ?_) (fun c127 => ?_)
          · refine rp_lload (i := 7) d_mod_timeField_139 rfl ?_
            refine rp_iconst (v := 1) d_mod_timeField_141 (by decide) ?_
            refine rp_callV2 d_mod_timeField_142 q_mod_timeField_172 (Or.inl ⟨_, _, _, rfl, rfl⟩) (Nat.le_of_ble_eq_true rfl) (Nat.le_of_ble_eq_true rfl) ?_
            have ec : (tFt (h0.2.2.2 22 K) v r (!decide (r_ct (h0.2.2.2 22) 10 a b = 0)) D S) = eT v (D * 86400 + S) := by unfold tFt; rw [if_neg c57, if_pos c95]
            rw [ec] at hl k
            rw [eT, if_neg c107, if_neg c127] at hl k
            refine s_mod_putNumber w rfl (d := 1) rfl (by omega) (by decide) hl (fun h2 w2 => ?_)
            refine rp_goto (tgt := 244) d_mod_timeField_145 (by decide) ?_
            refine rp_return d_mod_timeField_244 rfl ?_
            exact k h2 w2
          · refine rp_lload (i := 7) d_mod_timeField_130 rfl ?_
            refine rp_ldc2 (v := 60) d_mod_timeField_132 l_mod_228 ?_
            refine rp_ldiv d_mod_timeField_135 (by decide) ?_
            rw [show lN (D * 86400 + S) / 60 = lN ((D * 86400 + S) / 60) from pk_lDiv (b := 60) (by omega) (by decide) (by decide)]
            refine rp_goto (tgt := 141) d_mod_timeField_136 (by decide) ?_
            refine rp_iconst (v := 1) d_mod_timeField_141 (by decide) ?_
            refine rp_callV2 d_mod_timeField_142 q_mod_timeField_172 (Or.inl ⟨_, _, _, rfl, rfl⟩) (Nat.le_of_ble_eq_true rfl) (Nat.le_of_ble_eq_true rfl) ?_
            have ec : (tFt (h0.2.2.2 22 K) v r (!decide (r_ct (h0.2.2.2 22) 10 a b = 0)) D S) = eT v (D * 86400 + S) := by unfold tFt; rw [if_neg c57, if_pos c95]
            rw [ec] at hl k
            rw [eT, if_neg c107, if_pos c127] at hl k
            refine s_mod_putNumber w rfl (d := 1) rfl (by omega) (by decide) hl (fun h2 w2 => ?_)
            refine rp_goto (tgt := 244) d_mod_timeField_145 (by decide) ?_
            refine rp_return d_mod_timeField_244 rfl ?_
            exact k h2 w2
        · refine rp_lload (i := 7) d_mod_timeField_110 rfl ?_
          refine rp_ldc2 (v := 3600) d_mod_timeField_112 l_mod_226 ?_
          refine rp_ldiv d_mod_timeField_115 (by decide) ?_
          rw [show lN (D * 86400 + S) / 3600 = lN ((D * 86400 + S) / 3600) from pk_lDiv (b := 3600) (by omega) (by decide) (by decide)]
          refine rp_goto (tgt := 141) d_mod_timeField_116 (by decide) ?_
          refine rp_iconst (v := 1) d_mod_timeField_141 (by decide) ?_
          refine rp_callV2 d_mod_timeField_142 q_mod_timeField_172 (Or.inl ⟨_, _, _, rfl, rfl⟩) (Nat.le_of_ble_eq_true rfl) (Nat.le_of_ble_eq_true rfl) ?_
          have ec : (tFt (h0.2.2.2 22 K) v r (!decide (r_ct (h0.2.2.2 22) 10 a b = 0)) D S) = eT v (D * 86400 + S) := by unfold tFt; rw [if_neg c57, if_pos c95]
          rw [ec] at hl k
          rw [eT, if_pos c107] at hl k
          refine s_mod_putNumber w rfl (d := 1) rfl (by omega) (by decide) hl (fun h2 w2 => ?_)
          refine rp_goto (tgt := 244) d_mod_timeField_145 (by decide) ?_
          refine rp_return d_mod_timeField_244 rfl ?_
          exact k h2 w2
    · refine rp_aload_n (i := 0) d_mod_timeField_60 rfl rfl ?_
      refine rp_iload (i := 6) d_mod_timeField_61 rfl ?_
      refine rp_bipush (v := 12) d_mod_timeField_63 (by decide) ?_
      refine rp_icmp_ge (tgt := 73) d_mod_timeField_65 (by decide) (fun c65 => ?_) (fun c65 => ?_)
      · refine rp_bipush (v := 80) d_mod_timeField_73 (by decide) ?_
        refine rp_callV1 d_mod_timeField_75 q_mod_timeField_132 (Or.inl ⟨_, _, _, rfl, rfl⟩) (Nat.le_of_ble_eq_true rfl) (Nat.le_of_ble_eq_true rfl) ?_
        have ec : (tFt (h0.2.2.2 22 K) v r (!decide (r_ct (h0.2.2.2 22) 10 a b = 0)) D S) = aT S := by unfold tFt; rw [if_pos c57]
        rw [ec] at hl k
        have ea : aT S = [80, 77] := by unfold aT; rw [if_neg (fun q => absurd ((show (12 : Int32) ≤ nI (S / 3600) ↔ 12 ≤ S / 3600 from nI_leI (a := 12) (by decide) (by omega)).mp c65) (by omega))]
        rw [ea] at hl k
        simp only [List.length_cons, List.length_nil] at hl
        refine s_mod_put w (by omega) (fun h1 w1 => ?_)
        refine rp_aload_n (i := 0) d_mod_timeField_78 rfl rfl ?_
        refine rp_bipush (v := 77) d_mod_timeField_79 (by decide) ?_
        refine rp_callV1 d_mod_timeField_81 q_mod_timeField_132 (Or.inl ⟨_, _, _, rfl, rfl⟩) (Nat.le_of_ble_eq_true rfl) (Nat.le_of_ble_eq_true rfl) ?_
        refine s_mod_put w1 (by rw [List.length_append]; simp only [List.length_cons, List.length_nil]; omega) (fun h2 w2 => ?_)
        rw [List.append_assoc] at w2
        refine rp_goto (tgt := 244) d_mod_timeField_84 (by decide) ?_
        refine rp_return d_mod_timeField_244 rfl ?_
        exact k h2 w2
      · refine rp_bipush (v := 65) d_mod_timeField_68 (by decide) ?_
        refine rp_goto (tgt := 75) d_mod_timeField_70 (by decide) ?_
        refine rp_callV1 d_mod_timeField_75 q_mod_timeField_132 (Or.inl ⟨_, _, _, rfl, rfl⟩) (Nat.le_of_ble_eq_true rfl) (Nat.le_of_ble_eq_true rfl) ?_
        have ec : (tFt (h0.2.2.2 22 K) v r (!decide (r_ct (h0.2.2.2 22) 10 a b = 0)) D S) = aT S := by unfold tFt; rw [if_pos c57]
        rw [ec] at hl k
        have ea : aT S = [65, 77] := by unfold aT; rw [if_pos (Nat.not_le.mp (fun q => c65 ((show (12 : Int32) ≤ nI (S / 3600) ↔ 12 ≤ S / 3600 from nI_leI (a := 12) (by decide) (by omega)).mpr q)))]
        rw [ea] at hl k
        simp only [List.length_cons, List.length_nil] at hl
        refine s_mod_put w (by omega) (fun h1 w1 => ?_)
        refine rp_aload_n (i := 0) d_mod_timeField_78 rfl rfl ?_
        refine rp_bipush (v := 77) d_mod_timeField_79 (by decide) ?_
        refine rp_callV1 d_mod_timeField_81 q_mod_timeField_132 (Or.inl ⟨_, _, _, rfl, rfl⟩) (Nat.le_of_ble_eq_true rfl) (Nat.le_of_ble_eq_true rfl) ?_
        refine s_mod_put w1 (by rw [List.length_append]; simp only [List.length_cons, List.length_nil]; omega) (fun h2 w2 => ?_)
        rw [List.append_assoc] at w2
        refine rp_goto (tgt := 244) d_mod_timeField_84 (by decide) ?_
        refine rp_return d_mod_timeField_244 rfl ?_
        exact k h2 w2
  · refine rp_iconst (v := 1) d_mod_timeField_42 (by decide) ?_
    refine rp_goto (tgt := 47) d_mod_timeField_43 (by decide) ?_
    have hmer : (!decide (r_ct (h0.2.2.2 22) 10 a b = 0)) = true := by rw [decide_eq_false (fun q => c39 ((z_le (by omega)).mpr q))]; rfl
    refine rp_istore (i := 9) d_mod_timeField_47 rfl (Nat.le_of_ble_eq_true rfl) ?_
    refine rp_aload_n (i := 0) d_mod_timeField_49 rfl rfl ?_
    refine rp_getR d_mod_timeField_50 f_mod_16 rfl (hR _ _ _ rfl) ?_
    refine rp_iload_n (i := 2) d_mod_timeField_53 rfl rfl ?_
    refine rp_iaload d_mod_timeField_54 rfl (vp_in_nI (by omega) (by decide)) ?_
    rw [w.2.1.2.2.2 22 (by decide), nI_clamp (by omega)]
    refine rp_bipush (v := 10) d_mod_timeField_55 (by decide) ?_
    refine rp_icmp_ne (tgt := 87) d_mod_timeField_57 (by decide) (fun c57 => ?_) (fun c57 => ?_)
    · refine rp_aload_n (i := 0) d_mod_timeField_87 rfl rfl ?_
      refine rp_getR d_mod_timeField_88 f_mod_16 rfl (hR _ _ _ rfl) ?_
      refine rp_iload_n (i := 2) d_mod_timeField_91 rfl rfl ?_
      refine rp_iaload d_mod_timeField_92 rfl (vp_in_nI (by omega) (by decide)) ?_
      rw [w.2.1.2.2.2 22 (by decide), nI_clamp (by omega)]
      refine rp_bipush (v := 8) d_mod_timeField_93 (by decide) ?_
      refine rp_icmp_ne (tgt := 148) d_mod_timeField_95 (by decide) (fun c95 => ?_) (fun c95 => ?_)
      · refine rp_aload_n (i := 0) d_mod_timeField_148 rfl rfl ?_
        refine rp_getR d_mod_timeField_149 f_mod_19 rfl (hR _ _ _ rfl) ?_
        refine rp_iload_n (i := 2) d_mod_timeField_152 rfl rfl ?_
        refine rp_iaload d_mod_timeField_153 rfl (vp_in_nI (by omega) (by decide)) ?_
        rw [w.2.1.2.2.2 23 (by decide), nI_clamp (by omega), hv]
        refine rp_bipush (v := 104) d_mod_timeField_154 (by decide) ?_
        refine rp_icmp_ne (tgt := 205) d_mod_timeField_156 (by decide) (fun c156 => ?_) (fun c156 => ?_)
        · refine rp_aload_n (i := 0) d_mod_timeField_205 rfl rfl ?_
          refine rp_aload_n (i := 0) d_mod_timeField_206 rfl rfl ?_
          refine rp_getR d_mod_timeField_207 f_mod_19 rfl (hR _ _ _ rfl) ?_
          refine rp_iload_n (i := 2) d_mod_timeField_210 rfl rfl ?_
          refine rp_iaload d_mod_timeField_211 rfl (vp_in_nI (by omega) (by decide)) ?_
          rw [w.2.1.2.2.2 23 (by decide), nI_clamp (by omega), hv]
          refine rp_bipush (v := 115) d_mod_timeField_212 (by decide) ?_
          refine rp_icmp_ne (tgt := 226) d_mod_timeField_214 (by decide) (fun c214 => ?_) (fun c214 => ?_)
          · refine rp_iload (i := 5) d_mod_timeField_226 rfl ?_
            refine rp_bipush (v := 60) d_mod_timeField_228 (by decide) ?_
            refine rp_idiv d_mod_timeField_230 (by decide) ?_
            rw [show nI S / 60 = nI (S / 60) from pk_div (d := 60) (by omega) (by decide) (by decide)]
            refine rp_bipush (v := 60) d_mod_timeField_231 (by decide) ?_
            refine rp_irem d_mod_timeField_233 (by decide) ?_
            rw [show nI (S / 60) - nI (S / 60) / 60 * 60 = nI (S / 60 % 60) from pk_rem (d := 60) (by omega) (by decide) (by decide)]
            refine rp_i2l d_mod_timeField_234 ?_
            rw [nI_l (by omega)]
            refine rp_aload_n (i := 0) d_mod_timeField_235 rfl rfl ?_
            refine rp_getR d_mod_timeField_236 f_mod_22 rfl (hR _ _ _ rfl) ?_
            refine rp_iload_n (i := 2) d_mod_timeField_239 rfl rfl ?_
            refine rp_iaload d_mod_timeField_240 rfl (vp_in_nI (by omega) (by decide)) ?_
            rw [w.2.1.2.2.2 24 (by decide), nI_clamp (by omega), hr]
            refine rp_callV2 d_mod_timeField_241 q_mod_timeField_172 (Or.inl ⟨_, _, _, rfl, rfl⟩) (Nat.le_of_ble_eq_true rfl) (Nat.le_of_ble_eq_true rfl) ?_
            have ec : (tFt (h0.2.2.2 22 K) v r (!decide (r_ct (h0.2.2.2 22) 10 a b = 0)) D S) = pn (if v = 115 then S % 60 else S / 60 % 60) r := by unfold tFt; rw [if_neg c57, if_neg c95, if_neg c156]
            rw [ec] at hl k
            rw [if_neg c214] at hl k
            refine s_mod_putNumber w rfl rfl (by omega) (by omega) hl (fun h2 w2 => ?_)
            refine rp_return d_mod_timeField_244 rfl ?_
            exact k h2 w2
          · refine rp_iload (i := 5) d_mod_timeField_217 rfl ?_
            refine rp_bipush (v := 60) d_mod_timeField_219 (by decide) ?_
            refine rp_irem d_mod_timeField_221 (by decide) ?_
            rw [show nI S - nI S / 60 * 60 = nI (S % 60) from pk_rem (d := 60) (by omega) (by decide) (by decide)]
            refine rp_i2l d_mod_timeField_222 ?_
            rw [nI_l (by omega)]
            refine rp_goto (tgt := 235) d_mod_timeField_223 (by decide) ?_
            refine rp_aload_n (i := 0) d_mod_timeField_235 rfl rfl ?_
            refine rp_getR d_mod_timeField_236 f_mod_22 rfl (hR _ _ _ rfl) ?_
            refine rp_iload_n (i := 2) d_mod_timeField_239 rfl rfl ?_
            refine rp_iaload d_mod_timeField_240 rfl (vp_in_nI (by omega) (by decide)) ?_
            rw [w.2.1.2.2.2 24 (by decide), nI_clamp (by omega), hr]
            refine rp_callV2 d_mod_timeField_241 q_mod_timeField_172 (Or.inl ⟨_, _, _, rfl, rfl⟩) (Nat.le_of_ble_eq_true rfl) (Nat.le_of_ble_eq_true rfl) ?_
            have ec : (tFt (h0.2.2.2 22 K) v r (!decide (r_ct (h0.2.2.2 22) 10 a b = 0)) D S) = pn (if v = 115 then S % 60 else S / 60 % 60) r := by unfold tFt; rw [if_neg c57, if_neg c95, if_neg c156]
            rw [ec] at hl k
            rw [if_pos c214] at hl k
            refine s_mod_putNumber w rfl rfl (by omega) (by omega) hl (fun h2 w2 => ?_)
            refine rp_return d_mod_timeField_244 rfl ?_
            exact k h2 w2
        · refine rp_iload (i := 9) d_mod_timeField_159 rfl ?_
          refine rp_if_ne (tgt := 169) d_mod_timeField_161 (by decide) (fun c161 => ?_) (fun c161 => ?_)
          · refine rp_iload (i := 6) d_mod_timeField_169 rfl ?_
            refine rp_bipush (v := 12) d_mod_timeField_171 (by decide) ?_
            refine rp_irem d_mod_timeField_173 (by decide) ?_
            rw [show nI (S / 3600) - nI (S / 3600) / 12 * 12 = nI (S / 3600 % 12) from pk_rem (d := 12) (by omega) (by decide) (by decide)]
            refine rp_if_ne (tgt := 182) d_mod_timeField_174 (by decide) (fun c174 => ?_) (fun c174 => ?_)
            · refine rp_iload (i := 6) d_mod_timeField_182 rfl ?_
              refine rp_bipush (v := 12) d_mod_timeField_184 (by decide) ?_
              refine rp_irem d_mod_timeField_186 (by decide) ?_
              rw [show nI (S / 3600) - nI (S / 3600) / 12 * 12 = nI (S / 3600 % 12) from pk_rem (d := 12) (by omega) (by decide) (by decide)]
              refine rp_istore (i := 10) d_mod_timeField_187 rfl (Nat.le_of_ble_eq_true rfl) ?_
              refine rp_aload_n (i := 0) d_mod_timeField_189 rfl rfl ?_
              refine rp_iload (i := 10) d_mod_timeField_190 rfl ?_
              refine rp_i2l d_mod_timeField_192 ?_
              rw [nI_l (by omega)]
              refine rp_aload_n (i := 0) d_mod_timeField_193 rfl rfl ?_
              refine rp_getR d_mod_timeField_194 f_mod_22 rfl (hR _ _ _ rfl) ?_
              refine rp_iload_n (i := 2) d_mod_timeField_197 rfl rfl ?_
              refine rp_iaload d_mod_timeField_198 rfl (vp_in_nI (by omega) (by decide)) ?_
              rw [w.2.1.2.2.2 24 (by decide), nI_clamp (by omega), hr]
              refine rp_callV2 d_mod_timeField_199 q_mod_timeField_172 (Or.inl ⟨_, _, _, rfl, rfl⟩) (Nat.le_of_ble_eq_true rfl) (Nat.le_of_ble_eq_true rfl) ?_
              have e12 : h12 (!decide (r_ct (h0.2.2.2 22) 10 a b = 0)) (S / 3600) = S / 3600 % 12 := by rw [hmer]; rw [h12, cond, if_neg (fun q => c174 ((z_eq (by omega)).mpr q))]
              have ec : (tFt (h0.2.2.2 22 K) v r (!decide (r_ct (h0.2.2.2 22) 10 a b = 0)) D S) = pn (h12 (!decide (r_ct (h0.2.2.2 22) 10 a b = 0)) (S / 3600)) r := by unfold tFt; rw [if_neg c57, if_neg c95, if_pos c156]
              rw [ec] at hl k
              rw [e12] at hl k
              refine s_mod_putNumber w rfl rfl (by omega) (by omega) hl (fun h2 w2 => ?_)
              refine rp_goto (tgt := 244) d_mod_timeField_202 (by decide) ?_
              refine rp_return d_mod_timeField_244 rfl ?_
              exact k h2 w2
            · refine rp_bipush (v := 12) d_mod_timeField_177 (by decide) ?_
              refine rp_goto (tgt := 187) d_mod_timeField_179 (by decide) ?_
              refine rp_istore (i := 10) d_mod_timeField_187 rfl (Nat.le_of_ble_eq_true rfl) ?_
              refine rp_aload_n (i := 0) d_mod_timeField_189 rfl rfl ?_
              refine rp_iload (i := 10) d_mod_timeField_190 rfl ?_
              refine rp_i2l d_mod_timeField_192 ?_
              rw [show (12 : Int32).toInt64 = lN 12 from rfl]
              refine rp_aload_n (i := 0) d_mod_timeField_193 rfl rfl ?_
              refine rp_getR d_mod_timeField_194 f_mod_22 rfl (hR _ _ _ rfl) ?_
              refine rp_iload_n (i := 2) d_mod_timeField_197 rfl rfl ?_
              refine rp_iaload d_mod_timeField_198 rfl (vp_in_nI (by omega) (by decide)) ?_
              rw [w.2.1.2.2.2 24 (by decide), nI_clamp (by omega), hr]
              refine rp_callV2 d_mod_timeField_199 q_mod_timeField_172 (Or.inl ⟨_, _, _, rfl, rfl⟩) (Nat.le_of_ble_eq_true rfl) (Nat.le_of_ble_eq_true rfl) ?_
              have e12 : h12 (!decide (r_ct (h0.2.2.2 22) 10 a b = 0)) (S / 3600) = 12 := by rw [hmer]; rw [h12, cond, if_pos ((z_eq (by omega)).mp c174)]
              have ec : (tFt (h0.2.2.2 22 K) v r (!decide (r_ct (h0.2.2.2 22) 10 a b = 0)) D S) = pn (h12 (!decide (r_ct (h0.2.2.2 22) 10 a b = 0)) (S / 3600)) r := by unfold tFt; rw [if_neg c57, if_neg c95, if_pos c156]
              rw [ec] at hl k
              rw [e12] at hl k
              refine s_mod_putNumber w rfl rfl (by omega) (by omega) hl (fun h2 w2 => ?_)
              refine rp_goto (tgt := 244) d_mod_timeField_202 (by decide) ?_
              refine rp_return d_mod_timeField_244 rfl ?_
              exact k h2 w2
          · exact absurd c161 (by decide)
      · refine rp_aload_n (i := 0) d_mod_timeField_98 rfl rfl ?_
        refine rp_aload_n (i := 0) d_mod_timeField_99 rfl rfl ?_
        refine rp_getR d_mod_timeField_100 f_mod_19 rfl (hR _ _ _ rfl) ?_
        refine rp_iload_n (i := 2) d_mod_timeField_103 rfl rfl ?_
        refine rp_iaload d_mod_timeField_104 rfl (vp_in_nI (by omega) (by decide)) ?_
        rw [w.2.1.2.2.2 23 (by decide), nI_clamp (by omega), hv]
        refine rp_bipush (v := 104) d_mod_timeField_105 (by decide) ?_
        refine rp_icmp_ne (tgt := 119) d_mod_timeField_107 (by decide) (fun c107 => ?_) (fun c107 => ?_)
        · refine rp_aload_n (i := 0) d_mod_timeField_119 rfl rfl ?_
          refine rp_getR d_mod_timeField_120 f_mod_19 rfl (hR _ _ _ rfl) ?_
          refine rp_iload_n (i := 2) d_mod_timeField_123 rfl rfl ?_
          refine rp_iaload d_mod_timeField_124 rfl (vp_in_nI (by omega) (by decide)) ?_
          rw [w.2.1.2.2.2 23 (by decide), nI_clamp (by omega), hv]
          refine rp_bipush (v := 109) d_mod_timeField_125 (by decide) ?_
          refine rp_icmp_ne (tgt := 139) d_mod_timeField_127 (by decide) (fun c127 => ?_) (fun c127 => ?_)
          · refine rp_lload (i := 7) d_mod_timeField_139 rfl ?_
            refine rp_iconst (v := 1) d_mod_timeField_141 (by decide) ?_
            refine rp_callV2 d_mod_timeField_142 q_mod_timeField_172 (Or.inl ⟨_, _, _, rfl, rfl⟩) (Nat.le_of_ble_eq_true rfl) (Nat.le_of_ble_eq_true rfl) ?_
            have ec : (tFt (h0.2.2.2 22 K) v r (!decide (r_ct (h0.2.2.2 22) 10 a b = 0)) D S) = eT v (D * 86400 + S) := by unfold tFt; rw [if_neg c57, if_pos c95]
            rw [ec] at hl k
            rw [eT, if_neg c107, if_neg c127] at hl k
            refine s_mod_putNumber w rfl (d := 1) rfl (by omega) (by decide) hl (fun h2 w2 => ?_)
            refine rp_goto (tgt := 244) d_mod_timeField_145 (by decide) ?_
            refine rp_return d_mod_timeField_244 rfl ?_
            exact k h2 w2
          · refine rp_lload (i := 7) d_mod_timeField_130 rfl ?_
            refine rp_ldc2 (v := 60) d_mod_timeField_132 l_mod_228 ?_
            refine rp_ldiv d_mod_timeField_135 (by decide) ?_
            rw [show lN (D * 86400 + S) / 60 = lN ((D * 86400 + S) / 60) from pk_lDiv (b := 60) (by omega) (by decide) (by decide)]
            refine rp_goto (tgt := 141) d_mod_timeField_136 (by decide) ?_
            refine rp_iconst (v := 1) d_mod_timeField_141 (by decide) ?_
            refine rp_callV2 d_mod_timeField_142 q_mod_timeField_172 (Or.inl ⟨_, _, _, rfl, rfl⟩) (Nat.le_of_ble_eq_true rfl) (Nat.le_of_ble_eq_true rfl) ?_
            have ec : (tFt (h0.2.2.2 22 K) v r (!decide (r_ct (h0.2.2.2 22) 10 a b = 0)) D S) = eT v (D * 86400 + S) := by unfold tFt; rw [if_neg c57, if_pos c95]
            rw [ec] at hl k
            rw [eT, if_neg c107, if_pos c127] at hl k
            refine s_mod_putNumber w rfl (d := 1) rfl (by omega) (by decide) hl (fun h2 w2 => ?_)
            refine rp_goto (tgt := 244) d_mod_timeField_145 (by decide) ?_
            refine rp_return d_mod_timeField_244 rfl ?_
            exact k h2 w2
        · refine rp_lload (i := 7) d_mod_timeField_110 rfl ?_
          refine rp_ldc2 (v := 3600) d_mod_timeField_112 l_mod_226 ?_
          refine rp_ldiv d_mod_timeField_115 (by decide) ?_
          rw [show lN (D * 86400 + S) / 3600 = lN ((D * 86400 + S) / 3600) from pk_lDiv (b := 3600) (by omega) (by decide) (by decide)]
          refine rp_goto (tgt := 141) d_mod_timeField_116 (by decide) ?_
          refine rp_iconst (v := 1) d_mod_timeField_141 (by decide) ?_
          refine rp_callV2 d_mod_timeField_142 q_mod_timeField_172 (Or.inl ⟨_, _, _, rfl, rfl⟩) (Nat.le_of_ble_eq_true rfl) (Nat.le_of_ble_eq_true rfl) ?_
          have ec : (tFt (h0.2.2.2 22 K) v r (!decide (r_ct (h0.2.2.2 22) 10 a b = 0)) D S) = eT v (D * 86400 + S) := by unfold tFt; rw [if_neg c57, if_pos c95]
          rw [ec] at hl k
          rw [eT, if_pos c107] at hl k
          refine s_mod_putNumber w rfl (d := 1) rfl (by omega) (by decide) hl (fun h2 w2 => ?_)
          refine rp_goto (tgt := 244) d_mod_timeField_145 (by decide) ?_
          refine rp_return d_mod_timeField_244 rfl ?_
          exact k h2 w2
    · refine rp_aload_n (i := 0) d_mod_timeField_60 rfl rfl ?_
      refine rp_iload (i := 6) d_mod_timeField_61 rfl ?_
      refine rp_bipush (v := 12) d_mod_timeField_63 (by decide) ?_
      refine rp_icmp_ge (tgt := 73) d_mod_timeField_65 (by decide) (fun c65 => ?_) (fun c65 => ?_)
      · refine rp_bipush (v := 80) d_mod_timeField_73 (by decide) ?_
        refine rp_callV1 d_mod_timeField_75 q_mod_timeField_132 (Or.inl ⟨_, _, _, rfl, rfl⟩) (Nat.le_of_ble_eq_true rfl) (Nat.le_of_ble_eq_true rfl) ?_
        have ec : (tFt (h0.2.2.2 22 K) v r (!decide (r_ct (h0.2.2.2 22) 10 a b = 0)) D S) = aT S := by unfold tFt; rw [if_pos c57]
        rw [ec] at hl k
        have ea : aT S = [80, 77] := by unfold aT; rw [if_neg (fun q => absurd ((show (12 : Int32) ≤ nI (S / 3600) ↔ 12 ≤ S / 3600 from nI_leI (a := 12) (by decide) (by omega)).mp c65) (by omega))]
        rw [ea] at hl k
        simp only [List.length_cons, List.length_nil] at hl
        refine s_mod_put w (by omega) (fun h1 w1 => ?_)
        refine rp_aload_n (i := 0) d_mod_timeField_78 rfl rfl ?_
        refine rp_bipush (v := 77) d_mod_timeField_79 (by decide) ?_
        refine rp_callV1 d_mod_timeField_81 q_mod_timeField_132 (Or.inl ⟨_, _, _, rfl, rfl⟩) (Nat.le_of_ble_eq_true rfl) (Nat.le_of_ble_eq_true rfl) ?_
        refine s_mod_put w1 (by rw [List.length_append]; simp only [List.length_cons, List.length_nil]; omega) (fun h2 w2 => ?_)
        rw [List.append_assoc] at w2
        refine rp_goto (tgt := 244) d_mod_timeField_84 (by decide) ?_
        refine rp_return d_mod_timeField_244 rfl ?_
        exact k h2 w2
      · refine rp_bipush (v := 65) d_mod_timeField_68 (by decide) ?_
        refine rp_goto (tgt := 75) d_mod_timeField_70 (by decide) ?_
        refine rp_callV1 d_mod_timeField_75 q_mod_timeField_132 (Or.inl ⟨_, _, _, rfl, rfl⟩) (Nat.le_of_ble_eq_true rfl) (Nat.le_of_ble_eq_true rfl) ?_
        have ec : (tFt (h0.2.2.2 22 K) v r (!decide (r_ct (h0.2.2.2 22) 10 a b = 0)) D S) = aT S := by unfold tFt; rw [if_pos c57]
        rw [ec] at hl k
        have ea : aT S = [65, 77] := by unfold aT; rw [if_pos (Nat.not_le.mp (fun q => c65 ((show (12 : Int32) ≤ nI (S / 3600) ↔ 12 ≤ S / 3600 from nI_leI (a := 12) (by decide) (by omega)).mpr q)))]
        rw [ea] at hl k
        simp only [List.length_cons, List.length_nil] at hl
        refine s_mod_put w (by omega) (fun h1 w1 => ?_)
        refine rp_aload_n (i := 0) d_mod_timeField_78 rfl rfl ?_
        refine rp_bipush (v := 77) d_mod_timeField_79 (by decide) ?_
        refine rp_callV1 d_mod_timeField_81 q_mod_timeField_132 (Or.inl ⟨_, _, _, rfl, rfl⟩) (Nat.le_of_ble_eq_true rfl) (Nat.le_of_ble_eq_true rfl) ?_
        refine s_mod_put w1 (by rw [List.length_append]; simp only [List.length_cons, List.length_nil]; omega) (fun h2 w2 => ?_)
        rw [List.append_assoc] at w2
        refine rp_goto (tgt := 244) d_mod_timeField_84 (by decide) ?_
        refine rp_return d_mod_timeField_244 rfl ?_
        exact k h2 w2
