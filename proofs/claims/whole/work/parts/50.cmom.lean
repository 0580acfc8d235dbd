/-! MOMENTS: the class's writer -/
def mSc (u : Nat) : Nat := (u % 1000000 * 86400 + 500000) / 1000000
def mDy (u : Nat) : Nat := if mSc u = 86400 then u / 1000000 + 1 else u / 1000000
def mSe (u : Nat) : Nat := if mSc u = 86400 then 0 else mSc u
theorem mSc_le (u : Nat) : mSc u ≤ 86400 := by unfold mSc; have := Nat.mod_lt u (show 0 < 1000000 by decide); omega
theorem mSe_lt (u : Nat) : mSe u < 86400 := by have := mSc_le u; unfold mSe; split <;> omega
theorem mDy_le {u : Nat} (h : u ≤ 10 ^ 15) : mDy u ≤ 1000000001 := by unfold mDy; split <;> omega
/-- the moment's writer holds day and seconds -/
def mH (h : cf_H) (D S : Nat) : Prop := h.2.1 18 2 = lN D ∧ h.1 18 3 = nI S
def m_fr (h0 h : cf_H) : Prop := (∀ o k, ¬ (o = 18 ∧ k = 3) → h.1 o k = h0.1 o k) ∧ (∀ o k, ¬ (o = 18 ∧ k = 2) → h.2.1 o k = h0.2.1 o k) ∧ h.2.2 = h0.2.2
theorem m_fr.rf (h : cf_H) : m_fr h h := ⟨fun _ _ _ => rfl, fun _ _ _ => rfl, rfl⟩
theorem m_fr.pI {h0 h : cf_H} (f : m_fr h0 h) (v : Int32) : m_fr h0 (cf_pI h 18 3 v) := ⟨fun o k e => by rw [g_I1, if_neg e]; exact f.1 o k e, f.2.1, f.2.2⟩
theorem m_fr.pJ {h0 h : cf_H} (f : m_fr h0 h) (v : Int64) : m_fr h0 (cf_pJ h 18 2 v) := ⟨f.1, fun o k e => by rw [g_J2, if_neg e]; exact f.2.1 o k e, f.2.2⟩
theorem m_fr.ok {h0 h : cf_H} (f : m_fr h0 h) (hR : cf_ok h0) : cf_ok h := fun o k q e => by rw [show h.2.2.1 = h0.2.2.1 from by rw [f.2.2]]; exact hR o k q e
def mnT : List (List Int32) := [[74, 97, 110], [70, 101, 98], [77, 97, 114], [65, 112, 114], [77, 97, 121], [74, 117, 110], [74, 117, 108], [65, 117, 103], [83, 101, 112], [79, 99, 116], [78, 111, 118], [68, 101, 99]]
def wdT : List (List Int32) := [[83, 117, 110], [77, 111, 110], [84, 117, 101], [87, 101, 100], [84, 104, 117], [70, 114, 105], [83, 97, 116]]
def mth (m : Nat) : List Int32 := mnT.getD (m - 1) []
def wkd (w : Nat) : List Int32 := wdT.getD (w - 1) []
theorem mth_ch : ∀ m, m < 12 → mth (m + 1) = [j_ch 5 (m * 3), j_ch 5 (m * 3 + 1), j_ch 5 (m * 3 + 2)] := by decide +kernel
theorem wkd_ch : ∀ m, m < 7 → wkd (m + 1) = [j_ch 6 (m * 3), j_ch 6 (m * 3 + 1), j_ch 6 (m * 3 + 2)] := by decide +kernel
theorem jch_ch5 : ∀ j, j < 36 → j_ch 5 j = ch (j_ch 5 j) := by decide +kernel
theorem jch_ch6 : ∀ j, j < 21 → j_ch 6 j = ch (j_ch 6 j) := by decide +kernel
/-- day and names as the calendar holds them -/
def dH (h : cf_H) (y m dd wd : Nat) : Prop := k_H h y m dd ∧ h.1 12 4 = nI wd ∧ 1 ≤ m ∧ m ≤ 12 ∧ 1 ≤ wd ∧ wd ≤ 7 ∧ y ≤ 9999 ∧ dd ≤ 31
def nO (v : Int32) (r : Nat) (tw : Bool) (y m dd S : Nat) : Nat := if v = 121 then (if r = 2 then y % 100 else y) else if v = 109 then m else if v = 100 then dd else if v = 104 then (bif tw then (S / 3600 + 11) % 12 + 1 else S / 3600) else if v = 110 then S / 60 % 60 else S % 60
def cF (v : Int32) (r : Nat) (tw : Bool) (y m dd wd S : Nat) : List Int32 := if v = 121 ∨ r < 3 then pn (nO v r tw y m dd S) r else if v = 109 then mth m else wkd wd
def eT (v : Int32) (T : Nat) : List Int32 := pn (if v = 104 then T / 3600 else if v = 109 then T / 60 else T) 1
def aT (S : Nat) : List Int32 := [if S / 3600 < 12 then 65 else 80, 77]
def cMt (D S : Nat) (tw : Bool) (y m dd wd : Nat) (ty va de : Nat → Int32) (j : Nat) : List Int32 := if ty j = 1 then [va j] else if ty j = 9 then eT (va j) (D * 86400 + S) else if ty j = 10 then aT S else if ty j = 8 then cF (va j) (de j).toNatClampNeg tw y m dd wd S else []
/-- a field's letter and run as the class holds them -/
def fO (v : Int32) (r : Nat) : Prop := 1 ≤ r ∧ r ≤ 4 ∧ (v = 121 ∨ v = 109 ∨ v = 100 ∨ ((v = 104 ∨ v = 115 ∨ v = 110) ∧ r ≤ 2))
theorem nO_le {v : Int32} {r : Nat} {tw : Bool} {y m dd S : Nat} (hy : y ≤ 9999) (hm : m ≤ 12) (hd : dd ≤ 31) (hS : S < 86400) : nO v r tw y m dd S ≤ 86400 := by
  unfold nO
  cases tw <;> simp only [cond] <;> (repeat' split) <;> omega

set_option maxHeartbeats 4000000 in
set_option maxRecDepth 100000 in
theorem s_mom_roundToSeconds {h : cf_H} {P : Option Value → cf_H → Prop} {x : Int64} {u : Nat} (hx : x = lN u) (hu : u ≤ 10 ^ 15) (k : ∀ h', mH h' (mDy u) (mSe u) → m_fr h h' → P none h') : RP k_mom_roundToSeconds 0 [(0, .ref 18), (1, .long x)] [] h P := by
  subst hx
  have h15 : (10 : Nat) ^ 15 < 2 ^ 60 := by decide
  have hm := Nat.mod_lt u (show 0 < 1000000 by decide)
  have hsc := mSc_le u
  refine rp_aload_n (i := 0) d_mom_roundToSeconds_0 rfl rfl ?_
  refine rp_lload_n (i := 1) d_mom_roundToSeconds_1 rfl rfl ?_
  refine rp_ldc2 (v := 1000000) d_mom_roundToSeconds_2 l_mom_57 ?_
  refine rp_ldiv d_mom_roundToSeconds_5 (by decide) ?_
  rw [show lN u / 1000000 = lN (u / 1000000) from pk_lDiv (b := 1000000) (by omega) (by decide) (by decide)]
  refine rp_putJ d_mom_roundToSeconds_6 f_mom_23 rfl rfl rfl ?_
  have f1 : m_fr h (cf_pJ h 18 2 (lN (u / 1000000))) := (m_fr.rf h).pJ _
  have j1 : (cf_pJ h 18 2 (lN (u / 1000000))).2.1 18 2 = lN (u / 1000000) := cf_pJ_s
  generalize cf_pJ h 18 2 (lN (u / 1000000)) = h1 at f1 j1 ⊢
  refine rp_lload_n (i := 1) d_mom_roundToSeconds_9 rfl rfl ?_
  refine rp_ldc2 (v := 1000000) d_mom_roundToSeconds_10 l_mom_57 ?_
  refine rp_lrem d_mom_roundToSeconds_13 (by decide) ?_
  rw [show lN u - lN u / 1000000 * 1000000 = lN (u % 1000000) from pk_lRem (b := 1000000) (by omega) (by decide) (by decide)]
  refine rp_lstore_n (i := 3) d_mom_roundToSeconds_14 rfl rfl (Nat.le_of_ble_eq_true rfl) ?_
  refine rp_aload_n (i := 0) d_mom_roundToSeconds_15 rfl rfl ?_
  refine rp_lload_n (i := 3) d_mom_roundToSeconds_16 rfl rfl ?_
  refine rp_ldc2 (v := 86400) d_mom_roundToSeconds_17 l_mom_59 ?_
  refine rp_lmul d_mom_roundToSeconds_20 ?_
  refine rp_ldc2 (v := 500000) d_mom_roundToSeconds_21 l_mom_61 ?_
  refine rp_ladd d_mom_roundToSeconds_24 ?_
  refine rp_ldc2 (v := 1000000) d_mom_roundToSeconds_25 l_mom_57 ?_
  refine rp_ldiv d_mom_roundToSeconds_28 (by decide) ?_
  rw [show (lN (u % 1000000) * 86400 + 500000) / 1000000 = lN (mSc u) from by rw [show (86400 : Int64) = lN 86400 from rfl, show (500000 : Int64) = lN 500000 from rfl, lN_mul, lN_add]; exact pk_lDiv (b := 1000000) (by omega) (by decide) (by decide)]
  refine rp_l2i d_mom_roundToSeconds_29 ?_
  rw [lN_i]
  refine rp_putI d_mom_roundToSeconds_30 f_mom_63 rfl rfl rfl ?_
  have f2 := f1.pI (nI (mSc u))
  have i2 : (cf_pI h1 18 3 (nI (mSc u))).1 18 3 = nI (mSc u) := cf_pI_s
  have j2 : (cf_pI h1 18 3 (nI (mSc u))).2.1 18 2 = lN (u / 1000000) := j1
  generalize cf_pI h1 18 3 (nI (mSc u)) = h2 at f2 i2 j2 ⊢
  refine rp_aload_n (i := 0) d_mom_roundToSeconds_33 rfl rfl ?_
  refine rp_getI d_mom_roundToSeconds_34 f_mom_63 rfl ?_
  rw [i2]
  refine rp_ldc (v := 86400) d_mom_roundToSeconds_37 l_mom_66 ?_
  refine rp_icmp_ne (tgt := 57) d_mom_roundToSeconds_39 (by decide) (fun c39 => ?_) (fun c39 => ?_)
  · refine rp_return d_mom_roundToSeconds_57 rfl ?_
    have c39 : ¬ mSc u = 86400 := fun z => c39 (by rw [z]; rfl)
    refine k h2 ⟨?_, ?_⟩ f2
    · rw [mDy, if_neg c39]; exact j2
    · rw [mSe, if_neg c39]; exact i2
  · refine rp_aload_n (i := 0) d_mom_roundToSeconds_42 rfl rfl ?_
    refine rp_iconst (v := 0) d_mom_roundToSeconds_43 (by decide) ?_
    refine rp_putI d_mom_roundToSeconds_44 f_mom_63 rfl rfl rfl ?_
    refine rp_aload_n (i := 0) d_mom_roundToSeconds_47 rfl rfl ?_
    refine rp_dup d_mom_roundToSeconds_48 rfl ?_
    refine rp_getJ d_mom_roundToSeconds_49 f_mom_23 rfl ?_
    rw [g_I2, j2]
    refine rp_lconst (v := 1) d_mom_roundToSeconds_52 (by decide) ?_
    refine rp_ladd d_mom_roundToSeconds_53 ?_
    rw [show (1 : Int64) = lN 1 from rfl, lN_add]
    refine rp_putJ d_mom_roundToSeconds_54 f_mom_23 rfl rfl rfl ?_
    refine rp_return d_mom_roundToSeconds_57 rfl ?_
    have c39 : mSc u = 86400 := (nI_eq (b := 86400) (by omega) (by decide)).mp c39
    refine k _ ⟨?_, ?_⟩ ((f2.pI _).pJ _)
    · rw [mDy, if_pos c39]; exact cf_pJ_s
    · rw [mSe, if_pos c39, g_J1]; exact cf_pI_s
set_option maxHeartbeats 4000000 in
set_option maxRecDepth 100000 in
theorem s_mom_hour {h : cf_H} {P : Option Value → cf_H → Prop} {S : Nat} (hS : h.1 18 3 = nI S) (hl : S < 86400) (k : P (some (.int (nI (S / 3600)))) h) : RP k_mom_hour 0 [(0, .ref 18)] [] h P := by
  refine rp_aload_n (i := 0) d_mom_hour_0 rfl rfl ?_
  refine rp_getI d_mom_hour_1 f_mom_63 rfl ?_
  rw [hS]
  refine rp_sipush (v := 3600) d_mom_hour_4 (by decide) ?_
  refine rp_idiv d_mom_hour_7 (by decide) ?_
  rw [show nI S / 3600 = nI (S / 3600) from pk_div (d := 3600) (by omega) (by decide) (by decide)]
  refine rp_ireturn (ty := .int) d_mom_hour_8 rfl rfl ?_
  exact k
theorem t18 : (10 : Nat) ^ 18 = 1000000000000000000 := by decide
set_option maxHeartbeats 4000000 in
set_option maxRecDepth 100000 in
theorem s_mom_writeElapsed {h0 h : cf_H} {P : Option Value → cf_H → Prop} {L : List Int32} (w : wT h0 L h) {D S : Nat} (hm : mH h0 D S) (hD : D ≤ 10 ^ 10) (hS : S < 86400) {v : Int32} (hl : L.length + (eT v (D * 86400 + S)).length ≤ 256) (k : ∀ h', wT h0 (L ++ eT v (D * 86400 + S)) h' → P none h') : RP k_mom_writeElapsed 0 [(0, .ref 18), (1, .int v)] [] h P := by
  have hR := w.ok
  have g2 : h.2.1 18 2 = lN D := by rw [w.2.1.2.1]; exact hm.1
  have g3 : h.1 18 3 = nI S := by rw [w.2.1.1 18 3 (by decide)]; exact hm.2
  have ht := t18
  refine rp_aload_n (i := 0) d_mom_writeElapsed_0 rfl rfl ?_
  refine rp_getJ d_mom_writeElapsed_1 f_mom_23 rfl ?_
  rw [g2]
  refine rp_ldc2 (v := 86400) d_mom_writeElapsed_4 l_mom_59 ?_
  refine rp_lmul d_mom_writeElapsed_7 ?_
  refine rp_aload_n (i := 0) d_mom_writeElapsed_8 rfl rfl ?_
  refine rp_getI d_mom_writeElapsed_9 f_mom_63 rfl ?_
  rw [g3]
  refine rp_i2l d_mom_writeElapsed_12 ?_
  rw [nI_l (by omega)]
  refine rp_ladd d_mom_writeElapsed_13 ?_
  rw [show lN D * 86400 + lN S = lN (D * 86400 + S) from by rw [show (86400 : Int64) = lN 86400 from rfl, lN_mul, lN_add]]
  refine rp_lstore_n (i := 2) d_mom_writeElapsed_14 rfl rfl (Nat.le_of_ble_eq_true rfl) ?_
  refine rp_iload_n (i := 1) d_mom_writeElapsed_15 rfl rfl ?_
  refine rp_bipush (v := 104) d_mom_writeElapsed_16 (by decide) ?_
  refine rp_icmp_ne (tgt := 37) d_mom_writeElapsed_18 (by decide) (fun c18 => ?_) (fun c18 => ?_)
  · refine rp_iload_n (i := 1) d_mom_writeElapsed_37 rfl rfl ?_
    refine rp_bipush (v := 109) d_mom_writeElapsed_38 (by decide) ?_
    refine rp_icmp_ne (tgt := 59) d_mom_writeElapsed_40 (by decide) (fun c40 => ?_) (fun c40 => ?_)
    · refine rp_aload_n (i := 0) d_mom_writeElapsed_59 rfl rfl ?_
      refine rp_getR d_mom_writeElapsed_60 f_mom_9 rfl (hR _ _ _ rfl) ?_
      refine rp_lload_n (i := 2) d_mom_writeElapsed_63 rfl rfl ?_
      refine rp_iconst (v := 1) d_mom_writeElapsed_64 (by decide) ?_
      refine rp_callV2 d_mom_writeElapsed_65 q_mom_writeElapsed_98 (Or.inl ⟨_, _, _, rfl, rfl⟩) (Nat.le_of_ble_eq_true rfl) (Nat.le_of_ble_eq_true rfl) ?_
      rw [eT, if_neg c18, if_neg c40] at hl k
      refine s_txt_addNumber w rfl (d := 1) rfl (by omega) (by decide) hl (fun h2 w2 => ?_)
      refine rp_return d_mom_writeElapsed_68 rfl ?_
      exact k h2 w2
    · refine rp_aload_n (i := 0) d_mom_writeElapsed_43 rfl rfl ?_
      refine rp_getR d_mom_writeElapsed_44 f_mom_9 rfl (hR _ _ _ rfl) ?_
      refine rp_lload_n (i := 2) d_mom_writeElapsed_47 rfl rfl ?_
      refine rp_ldc2 (v := 60) d_mom_writeElapsed_48 l_mom_102 ?_
      refine rp_ldiv d_mom_writeElapsed_51 (by decide) ?_
      rw [show lN (D * 86400 + S) / 60 = lN ((D * 86400 + S) / 60) from pk_lDiv (b := 60) (by omega) (by decide) (by decide)]
      refine rp_iconst (v := 1) d_mom_writeElapsed_52 (by decide) ?_
      refine rp_callV2 d_mom_writeElapsed_53 q_mom_writeElapsed_98 (Or.inl ⟨_, _, _, rfl, rfl⟩) (Nat.le_of_ble_eq_true rfl) (Nat.le_of_ble_eq_true rfl) ?_
      rw [eT, if_neg c18, if_pos c40] at hl k
      refine s_txt_addNumber w rfl (d := 1) rfl (by omega) (by decide) hl (fun h2 w2 => ?_)
      refine rp_goto (tgt := 68) d_mom_writeElapsed_56 (by decide) ?_
      refine rp_return d_mom_writeElapsed_68 rfl ?_
      exact k h2 w2
  · refine rp_aload_n (i := 0) d_mom_writeElapsed_21 rfl rfl ?_
    refine rp_getR d_mom_writeElapsed_22 f_mom_9 rfl (hR _ _ _ rfl) ?_
    refine rp_lload_n (i := 2) d_mom_writeElapsed_25 rfl rfl ?_
    refine rp_ldc2 (v := 3600) d_mom_writeElapsed_26 l_mom_96 ?_
    refine rp_ldiv d_mom_writeElapsed_29 (by decide) ?_
    rw [show lN (D * 86400 + S) / 3600 = lN ((D * 86400 + S) / 3600) from pk_lDiv (b := 3600) (by omega) (by decide) (by decide)]
    refine rp_iconst (v := 1) d_mom_writeElapsed_30 (by decide) ?_
    refine rp_callV2 d_mom_writeElapsed_31 q_mom_writeElapsed_98 (Or.inl ⟨_, _, _, rfl, rfl⟩) (Nat.le_of_ble_eq_true rfl) (Nat.le_of_ble_eq_true rfl) ?_
    rw [eT, if_pos c18] at hl k
    refine s_txt_addNumber w rfl (d := 1) rfl (by omega) (by decide) hl (fun h2 w2 => ?_)
    refine rp_goto (tgt := 68) d_mom_writeElapsed_34 (by decide) ?_
    refine rp_return d_mom_writeElapsed_68 rfl ?_
    exact k h2 w2
set_option maxHeartbeats 4000000 in
set_option maxRecDepth 100000 in
theorem s_mom_numberOf {h : cf_H} {P : Option Value → cf_H → Prop} (hR : cf_ok h) {S : Nat} (g3 : h.1 18 3 = nI S) (hS : S < 86400) {v : Int32} {r : Nat} (hr : r ≤ 4) {tw : Bool} {y m dd wd : Nat} (hd : (v = 121 ∨ v = 109 ∨ v = 100) → dH h y m dd wd) {x z : Int32} (hx : x = nI r) (hz : z = cf_b tw) (k : P (some (.int (nI (nO v r tw y m dd S)))) h) : RP k_mom_numberOf 0 [(0, .ref 18), (1, .int v), (2, .int x), (3, .int z)] [] h P := by
  subst hx; subst hz
  refine rp_iload_n (i := 1) d_mom_numberOf_0 rfl rfl ?_
  refine rp_bipush (v := 121) d_mom_numberOf_1 (by decide) ?_
  refine rp_icmp_ne (tgt := 32) d_mom_numberOf_3 (by decide) (fun c3 => ?_) (fun c3 => ?_)
  · refine rp_iload_n (i := 1) d_mom_numberOf_32 rfl rfl ?_
    refine rp_bipush (v := 109) d_mom_numberOf_33 (by decide) ?_
    refine rp_icmp_ne (tgt := 46) d_mom_numberOf_35 (by decide) (fun c35 => ?_) (fun c35 => ?_)
    · refine rp_iload_n (i := 1) d_mom_numberOf_46 rfl rfl ?_
      refine rp_bipush (v := 100) d_mom_numberOf_47 (by decide) ?_
      refine rp_icmp_ne (tgt := 60) d_mom_numberOf_49 (by decide) (fun c49 => ?_) (fun c49 => ?_)
      · refine rp_iload_n (i := 1) d_mom_numberOf_60 rfl rfl ?_
        refine rp_bipush (v := 104) d_mom_numberOf_61 (by decide) ?_
        refine rp_icmp_ne (tgt := 90) d_mom_numberOf_63 (by decide) (fun c63 => ?_) (fun c63 => ?_)
        · refine rp_iload_n (i := 1) d_mom_numberOf_90 rfl rfl ?_
          refine rp_bipush (v := 110) d_mom_numberOf_91 (by decide) ?_
          refine rp_icmp_ne (tgt := 109) d_mom_numberOf_93 (by decide) (fun c93 => ?_) (fun c93 => ?_)
          · refine rp_aload_n (i := 0) d_mom_numberOf_109 rfl rfl ?_
            refine rp_getI d_mom_numberOf_110 f_mom_63 rfl ?_
            rw [g3]
            refine rp_bipush (v := 60) d_mom_numberOf_113 (by decide) ?_
            refine rp_irem d_mom_numberOf_115 (by decide) ?_
            rw [show nI S - nI S / 60 * 60 = nI (S % 60) from pk_rem (d := 60) (by omega) (by decide) (by decide)]
            refine rp_ireturn (ty := .int) d_mom_numberOf_116 rfl rfl ?_
            have e : nO v r tw y m dd S = S % 60 := by unfold nO; rw [if_neg c3, if_neg c35, if_neg c49, if_neg c63, if_neg c93]
            rw [e] at k
            exact k
          · refine rp_aload_n (i := 0) d_mom_numberOf_96 rfl rfl ?_
            refine rp_getI d_mom_numberOf_97 f_mom_63 rfl ?_
            rw [g3]
            refine rp_bipush (v := 60) d_mom_numberOf_100 (by decide) ?_
            refine rp_idiv d_mom_numberOf_102 (by decide) ?_
            rw [show nI S / 60 = nI (S / 60) from pk_div (d := 60) (by omega) (by decide) (by decide)]
            refine rp_bipush (v := 60) d_mom_numberOf_103 (by decide) ?_
            refine rp_irem d_mom_numberOf_105 (by decide) ?_
            rw [show nI (S / 60) - nI (S / 60) / 60 * 60 = nI (S / 60 % 60) from pk_rem (d := 60) (by omega) (by decide) (by decide)]
            refine rp_goto (tgt := 116) d_mom_numberOf_106 (by decide) ?_
            refine rp_ireturn (ty := .int) d_mom_numberOf_116 rfl rfl ?_
            have e : nO v r tw y m dd S = S / 60 % 60 := by unfold nO; rw [if_neg c3, if_neg c35, if_neg c49, if_neg c63, if_pos c93]
            rw [e] at k
            exact k
        · refine rp_iload_n (i := 3) d_mom_numberOf_66 rfl rfl ?_
          refine rp_if_eq (tgt := 85) d_mom_numberOf_67 (by decide) (fun c67 => ?_) (fun c67 => ?_)
          · refine rp_aload_n (i := 0) d_mom_numberOf_85 rfl rfl ?_
            refine rp_callV0 d_mom_numberOf_86 q_mom_numberOf_86 (Or.inl ⟨_, _, _, rfl, rfl⟩) (Nat.le_of_ble_eq_true rfl) (Nat.le_of_ble_eq_true rfl) ?_
            refine s_mom_hour g3 hS ?_
            refine rp_ireturn (ty := .int) d_mom_numberOf_89 rfl rfl ?_
            have e : nO v r tw y m dd S = S / 3600 := by unfold nO; rw [if_neg c3, if_neg c35, if_neg c49, if_pos c63, cf_b_f c67, cond]
            rw [e] at k
            exact k
          · refine rp_aload_n (i := 0) d_mom_numberOf_70 rfl rfl ?_
            refine rp_callV0 d_mom_numberOf_71 q_mom_numberOf_86 (Or.inl ⟨_, _, _, rfl, rfl⟩) (Nat.le_of_ble_eq_true rfl) (Nat.le_of_ble_eq_true rfl) ?_
            refine s_mom_hour g3 hS ?_
            refine rp_bipush (v := 11) d_mom_numberOf_74 (by decide) ?_
            refine rp_iadd d_mom_numberOf_76 ?_
            rw [show nI (S / 3600) + 11 = nI (S / 3600 + 11) from nI_add _ 11]
            refine rp_bipush (v := 12) d_mom_numberOf_77 (by decide) ?_
            refine rp_irem d_mom_numberOf_79 (by decide) ?_
            rw [show nI (S / 3600 + 11) - nI (S / 3600 + 11) / 12 * 12 = nI ((S / 3600 + 11) % 12) from pk_rem (d := 12) (by omega) (by decide) (by decide)]
            refine rp_iconst (v := 1) d_mom_numberOf_80 (by decide) ?_
            refine rp_iadd d_mom_numberOf_81 ?_
            rw [nI_1]
            refine rp_goto (tgt := 89) d_mom_numberOf_82 (by decide) ?_
            refine rp_ireturn (ty := .int) d_mom_numberOf_89 rfl rfl ?_
            have e : nO v r tw y m dd S = (S / 3600 + 11) % 12 + 1 := by unfold nO; rw [if_neg c3, if_neg c35, if_neg c49, if_pos c63, cf_b_t c67, cond]
            rw [e] at k
            exact k
      · refine rp_aload_n (i := 0) d_mom_numberOf_52 rfl rfl ?_
        refine rp_getR d_mom_numberOf_53 f_mom_15 rfl (hR _ _ _ rfl) ?_
        refine rp_getI d_mom_numberOf_56 f_mom_125 rfl ?_
        obtain ⟨⟨q1, q2, q3⟩, q4, q5⟩ := hd (Or.inr (Or.inr c49))
        rw [q3]
        refine rp_ireturn (ty := .int) d_mom_numberOf_59 rfl rfl ?_
        have e : nO v r tw y m dd S = dd := by unfold nO; rw [if_neg c3, if_neg c35, if_pos c49]
        rw [e] at k
        exact k
    · refine rp_aload_n (i := 0) d_mom_numberOf_38 rfl rfl ?_
      refine rp_getR d_mom_numberOf_39 f_mom_15 rfl (hR _ _ _ rfl) ?_
      refine rp_getI d_mom_numberOf_42 f_mom_110 rfl ?_
      obtain ⟨⟨q1, q2, q3⟩, q4, q5⟩ := hd (Or.inr (Or.inl c35))
      rw [q2]
      refine rp_ireturn (ty := .int) d_mom_numberOf_45 rfl rfl ?_
      have e : nO v r tw y m dd S = m := by unfold nO; rw [if_neg c3, if_pos c35]
      rw [e] at k
      exact k
  · refine rp_iload_n (i := 2) d_mom_numberOf_6 rfl rfl ?_
    refine rp_iconst (v := 2) d_mom_numberOf_7 (by decide) ?_
    refine rp_icmp_ne (tgt := 24) d_mom_numberOf_8 (by decide) (fun c8 => ?_) (fun c8 => ?_)
    · refine rp_aload_n (i := 0) d_mom_numberOf_24 rfl rfl ?_
      refine rp_getR d_mom_numberOf_25 f_mom_15 rfl (hR _ _ _ rfl) ?_
      refine rp_getI d_mom_numberOf_28 f_mom_122 rfl ?_
      obtain ⟨⟨q1, q2, q3⟩, q4, q5⟩ := hd (Or.inl c3)
      rw [q1]
      refine rp_ireturn (ty := .int) d_mom_numberOf_31 rfl rfl ?_
      have e : nO v r tw y m dd S = y := by unfold nO; rw [if_pos c3, if_neg (fun z => c8 (by rw [z]; rfl))]
      rw [e] at k
      exact k
    · refine rp_aload_n (i := 0) d_mom_numberOf_11 rfl rfl ?_
      refine rp_getR d_mom_numberOf_12 f_mom_15 rfl (hR _ _ _ rfl) ?_
      refine rp_getI d_mom_numberOf_15 f_mom_122 rfl ?_
      obtain ⟨⟨q1, q2, q3⟩, q4, q5⟩ := hd (Or.inl c3)
      rw [q1]
      refine rp_bipush (v := 100) d_mom_numberOf_18 (by decide) ?_
      refine rp_irem d_mom_numberOf_20 (by decide) ?_
      rw [show nI y - nI y / 100 * 100 = nI (y % 100) from pk_rem (d := 100) (by omega) (by decide) (by decide)]
      refine rp_goto (tgt := 31) d_mom_numberOf_21 (by decide) ?_
      refine rp_ireturn (ty := .int) d_mom_numberOf_31 rfl rfl ?_
      have e : nO v r tw y m dd S = y % 100 := by unfold nO; rw [if_pos c3, if_pos ((nI_eq (b := 2) (by omega) (by decide)).mp c8)]
      rw [e] at k
      exact k
def nmL (i : Nat) : Nat → Nat → List Int32
  | _, 0 => []
  | j, n + 1 => j_ch i j :: nmL i (j + 1) n
theorem nmL_len (i : Nat) : ∀ n j, (nmL i j n).length = n := by
  intro n
  induction n with
  | zero => intro j; rfl
  | succ n ih => intro j; rw [nmL, List.length_cons, ih]
set_option maxHeartbeats 4000000 in
set_option maxRecDepth 100000 in
theorem l_mom_name {h0 : cf_H} {P : Option Value → cf_H → Prop} {i N : Nat} {sq : String × Nat × String} (hq : cf_strs[i]? = some sq) (hk : cf_ka (130 + i) = some (.byte, N, fun j => .int ((cf_byt.getD i []).getD j 0))) (hN : N ≤ 40) (hch : ∀ j, j < N → j_ch i j = ch (j_ch i j)) {q : Nat} (hqN : q + 3 ≤ N) : ∀ (n j : Nat) (h : cf_H) (L : List Int32), j + n = q + 3 → wT h0 L h → L.length + n ≤ 256 → (k : ∀ h', wT h0 (L ++ nmL i j n) h' → P none h') → RP k_mom_writeName 9 [(0, .ref 18), (1, .ref (110 + i)), (3, .int (nI q)), (4, .int (nI j))] [] h P := by
  intro n
  induction n with
  | zero =>
    intro j h L e w hl k
    have e : j = q + 3 := e
    refine rp_iload (i := 4) d_mom_writeName_9 rfl ?_
    refine rp_iload_n (i := 3) d_mom_writeName_11 rfl rfl ?_
    refine rp_iconst (v := 3) d_mom_writeName_12 (by decide) ?_
    refine rp_iadd d_mom_writeName_13 ?_
    rw [show nI q + 3 = nI (q + 3) from nI_add q 3]
    refine rp_icmp_ge (tgt := 50) d_mom_writeName_14 (by decide) (fun c14 => ?_) (fun c14 => ?_)
    · refine rp_return d_mom_writeName_50 rfl ?_
      refine k h ?_
      show wT h0 (L ++ []) h
      rw [List.append_nil]; exact w
    · exact absurd (by rw [e]; exact Int32.le_refl _) c14
  | succ n ih =>
    intro j h L e w hl k
    refine rp_iload (i := 4) d_mom_writeName_9 rfl ?_
    refine rp_iload_n (i := 3) d_mom_writeName_11 rfl rfl ?_
    refine rp_iconst (v := 3) d_mom_writeName_12 (by decide) ?_
    refine rp_iadd d_mom_writeName_13 ?_
    rw [show nI q + 3 = nI (q + 3) from nI_add q 3]
    refine rp_icmp_ge (tgt := 50) d_mom_writeName_14 (by decide) (fun c14 => ?_) (fun c14 => ?_)
    · exact absurd c14 (nI_ge (by omega) (by omega))
    · refine rp_iload (i := 4) d_mom_writeName_17 rfl ?_
      refine rp_if_lt (tgt := 44) d_mom_writeName_19 (by decide) (fun c19 => ?_) (fun c19 => ?_)
      · exact absurd c19 (cf_nneg (by omega))
      · refine rp_iload (i := 4) d_mom_writeName_22 rfl ?_
        refine rp_aload_n (i := 1) d_mom_writeName_24 rfl rfl ?_
        refine rp_callV0 d_mom_writeName_25 q_mom_writeName_128 (Or.inr ⟨i, _, rfl, hq, rfl⟩) (Nat.le_of_ble_eq_true rfl) (Nat.le_of_ble_eq_true rfl) ?_
        refine s_str_length hq hk hN ?_
        refine rp_icmp_ge (tgt := 44) d_mom_writeName_28 (by decide) (fun c28 => ?_) (fun c28 => ?_)
        · exact absurd c28 (nI_ge (by omega) (by omega))
        · refine rp_aload_n (i := 0) d_mom_writeName_31 rfl rfl ?_
          refine rp_getR d_mom_writeName_32 f_mom_9 rfl (w.ok _ _ _ rfl) ?_
          refine rp_aload_n (i := 1) d_mom_writeName_35 rfl rfl ?_
          refine rp_iload (i := 4) d_mom_writeName_36 rfl ?_
          refine rp_callV1 d_mom_writeName_38 q_mom_writeName_133 (Or.inr ⟨i, _, rfl, hq, rfl⟩) (Nat.le_of_ble_eq_true rfl) (Nat.le_of_ble_eq_true rfl) ?_
          refine s_str_charAt hq hk hN rfl (by omega) ?_
          refine rp_callV1 d_mom_writeName_41 q_mom_writeName_76 (Or.inl ⟨_, _, _, rfl, rfl⟩) (Nat.le_of_ble_eq_true rfl) (Nat.le_of_ble_eq_true rfl) ?_
          refine s_txt_add w (by omega) (hch j (by omega)) (fun h w => ?_)
          refine rp_iinc (i := 4) (y := 1) d_mom_writeName_44 rfl (by decide) rfl (Nat.le_of_ble_eq_true rfl) ?_
          refine rp_goto (tgt := 9) d_mom_writeName_47 (by decide) ?_
          refine rp_lv [(0, .ref 18), (1, .ref (110 + i)), (3, .int (nI q)), (4, .int (nI (j + 1)))] (by rw [← nI_1]; rfl) ?_
          refine ih (j + 1) h _ (by omega) w (by rw [List.length_append]; simp only [List.length_cons, List.length_nil]; omega) (fun h3 z => k h3 ?_)
          rw [List.append_assoc] at z; exact z
set_option maxHeartbeats 4000000 in
set_option maxRecDepth 100000 in
theorem s_mom_writeName {h0 h : cf_H} {P : Option Value → cf_H → Prop} {L : List Int32} (w : wT h0 L h) {i N : Nat} {sq : String × Nat × String} (hq : cf_strs[i]? = some sq) (hk : cf_ka (130 + i) = some (.byte, N, fun j => .int ((cf_byt.getD i []).getD j 0))) (hN : N ≤ 40) (hch : ∀ j, j < N → j_ch i j = ch (j_ch i j)) {m : Nat} {x : Int32} (hx : x = nI (m + 1)) (hmN : m * 3 + 3 ≤ N) (hl : L.length + 3 ≤ 256) (k : ∀ h', wT h0 (L ++ nmL i (m * 3) 3) h' → P none h') : RP k_mom_writeName 0 [(0, .ref 18), (1, .ref (110 + i)), (2, .int x)] [] h P := by
  subst hx
  refine rp_iload_n (i := 2) d_mom_writeName_0 rfl rfl ?_
  refine rp_iconst (v := 1) d_mom_writeName_1 (by decide) ?_
  refine rp_isub d_mom_writeName_2 ?_
  rw [nI_sub1]
  refine rp_iconst (v := 3) d_mom_writeName_3 (by decide) ?_
  refine rp_imul d_mom_writeName_4 ?_
  rw [show nI m * 3 = nI (m * 3) from pk_mul m 3]
  refine rp_istore_n (i := 3) d_mom_writeName_5 rfl rfl (Nat.le_of_ble_eq_true rfl) ?_
  refine rp_iload_n (i := 3) d_mom_writeName_6 rfl rfl ?_
  refine rp_istore (i := 4) d_mom_writeName_7 rfl (Nat.le_of_ble_eq_true rfl) ?_
  refine rp_lv [(0, .ref 18), (1, .ref (110 + i)), (3, .int (nI (m * 3))), (4, .int (nI (m * 3)))] rfl ?_
  exact l_mom_name hq hk hN hch hmN 3 (m * 3) h L rfl w hl k
theorem dH.w {h0 h : cf_H} {L : List Int32} (w : wT h0 L h) {y m dd wd : Nat} (d : dH h0 y m dd wd) : dH h y m dd wd := by
  unfold dH k_H at *
  rw [w.2.1.1 12 1 (by decide), w.2.1.1 12 2 (by decide), w.2.1.1 12 3 (by decide), w.2.1.1 12 4 (by decide)]; exact d
theorem nO_lt {h : cf_H} {v : Int32} {r : Nat} {tw : Bool} {y m dd wd S : Nat} (hS : S < 86400) (hd : (v = 121 ∨ v = 109 ∨ v = 100) → dH h y m dd wd) : nO v r tw y m dd S ≤ 86400 := by
  unfold nO
  by_cases c1 : v = 121
  · obtain ⟨_, _, _, _, _, _, h1, _⟩ := hd (Or.inl c1)
    rw [if_pos c1]; split <;> omega
  rw [if_neg c1]
  by_cases c2 : v = 109
  · obtain ⟨_, _, _, h1, _, _, _, _⟩ := hd (Or.inr (Or.inl c2))
    rw [if_pos c2]; omega
  rw [if_neg c2]
  by_cases c3 : v = 100
  · obtain ⟨_, _, _, _, _, _, _, h1⟩ := hd (Or.inr (Or.inr c3))
    rw [if_pos c3]; omega
  rw [if_neg c3]
  cases tw <;> simp only [cond] <;> (repeat' split) <;> omega
set_option maxHeartbeats 4000000 in
set_option maxRecDepth 100000 in
theorem s_mom_writeField {h0 h : cf_H} {P : Option Value → cf_H → Prop} {L : List Int32} (w : wT h0 L h) {D S : Nat} (hm : mH h0 D S) (hD : D ≤ 10 ^ 10) (hS : S < 86400) {v : Int32} {r : Nat} (hf : fO v r) {tw : Bool} {y m dd wd : Nat} (hd : (v = 121 ∨ v = 109 ∨ v = 100) → dH h0 y m dd wd) {x z : Int32} (hx : x = nI r) (hz : z = cf_b tw) (hl : L.length + (cF v r tw y m dd wd S).length ≤ 256) (k : ∀ h', wT h0 (L ++ cF v r tw y m dd wd S) h' → P none h') : RP k_mom_writeField 0 [(0, .ref 18), (1, .int v), (2, .int x), (3, .int z)] [] h P := by
  subst hx; subst hz
  obtain ⟨f1, f2, f3⟩ := id hf
  have hR := w.ok
  have g2 : h.2.1 18 2 = lN D := by rw [w.2.1.2.1]; exact hm.1
  have g3 : h.1 18 3 = nI S := by rw [w.2.1.1 18 3 (by decide)]; exact hm.2
  refine rp_iload_n (i := 1) d_mom_writeField_0 rfl rfl ?_
  refine rp_bipush (v := 121) d_mom_writeField_1 (by decide) ?_
  refine rp_icmp_eq (tgt := 11) d_mom_writeField_3 (by decide) (fun c3 => ?_) (fun c3 => ?_)
  · refine rp_aload_n (i := 0) d_mom_writeField_11 rfl rfl ?_
    refine rp_getR d_mom_writeField_12 f_mom_9 rfl (hR _ _ _ rfl) ?_
    refine rp_aload_n (i := 0) d_mom_writeField_15 rfl rfl ?_
    refine rp_iload_n (i := 1) d_mom_writeField_16 rfl rfl ?_
    refine rp_iload_n (i := 2) d_mom_writeField_17 rfl rfl ?_
    refine rp_iload_n (i := 3) d_mom_writeField_18 rfl rfl ?_
    refine rp_callV3 d_mom_writeField_19 q_mom_writeField_104 (Or.inl ⟨_, _, _, rfl, rfl⟩) (Nat.le_of_ble_eq_true rfl) (Nat.le_of_ble_eq_true rfl) ?_
    refine s_mom_numberOf hR g3 hS (by omega) (fun q => (hd q).w w) rfl rfl ?_
    refine rp_i2l d_mom_writeField_22 ?_
    refine rp_iload_n (i := 2) d_mom_writeField_23 rfl rfl ?_
    refine rp_callV2 d_mom_writeField_24 q_mom_writeField_98 (Or.inl ⟨_, _, _, rfl, rfl⟩) (Nat.le_of_ble_eq_true rfl) (Nat.le_of_ble_eq_true rfl) ?_
    have ec : cF v r tw y m dd wd S = pn (nO v r tw y m dd S) r := if_pos (Or.inl c3)
    rw [ec] at hl k
    have hnl := nO_lt (r := r) (tw := tw) hS hd
    rw [nI_l (by omega)]
    have t18 := t18
    refine s_txt_addNumber w rfl rfl (by omega) (by omega) hl (fun h2 w2 => ?_)
    refine rp_goto (tgt := 65) d_mom_writeField_27 (by decide) ?_
    refine rp_return d_mom_writeField_65 rfl ?_
    exact k h2 w2
  · refine rp_iload_n (i := 2) d_mom_writeField_6 rfl rfl ?_
    refine rp_iconst (v := 3) d_mom_writeField_7 (by decide) ?_
    refine rp_icmp_ge (tgt := 30) d_mom_writeField_8 (by decide) (fun c8 => ?_) (fun c8 => ?_)
    · refine rp_iload_n (i := 1) d_mom_writeField_30 rfl rfl ?_
      refine rp_bipush (v := 109) d_mom_writeField_31 (by decide) ?_
      refine rp_icmp_ne (tgt := 52) d_mom_writeField_33 (by decide) (fun c33 => ?_) (fun c33 => ?_)
      · refine rp_aload_n (i := 0) d_mom_writeField_52 rfl rfl ?_
        refine rp_ldcS (i := 6) d_mom_writeField_53 rfl ?_
        refine rp_aload_n (i := 0) d_mom_writeField_55 rfl rfl ?_
        refine rp_getR d_mom_writeField_56 f_mom_15 rfl (hR _ _ _ rfl) ?_
        refine rp_getI d_mom_writeField_59 f_mom_119 rfl ?_
        have c8 : 3 ≤ r := (show nI r ≥ (3 : Int32) ↔ 3 ≤ r from nI_leI (a := 3) (by decide) (by omega)).mp c8
        have e100 : v = 100 := by rcases f3 with q | q | q | q; exact absurd q c3; exact absurd q c33; exact q; omega
        obtain ⟨⟨q1, q2, q3⟩, q4, q5, q6, q7, q8, q9⟩ := (hd (Or.inr (Or.inr e100))).w w
        rw [q4]
        refine rp_callV2 d_mom_writeField_62 q_mom_writeField_113 (Or.inl ⟨_, _, _, rfl, rfl⟩) (Nat.le_of_ble_eq_true rfl) (Nat.le_of_ble_eq_true rfl) ?_
        have ec : cF v r tw y m dd wd S = wkd wd := by unfold cF; rw [if_neg (fun q => q.elim c3 (fun q => by omega)), if_neg c33]
        obtain ⟨wd, rfl⟩ : ∃ m1, wd = m1 + 1 := ⟨wd - 1, by omega⟩
        rw [ec, wkd_ch wd (by omega)] at hl k
        refine s_mom_writeName w (i := 6) (N := 21) rfl rfl (by decide) jch_ch6 rfl (by omega) hl (fun h2 w2 => ?_)
        refine rp_return d_mom_writeField_65 rfl ?_
        exact k h2 w2
      · refine rp_aload_n (i := 0) d_mom_writeField_36 rfl rfl ?_
        refine rp_ldcS (i := 5) d_mom_writeField_37 rfl ?_
        refine rp_aload_n (i := 0) d_mom_writeField_39 rfl rfl ?_
        refine rp_getR d_mom_writeField_40 f_mom_15 rfl (hR _ _ _ rfl) ?_
        refine rp_getI d_mom_writeField_43 f_mom_110 rfl ?_
        obtain ⟨⟨q1, q2, q3⟩, q4, q5, q6, q7, q8, q9⟩ := (hd (Or.inr (Or.inl c33))).w w
        rw [q2]
        refine rp_callV2 d_mom_writeField_46 q_mom_writeField_113 (Or.inl ⟨_, _, _, rfl, rfl⟩) (Nat.le_of_ble_eq_true rfl) (Nat.le_of_ble_eq_true rfl) ?_
        have c8 : 3 ≤ r := (show nI r ≥ (3 : Int32) ↔ 3 ≤ r from nI_leI (a := 3) (by decide) (by omega)).mp c8
        have ec : cF v r tw y m dd wd S = mth m := by unfold cF; rw [if_neg (fun q => q.elim c3 (fun q => by omega)), if_pos c33]
        obtain ⟨m, rfl⟩ : ∃ m1, m = m1 + 1 := ⟨m - 1, by omega⟩
        rw [ec, mth_ch m (by omega)] at hl k
        refine s_mom_writeName w (i := 5) (N := 36) rfl rfl (by decide) jch_ch5 rfl (by omega) hl (fun h2 w2 => ?_)
        refine rp_goto (tgt := 65) d_mom_writeField_49 (by decide) ?_
        refine rp_return d_mom_writeField_65 rfl ?_
        exact k h2 w2
    · refine rp_aload_n (i := 0) d_mom_writeField_11 rfl rfl ?_
      refine rp_getR d_mom_writeField_12 f_mom_9 rfl (hR _ _ _ rfl) ?_
      refine rp_aload_n (i := 0) d_mom_writeField_15 rfl rfl ?_
      refine rp_iload_n (i := 1) d_mom_writeField_16 rfl rfl ?_
      refine rp_iload_n (i := 2) d_mom_writeField_17 rfl rfl ?_
      refine rp_iload_n (i := 3) d_mom_writeField_18 rfl rfl ?_
      refine rp_callV3 d_mom_writeField_19 q_mom_writeField_104 (Or.inl ⟨_, _, _, rfl, rfl⟩) (Nat.le_of_ble_eq_true rfl) (Nat.le_of_ble_eq_true rfl) ?_
      refine s_mom_numberOf hR g3 hS (by omega) (fun q => (hd q).w w) rfl rfl ?_
      refine rp_i2l d_mom_writeField_22 ?_
      refine rp_iload_n (i := 2) d_mom_writeField_23 rfl rfl ?_
      refine rp_callV2 d_mom_writeField_24 q_mom_writeField_98 (Or.inl ⟨_, _, _, rfl, rfl⟩) (Nat.le_of_ble_eq_true rfl) (Nat.le_of_ble_eq_true rfl) ?_
      have ec : cF v r tw y m dd wd S = pn (nO v r tw y m dd S) r := if_pos (Or.inr (Nat.not_le.mp (fun q => c8 ((show nI r ≥ (3 : Int32) ↔ 3 ≤ r from nI_leI (a := 3) (by decide) (by omega)).mpr q))))
      rw [ec] at hl k
      have hnl := nO_lt (r := r) (tw := tw) hS hd
      rw [nI_l (by omega)]
      have t18 := t18
      refine s_txt_addNumber w rfl rfl (by omega) (by omega) hl (fun h2 w2 => ?_)
      refine rp_goto (tgt := 65) d_mom_writeField_27 (by decide) ?_
      refine rp_return d_mom_writeField_65 rfl ?_
      exact k h2 w2
set_option maxHeartbeats 4000000 in
set_option maxRecDepth 100000 in
theorem s_mom_writeToken {h0 h : cf_H} {P : Option Value → cf_H → Prop} {L : List Int32} (w : wT h0 L h) {D S : Nat} (hm : mH h0 D S) (hD : D ≤ 10 ^ 10) (hS : S < 86400) {XS : List r_K} (hB : x_B h0 XS) {tw : Bool} {y m dd wd : Nat} {j : Nat} (hj : j < 40) (hF : x_ty XS j = 8 → ∃ r, x_de XS j = nI r ∧ fO (x_va XS j) r ∧ ((x_va XS j = 121 ∨ x_va XS j = 109 ∨ x_va XS j = 100) → dH h0 y m dd wd)) {x z : Int32} (hx : x = nI j) (hz : z = cf_b tw) (hl : L.length + ((cMt D S tw y m dd wd (x_ty XS) (x_va XS) (x_de XS)) j).length ≤ 256) (k : ∀ h', wT h0 (L ++ (cMt D S tw y m dd wd (x_ty XS) (x_va XS) (x_de XS)) j) h' → P none h') : RP k_mom_writeToken 0 [(0, .ref 18), (1, .ref 2), (2, .int x), (3, .int z)] [] h P := by
  subst hx; subst hz
  have hR := w.ok
  have g2 : h.2.1 18 2 = lN D := by rw [w.2.1.2.1]; exact hm.1
  have g3 : h.1 18 3 = nI S := by rw [w.2.1.1 18 3 (by decide)]; exact hm.2
  have hX := w.xB hB
  refine rp_aload_n (i := 1) d_mom_writeToken_0 rfl rfl ?_
  refine rp_iload_n (i := 2) d_mom_writeToken_1 rfl rfl ?_
  refine rp_callV1 d_mom_writeToken_2 q_mom_writeToken_67 (Or.inl ⟨_, _, _, rfl, rfl⟩) (Nat.le_of_ble_eq_true rfl) (Nat.le_of_ble_eq_true rfl) ?_
  refine t_typeAt hX rfl (by omega) ?_
  refine rp_istore (i := 4) d_mom_writeToken_5 rfl (Nat.le_of_ble_eq_true rfl) ?_
  refine rp_iload (i := 4) d_mom_writeToken_7 rfl ?_
  refine rp_iconst (v := 1) d_mom_writeToken_9 (by decide) ?_
  refine rp_icmp_ne (tgt := 29) d_mom_writeToken_10 (by decide) (fun c10 => ?_) (fun c10 => ?_)
  · refine rp_iload (i := 4) d_mom_writeToken_29 rfl ?_
    refine rp_bipush (v := 9) d_mom_writeToken_31 (by decide) ?_
    refine rp_icmp_ne (tgt := 48) d_mom_writeToken_33 (by decide) (fun c33 => ?_) (fun c33 => ?_)
    · refine rp_iload (i := 4) d_mom_writeToken_48 rfl ?_
      refine rp_bipush (v := 10) d_mom_writeToken_50 (by decide) ?_
      refine rp_icmp_ne (tgt := 90) d_mom_writeToken_52 (by decide) (fun c52 => ?_) (fun c52 => ?_)
      · refine rp_iload (i := 4) d_mom_writeToken_90 rfl ?_
        refine rp_bipush (v := 8) d_mom_writeToken_92 (by decide) ?_
        refine rp_icmp_ne (tgt := 112) d_mom_writeToken_94 (by decide) (fun c94 => ?_) (fun c94 => ?_)
        · refine rp_return d_mom_writeToken_112 rfl ?_
          have ec : (cMt D S tw y m dd wd (x_ty XS) (x_va XS) (x_de XS)) j = [] := by unfold cMt; rw [if_neg c10, if_neg c33, if_neg c52, if_neg c94]
          rw [ec, List.append_nil] at k
          exact k h w
        · refine rp_aload_n (i := 0) d_mom_writeToken_97 rfl rfl ?_
          refine rp_aload_n (i := 1) d_mom_writeToken_98 rfl rfl ?_
          refine rp_iload_n (i := 2) d_mom_writeToken_99 rfl rfl ?_
          refine rp_callV1 d_mom_writeToken_100 q_mom_writeToken_73 (Or.inl ⟨_, _, _, rfl, rfl⟩) (Nat.le_of_ble_eq_true rfl) (Nat.le_of_ble_eq_true rfl) ?_
          refine t_valueAt hX rfl (by omega) ?_
          refine rp_aload_n (i := 1) d_mom_writeToken_103 rfl rfl ?_
          refine rp_iload_n (i := 2) d_mom_writeToken_104 rfl rfl ?_
          refine rp_callV1 d_mom_writeToken_105 q_mom_writeToken_89 (Or.inl ⟨_, _, _, rfl, rfl⟩) (Nat.le_of_ble_eq_true rfl) (Nat.le_of_ble_eq_true rfl) ?_
          refine t_detailAt hX rfl (by omega) ?_
          refine rp_iload_n (i := 3) d_mom_writeToken_108 rfl rfl ?_
          refine rp_callV3 d_mom_writeToken_109 q_mom_writeToken_92 (Or.inl ⟨_, _, _, rfl, rfl⟩) (Nat.le_of_ble_eq_true rfl) (Nat.le_of_ble_eq_true rfl) ?_
          obtain ⟨r, r1, r2, r3⟩ := hF c94
          have ec : (cMt D S tw y m dd wd (x_ty XS) (x_va XS) (x_de XS)) j = cF (x_va XS j) r tw y m dd wd S := by unfold cMt; rw [if_neg c10, if_neg c33, if_neg c52, if_pos c94, r1, nI_clamp (by have := r2.2.1; omega)]
          rw [ec] at hl k
          refine s_mom_writeField w hm hD hS r2 r3 r1 rfl hl (fun h2 w2 => ?_)
          refine rp_return d_mom_writeToken_112 rfl ?_
          exact k h2 w2
      · refine rp_aload_n (i := 0) d_mom_writeToken_55 rfl rfl ?_
        refine rp_getR d_mom_writeToken_56 f_mom_9 rfl (hR _ _ _ rfl) ?_
        refine rp_aload_n (i := 0) d_mom_writeToken_59 rfl rfl ?_
        refine rp_callV0 d_mom_writeToken_60 q_mom_writeToken_86 (Or.inl ⟨_, _, _, rfl, rfl⟩) (Nat.le_of_ble_eq_true rfl) (Nat.le_of_ble_eq_true rfl) ?_
        refine s_mom_hour g3 hS ?_
        refine rp_bipush (v := 12) d_mom_writeToken_63 (by decide) ?_
        refine rp_icmp_ge (tgt := 73) d_mom_writeToken_65 (by decide) (fun c65 => ?_) (fun c65 => ?_)
        · refine rp_bipush (v := 80) d_mom_writeToken_73 (by decide) ?_
          refine rp_callV1 d_mom_writeToken_75 q_mom_writeToken_76 (Or.inl ⟨_, _, _, rfl, rfl⟩) (Nat.le_of_ble_eq_true rfl) (Nat.le_of_ble_eq_true rfl) ?_
          have ec : (cMt D S tw y m dd wd (x_ty XS) (x_va XS) (x_de XS)) j = [80, 77] := by unfold cMt; rw [if_neg c10, if_neg c33, if_pos c52]; unfold aT; rw [if_neg (fun q => absurd ((show nI (S / 3600) ≥ (12 : Int32) ↔ 12 ≤ S / 3600 from nI_leI (a := 12) (by decide) (by omega)).mp c65) (by omega))]
          rw [ec] at hl k
          simp only [List.length_cons, List.length_nil] at hl
          refine s_txt_add w (x := 80) (by omega) rfl (fun h1 w1 => ?_)
          refine rp_aload_n (i := 0) d_mom_writeToken_78 rfl rfl ?_
          refine rp_getR d_mom_writeToken_79 f_mom_9 rfl (w1.ok _ _ _ rfl) ?_
          refine rp_bipush (v := 77) d_mom_writeToken_82 (by decide) ?_
          refine rp_callV1 d_mom_writeToken_84 q_mom_writeToken_76 (Or.inl ⟨_, _, _, rfl, rfl⟩) (Nat.le_of_ble_eq_true rfl) (Nat.le_of_ble_eq_true rfl) ?_
          refine s_txt_add w1 (x := 77) (by rw [List.length_append]; simp only [List.length_cons, List.length_nil]; omega) rfl (fun h2 w2 => ?_)
          rw [List.append_assoc] at w2
          refine rp_goto (tgt := 112) d_mom_writeToken_87 (by decide) ?_
          refine rp_return d_mom_writeToken_112 rfl ?_
          exact k h2 w2
        · refine rp_bipush (v := 65) d_mom_writeToken_68 (by decide) ?_
          refine rp_goto (tgt := 75) d_mom_writeToken_70 (by decide) ?_
          refine rp_callV1 d_mom_writeToken_75 q_mom_writeToken_76 (Or.inl ⟨_, _, _, rfl, rfl⟩) (Nat.le_of_ble_eq_true rfl) (Nat.le_of_ble_eq_true rfl) ?_
          have ec : (cMt D S tw y m dd wd (x_ty XS) (x_va XS) (x_de XS)) j = [65, 77] := by unfold cMt; rw [if_neg c10, if_neg c33, if_pos c52]; unfold aT; rw [if_pos (Nat.not_le.mp (fun q => c65 ((show nI (S / 3600) ≥ (12 : Int32) ↔ 12 ≤ S / 3600 from nI_leI (a := 12) (by decide) (by omega)).mpr q)))]
          rw [ec] at hl k
          simp only [List.length_cons, List.length_nil] at hl
          refine s_txt_add w (x := 65) (by omega) rfl (fun h1 w1 => ?_)
          refine rp_aload_n (i := 0) d_mom_writeToken_78 rfl rfl ?_
          refine rp_getR d_mom_writeToken_79 f_mom_9 rfl (w1.ok _ _ _ rfl) ?_
          refine rp_bipush (v := 77) d_mom_writeToken_82 (by decide) ?_
          refine rp_callV1 d_mom_writeToken_84 q_mom_writeToken_76 (Or.inl ⟨_, _, _, rfl, rfl⟩) (Nat.le_of_ble_eq_true rfl) (Nat.le_of_ble_eq_true rfl) ?_
          refine s_txt_add w1 (x := 77) (by rw [List.length_append]; simp only [List.length_cons, List.length_nil]; omega) rfl (fun h2 w2 => ?_)
          rw [List.append_assoc] at w2
          refine rp_goto (tgt := 112) d_mom_writeToken_87 (by decide) ?_
          refine rp_return d_mom_writeToken_112 rfl ?_
          exact k h2 w2
    · refine rp_aload_n (i := 0) d_mom_writeToken_36 rfl rfl ?_
      refine rp_aload_n (i := 1) d_mom_writeToken_37 rfl rfl ?_
      refine rp_iload_n (i := 2) d_mom_writeToken_38 rfl rfl ?_
      refine rp_callV1 d_mom_writeToken_39 q_mom_writeToken_73 (Or.inl ⟨_, _, _, rfl, rfl⟩) (Nat.le_of_ble_eq_true rfl) (Nat.le_of_ble_eq_true rfl) ?_
      refine t_valueAt hX rfl (by omega) ?_
      refine rp_callV1 d_mom_writeToken_42 q_mom_writeToken_82 (Or.inl ⟨_, _, _, rfl, rfl⟩) (Nat.le_of_ble_eq_true rfl) (Nat.le_of_ble_eq_true rfl) ?_
      have ec : (cMt D S tw y m dd wd (x_ty XS) (x_va XS) (x_de XS)) j = eT (x_va XS j) (D * 86400 + S) := by unfold cMt; rw [if_neg c10, if_pos c33]
      rw [ec] at hl k
      refine s_mom_writeElapsed w hm hD hS hl (fun h2 w2 => ?_)
      refine rp_goto (tgt := 112) d_mom_writeToken_45 (by decide) ?_
      refine rp_return d_mom_writeToken_112 rfl ?_
      exact k h2 w2
  · refine rp_aload_n (i := 0) d_mom_writeToken_13 rfl rfl ?_
    refine rp_getR d_mom_writeToken_14 f_mom_9 rfl (hR _ _ _ rfl) ?_
    refine rp_aload_n (i := 1) d_mom_writeToken_17 rfl rfl ?_
    refine rp_iload_n (i := 2) d_mom_writeToken_18 rfl rfl ?_
    refine rp_callV1 d_mom_writeToken_19 q_mom_writeToken_73 (Or.inl ⟨_, _, _, rfl, rfl⟩) (Nat.le_of_ble_eq_true rfl) (Nat.le_of_ble_eq_true rfl) ?_
    refine t_valueAt hX rfl (by omega) ?_
    refine rp_i2c d_mom_writeToken_22 ?_
    refine rp_callV1 d_mom_writeToken_23 q_mom_writeToken_76 (Or.inl ⟨_, _, _, rfl, rfl⟩) (Nat.le_of_ble_eq_true rfl) (Nat.le_of_ble_eq_true rfl) ?_
    have ec : (cMt D S tw y m dd wd (x_ty XS) (x_va XS) (x_de XS)) j = [x_va XS j] := by unfold cMt; rw [if_pos c10]
    rw [ec] at hl k
    refine s_txt_add w (by simp only [List.length_cons, List.length_nil] at hl; omega) rfl (fun h2 w2 => ?_)
    refine rp_goto (tgt := 112) d_mom_writeToken_26 (by decide) ?_
    refine rp_return d_mom_writeToken_112 rfl ?_
    exact k h2 w2
