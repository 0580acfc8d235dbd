/-! NUMBERS: digits and a power of ten -/
def zI (z : Int) : Int32 := Int32.ofInt z
theorem zI_n (n : Nat) : nI n = zI n := Int32.ofInt_eq_ofNat.symm
theorem zI_add (a b : Int) : zI a + zI b = zI (a + b) := (Int32.ofInt_add a b).symm
theorem zI_sub (a b : Int) : zI a - zI b = zI (a - b) := (Int32.ofInt_sub a b).symm
theorem zI_mul (a b : Int) : zI a * zI b = zI (a * b) := (Int32.ofInt_mul a b).symm
theorem zI_neg (a : Int) : - zI a = zI (- a) := (Int32.ofInt_neg a).symm
def zR (a : Int) : Prop := -1000000 ≤ a ∧ a ≤ 1000000
theorem zI_toInt {a : Int} (h : zR a) : (zI a).toInt = a := Int32.toInt_ofInt_of_le (by unfold zR at h; omega) (by unfold zR at h; omega)
theorem zI_lt {a b : Int} (ha : zR a) (hb : zR b) : zI a < zI b ↔ a < b := by rw [Int32.lt_iff_toInt_lt, zI_toInt ha, zI_toInt hb]
theorem zI_le {a b : Int} (ha : zR a) (hb : zR b) : zI a ≤ zI b ↔ a ≤ b := by rw [Int32.le_iff_toInt_le, zI_toInt ha, zI_toInt hb]
theorem zI_eq {a b : Int} (ha : zR a) (hb : zR b) : zI a = zI b ↔ a = b := by rw [← Int32.toInt_inj, zI_toInt ha, zI_toInt hb]
theorem zR0 : zR 0 := by unfold zR; omega
theorem zI_nat {a : Int} (h : 0 ≤ a) : zI a = nI a.toNat := by rw [zI_n, Int.toNat_of_nonneg h]
def rdA (n : Nat) (drop : Int) : Nat := if drop ≤ 0 then n else (n + 10 ^ drop.toNat / 2) / 10 ^ drop.toNat
def dg (a : Nat) (pw p : Int) : Nat := if p < pw then 0 else a / 10 ^ (p - pw).toNat % 10
def tp (a : Nat) (pw : Int) : Int := if a = 0 then -1 else ln a - 1 + pw
def rdN (a : Nat) (pw : Int) (fp : Nat) : Nat := rdA a (-(fp : Int) - pw)
def rdP (pw : Int) (fp : Nat) : Int := if -(fp : Int) - pw ≤ 0 then pw else -(fp : Int)
theorem dg_lt (a : Nat) (pw p : Int) : dg a pw p < 10 := by unfold dg; split; decide; exact Nat.mod_lt _ (by decide)
theorem ten_big {n d : Nat} (hn : n < 10 ^ 16) (hd : 17 ≤ d) : (n + 10 ^ d / 2) / 10 ^ d = 0 := by
  apply Nat.div_eq_of_lt
  have h1 : 10 ^ 17 ≤ 10 ^ d := Nat.pow_le_pow_right (by decide) hd
  have h2 : (10 : Nat) ^ 17 = 10 * 10 ^ 16 := by decide
  omega
theorem rdA_le {n : Nat} (hn : n < 10 ^ 16) (d : Int) : rdA n d < 10 ^ 16 := by
  unfold rdA
  split
  · exact hn
  · by_cases h : 17 ≤ d.toNat
    · rw [ten_big hn h]; decide
    · have h10 := ten0 d.toNat
      obtain ⟨e, he⟩ : ∃ e, d.toNat = e + 1 := ⟨d.toNat - 1, by omega⟩
      rw [he, Nat.pow_succ] at *
      have he0 := ten0 e
      rw [Nat.div_lt_iff_lt_mul (by omega)]
      have h1 : 10 ^ e * 10 / 2 = 5 * 10 ^ e := by omega
      rw [h1]
      have h2 : 10 ^ e * 10 * 10 ^ 16 ≥ 10 ^ e * 10 * 10 ^ 16 := Nat.le_refl _
      have h3 : 1 * 10 ^ 16 ≤ 10 ^ e * 10 ^ 16 := Nat.mul_le_mul_right _ he0
      have h4 : 10 ^ e * 1 ≤ 10 ^ e * 10 ^ 16 := Nat.mul_le_mul_left _ (by decide)
      have h5 : 10 ^ 16 * (10 ^ e * 10) = 10 * (10 ^ e * 10 ^ 16) := by rw [Nat.mul_comm (10 ^ e) (10 ^ 16), Nat.mul_comm (10 ^ e) 10, Nat.mul_left_comm]
      omega
theorem rdA0 (d : Int) : rdA 0 d = 0 := by
  unfold rdA
  split
  · rfl
  · apply Nat.div_eq_of_lt; have := ten0 d.toNat; omega
theorem dg0 (pw p : Int) : dg 0 pw p = 0 := by unfold dg; split; rfl; rw [Nat.zero_div]
/-- a Decimal of the class -/
def cD (h : cf_H) (o a : Nat) (pw : Int) : Prop := h.2.1 o 0 = lN a ∧ h.1 o 1 = zI pw
def d_fr (o : Nat) (h0 h : cf_H) : Prop := (∀ x k, x ≠ o → h.1 x k = h0.1 x k) ∧ (∀ x k, x ≠ o → h.2.1 x k = h0.2.1 x k) ∧ h.2.2 = h0.2.2
theorem d_fr.rf (o : Nat) (h : cf_H) : d_fr o h h := ⟨fun _ _ _ => rfl, fun _ _ _ => rfl, rfl⟩
theorem d_fr.pI {o : Nat} {h0 h : cf_H} (f : d_fr o h0 h) (k : Nat) (x : Int32) : d_fr o h0 (cf_pI h o k x) := ⟨fun y j e => by rw [cf_pI_o e]; exact f.1 y j e, f.2.1, f.2.2⟩
theorem d_fr.pJ {o : Nat} {h0 h : cf_H} (f : d_fr o h0 h) (k : Nat) (x : Int64) : d_fr o h0 (cf_pJ h o k x) := ⟨f.1, fun y j e => by rw [cf_pJ_o e]; exact f.2.1 y j e, f.2.2⟩
theorem d_fr.tr {o : Nat} {h0 h1 h2 : cf_H} (f : d_fr o h0 h1) (g : d_fr o h1 h2) : d_fr o h0 h2 := ⟨fun y j e => (g.1 y j e).trans (f.1 y j e), fun y j e => (g.2.1 y j e).trans (f.2.1 y j e), g.2.2.trans f.2.2⟩
theorem l16 : (10 : Nat) ^ 16 < 2 ^ 63 := by decide
theorem l1618 : (10 : Nat) ^ 16 < 10 ^ 18 := by decide

set_option maxHeartbeats 4000000 in
set_option maxRecDepth 100000 in
theorem s_dec_set {h : cf_H} {P : Option Value → cf_H → Prop} {o : Nat} (ho : cf_shl[o]? = some (.inl 1)) {x : Int64} {y : Int32} (k : P none (cf_pI (cf_pJ h o 0 x) o 1 y)) : RP k_dec_set 0 [(0, .ref o), (1, .long x), (3, .int y)] [] h P := by
  refine rp_aload_n (i := 0) d_dec_set_0 rfl rfl ?_
  refine rp_lload_n (i := 1) d_dec_set_1 rfl rfl ?_
  refine rp_putJ d_dec_set_2 f_dec_7 ho rfl rfl ?_
  refine rp_aload_n (i := 0) d_dec_set_5 rfl rfl ?_
  refine rp_iload_n (i := 3) d_dec_set_6 rfl rfl ?_
  refine rp_putI d_dec_set_7 f_dec_13 ho rfl rfl ?_
  refine rp_return d_dec_set_10 rfl ?_
  exact k
set_option maxHeartbeats 4000000 in
set_option maxRecDepth 100000 in
theorem s_dec_isZero {h : cf_H} {P : Option Value → cf_H → Prop} {o : Nat} (ho : cf_shl[o]? = some (.inl 1)) {a : Nat} {pw : Int} (hD : cD h o a pw) (ha : a < 10 ^ 16) (k : P (some (.int (cf_b (decide (a = 0))))) h) : RP k_dec_isZero 0 [(0, .ref o)] [] h P := by
  have h16 := l16
  refine rp_aload_n (i := 0) d_dec_isZero_0 rfl rfl ?_
  refine rp_getJ d_dec_isZero_1 f_dec_7 ho ?_
  refine rp_lconst (v := 0) d_dec_isZero_4 (by decide) ?_
  refine rp_lcmp d_dec_isZero_5 ?_
  refine rp_if_ne (tgt := 13) d_dec_isZero_6 (by decide) (fun c6 => ?_) (fun c6 => ?_)
  · refine rp_iconst (v := 0) d_dec_isZero_13 (by decide) ?_
    refine rp_ireturn (ty := .boolean) d_dec_isZero_14 rfl (by first | rfl | decide | assumption) ?_
    rw [lg_cmp_eq, hD.1, show (0 : Int64) = lN 0 from rfl, pk_lEQ (by omega) (by decide)] at c6
    simpa [cf_b, c6] using k
  · refine rp_iconst (v := 1) d_dec_isZero_9 (by decide) ?_
    refine rp_goto (tgt := 14) d_dec_isZero_10 (by decide) ?_
    refine rp_ireturn (ty := .boolean) d_dec_isZero_14 rfl (by first | rfl | decide | assumption) ?_
    rw [lg_cmp_eq, hD.1, show (0 : Int64) = lN 0 from rfl, pk_lEQ (by omega) (by decide)] at c6
    simpa [cf_b, c6] using k
set_option maxHeartbeats 4000000 in
set_option maxRecDepth 100000 in
theorem s_dec_highestPower {h : cf_H} {P : Option Value → cf_H → Prop} {o : Nat} (ho : cf_shl[o]? = some (.inl 1)) {a : Nat} {pw : Int} (hD : cD h o a pw) (ha : a < 10 ^ 16) (k : P (some (.int (zI (tp a pw)))) h) : RP k_dec_highestPower 0 [(0, .ref o)] [] h P := by
  have h16 := l16
  have h1618 := l1618
  refine rp_aload_n (i := 0) d_dec_highestPower_0 rfl rfl ?_
  refine rp_callV0 d_dec_highestPower_1 q_dec_highestPower_17 (Or.inl ⟨_, _, _, ho, rfl⟩) (Nat.le_of_ble_eq_true rfl) (Nat.le_of_ble_eq_true rfl) ?_
  refine s_dec_isZero ho hD ha ?_
  refine rp_if_eq (tgt := 11) d_dec_highestPower_4 (by decide) (fun c4 => ?_) (fun c4 => ?_)
  · refine rp_aload_n (i := 0) d_dec_highestPower_11 rfl rfl ?_
    refine rp_getJ d_dec_highestPower_12 f_dec_7 ho ?_
    refine rp_callS1 d_dec_highestPower_15 q_dec_highestPower_21 (Nat.le_of_ble_eq_true rfl) (Nat.le_of_ble_eq_true rfl) ?_
    refine s_fmt_countDigits hD.1 (by omega) ?_
    refine rp_iconst (v := 1) d_dec_highestPower_18 (by decide) ?_
    refine rp_isub d_dec_highestPower_19 ?_
    refine rp_aload_n (i := 0) d_dec_highestPower_20 rfl rfl ?_
    refine rp_getI d_dec_highestPower_21 f_dec_13 ho ?_
    refine rp_iadd d_dec_highestPower_24 ?_
    refine rp_ireturn (ty := .int) d_dec_highestPower_25 rfl rfl ?_
    replace c4 := of_decide_eq_false (cf_b_f c4)
    rw [hD.2, nd_ln (by omega) (by omega), show (1 : Int32) = zI 1 from rfl, zI_n, zI_sub, zI_add]
    rw [tp, if_neg c4] at k
    exact k
  · refine rp_iconst (v := (-1)) d_dec_highestPower_7 (by decide) ?_
    refine rp_goto (tgt := 25) d_dec_highestPower_8 (by decide) ?_
    refine rp_ireturn (ty := .int) d_dec_highestPower_25 rfl rfl ?_
    replace c4 := of_decide_eq_true (cf_b_t c4)
    rw [tp, if_pos c4] at k
    exact k
set_option maxHeartbeats 4000000 in
set_option maxRecDepth 100000 in
theorem s_dec_digitOf {h : cf_H} {P : Option Value → cf_H → Prop} {o : Nat} (ho : cf_shl[o]? = some (.inl 1)) {a : Nat} {pw p : Int} (hD : cD h o a pw) (ha : a < 10 ^ 16) (hz1 : -1000 ≤ pw ∧ pw ≤ 1000) (hz2 : -1000 ≤ p ∧ p ≤ 1000) {x : Int32} (hx : x = zI p) (k : P (some (.int (nI (dg a pw p)))) h) : RP k_dec_digitOf 0 [(0, .ref o), (1, .int x)] [] h P := by
  subst hx
  have h16 := l16
  have h1618 := l1618
  have h18 := ten18
  have e5 : zI p - h.1 o 1 = zI (p - pw) := by rw [hD.2, zI_sub]
  have hr : zR (p - pw) := by unfold zR; omega
  refine rp_iload_n (i := 1) d_dec_digitOf_0 rfl rfl ?_
  refine rp_aload_n (i := 0) d_dec_digitOf_1 rfl rfl ?_
  refine rp_getI d_dec_digitOf_2 f_dec_13 ho ?_
  refine rp_isub d_dec_digitOf_5 ?_
  rw [e5]
  refine rp_istore_n (i := 2) d_dec_digitOf_6 rfl rfl (Nat.le_of_ble_eq_true rfl) ?_
  refine rp_iload_n (i := 2) d_dec_digitOf_7 rfl rfl ?_
  refine rp_if_lt (tgt := 37) d_dec_digitOf_8 (by decide) (fun c8 => ?_) (fun c8 => ?_)
  · refine rp_iconst (v := 0) d_dec_digitOf_37 (by decide) ?_
    refine rp_ireturn (ty := .int) d_dec_digitOf_38 rfl rfl ?_
    replace c8 : p - pw < 0 := (zI_lt (b := 0) hr zR0).mp c8
    rw [dg, if_pos (by omega)] at k
    exact k
  · refine rp_iload_n (i := 2) d_dec_digitOf_11 rfl rfl ?_
    refine rp_getsN (v := .ref 100) d_dec_digitOf_12 (List.mem_of_getElem? (i := 1) rfl) t_dec_27 ?_
    refine rp_alenK (v := 19) d_dec_digitOf_15 rfl (by decide) ?_
    refine rp_icmp_ge (tgt := 37) d_dec_digitOf_16 (by decide) (fun c16 => ?_) (fun c16 => ?_)
    · refine rp_iconst (v := 0) d_dec_digitOf_37 (by decide) ?_
      refine rp_ireturn (ty := .int) d_dec_digitOf_38 rfl rfl ?_
      replace c8 : ¬ p - pw < 0 := fun z => c8 ((zI_lt (b := 0) hr zR0).mpr z)
      replace c16 : 19 ≤ p - pw := (zI_le (a := 19) (by unfold zR; omega) hr).mp c16
      have hbig : a < 10 ^ (p - pw).toNat := Nat.lt_of_lt_of_le (Nat.lt_trans ha h1618) (Nat.pow_le_pow_right (by decide) (by omega))
      rw [dg, if_neg (by omega), Nat.div_eq_of_lt hbig] at k
      exact k
    · replace c8 : ¬ p - pw < 0 := fun z => c8 ((zI_lt (b := 0) hr zR0).mpr z)
      replace c16 : ¬ 19 ≤ p - pw := fun z => c16 ((zI_le (a := 19) (by unfold zR; omega) hr).mpr z)
      obtain ⟨j, hj⟩ : ∃ j : Nat, p - pw = j := ⟨(p - pw).toNat, by omega⟩
      refine rp_lv [(0, .ref o), (2, .int (nI j))] (by rw [zI_n j, ← hj]; rfl) ?_
      have h10 := tenl (j := j) (by omega)
      refine rp_aload_n (i := 0) d_dec_digitOf_19 rfl rfl ?_
      refine rp_getJ d_dec_digitOf_20 f_dec_7 ho ?_
      rw [hD.1]
      refine rp_getsN (v := .ref 100) d_dec_digitOf_23 (List.mem_of_getElem? (i := 1) rfl) t_dec_27 ?_
      refine rp_iload_n (i := 2) d_dec_digitOf_26 rfl rfl ?_
      refine rp_laloadK d_dec_digitOf_27 rfl (vp_in_nI (by omega) (by decide)) rfl (fun _ => rfl) ?_
      rw [pw_at j (by omega)]
      refine rp_ldiv d_dec_digitOf_28 (fun z => by have z : lN (10 ^ j) = lN 0 := z; rw [pk_lEQ (by omega) (by decide)] at z; have := ten0 j; omega) ?_
      rw [pk_lDiv (by omega) (ten0 j) (by omega)]
      refine rp_ldc2 (v := 10) d_dec_digitOf_29 l_dec_31 ?_
      refine rp_lrem d_dec_digitOf_32 (by decide) ?_
      rw [show lN (a / 10 ^ j) - lN (a / 10 ^ j) / 10 * 10 = lN (a / 10 ^ j % 10) from pk_lRem (b := 10) (Nat.lt_of_le_of_lt (Nat.div_le_self _ _) (by omega)) (by decide) (by decide)]
      refine rp_l2i d_dec_digitOf_33 ?_
      rw [lN_i]
      refine rp_goto (tgt := 38) d_dec_digitOf_34 (by decide) ?_
      refine rp_ireturn (ty := .int) d_dec_digitOf_38 rfl rfl ?_
      rw [dg, if_neg (by omega), hj] at k
      exact k
set_option maxHeartbeats 4000000 in
set_option maxRecDepth 100000 in
theorem s_dec_round {h : cf_H} {P : Option Value → cf_H → Prop} {o : Nat} (ho : cf_shl[o]? = some (.inl 1)) {a : Nat} {pw : Int} {fp : Nat} (hD : cD h o a pw) (ha : a < 10 ^ 16) (hz1 : -1000 ≤ pw ∧ pw ≤ 1000) (hfp : fp ≤ 40) {x : Int32} (hx : x = nI fp) (k : ∀ h', cD h' o (rdN a pw fp) (rdP pw fp) → d_fr o h h' → P none h') : RP k_dec_round 0 [(0, .ref o), (1, .int x)] [] h P := by
  subst hx
  have h16 := l16
  have h1618 := l1618
  have h18 := ten18
  have e6 : -nI fp - h.1 o 1 = zI (-(fp : Int) - pw) := by rw [hD.2, zI_n, zI_neg, zI_sub]
  have hr : zR (-(fp : Int) - pw) := by unfold zR; omega
  refine rp_iload_n (i := 1) d_dec_round_0 rfl rfl ?_
  refine rp_ineg d_dec_round_1 ?_
  refine rp_aload_n (i := 0) d_dec_round_2 rfl rfl ?_
  refine rp_getI d_dec_round_3 f_dec_13 ho ?_
  refine rp_isub d_dec_round_6 ?_
  rw [e6]
  refine rp_istore_n (i := 2) d_dec_round_7 rfl rfl (Nat.le_of_ble_eq_true rfl) ?_
  refine rp_iload_n (i := 2) d_dec_round_8 rfl rfl ?_
  refine rp_if_gt (tgt := 13) d_dec_round_9 (by decide) (fun c9 => ?_) (fun c9 => ?_)
  · refine rp_iload_n (i := 2) d_dec_round_13 rfl rfl ?_
    refine rp_getsN (v := .ref 100) d_dec_round_14 (List.mem_of_getElem? (i := 1) rfl) t_dec_27 ?_
    refine rp_alenK (v := 19) d_dec_round_17 rfl (by decide) ?_
    refine rp_icmp_ge (tgt := 48) d_dec_round_18 (by decide) (fun c18 => ?_) (fun c18 => ?_)
    · refine rp_aload_n (i := 0) d_dec_round_48 rfl rfl ?_
      refine rp_lconst (v := 0) d_dec_round_49 (by decide) ?_
      refine rp_putJ d_dec_round_50 f_dec_7 ho rfl rfl ?_
      refine rp_aload_n (i := 0) d_dec_round_53 rfl rfl ?_
      refine rp_iload_n (i := 1) d_dec_round_54 rfl rfl ?_
      refine rp_ineg d_dec_round_55 ?_
      refine rp_putI d_dec_round_56 f_dec_13 ho rfl rfl ?_
      refine rp_return d_dec_round_59 rfl ?_
      replace c9 : 0 < -(fp : Int) - pw := (zI_lt (a := 0) zR0 hr).mp c9
      replace c18 : 19 ≤ -(fp : Int) - pw := (zI_le (a := 19) (by unfold zR; omega) hr).mp c18
      refine k _ ?_ (((d_fr.rf o h).pJ _ _).pI _ _)
      rw [rdN, rdA, if_neg (by omega), rdP, if_neg (by omega), ten_big ha (by omega)]
      exact ⟨by rw [g_I2, cf_pJ_s]; rfl, by rw [cf_pI_s, zI_n, zI_neg]⟩
    · replace c9 : 0 < -(fp : Int) - pw := (zI_lt (a := 0) zR0 hr).mp c9
      replace c18 : ¬ 19 ≤ -(fp : Int) - pw := fun z => c18 ((zI_le (a := 19) (by unfold zR; omega) hr).mpr z)
      obtain ⟨j, hj⟩ : ∃ j : Nat, -(fp : Int) - pw = j := ⟨(-(fp : Int) - pw).toNat, by omega⟩
      refine rp_lv [(0, .ref o), (1, .int (nI fp)), (2, .int (nI j))] (by rw [zI_n j, ← hj]; rfl) ?_
      have h10 := tenl (j := j) (by omega)
      refine rp_aload_n (i := 0) d_dec_round_21 rfl rfl ?_
      refine rp_aload_n (i := 0) d_dec_round_22 rfl rfl ?_
      refine rp_getJ d_dec_round_23 f_dec_7 ho ?_
      rw [hD.1]
      refine rp_getsN (v := .ref 100) d_dec_round_26 (List.mem_of_getElem? (i := 1) rfl) t_dec_27 ?_
      refine rp_iload_n (i := 2) d_dec_round_29 rfl rfl ?_
      refine rp_laloadK d_dec_round_30 rfl (vp_in_nI (by omega) (by decide)) rfl (fun _ => rfl) ?_
      rw [pw_at j (by omega)]
      refine rp_ldc2 (v := 2) d_dec_round_31 l_dec_33 ?_
      refine rp_ldiv d_dec_round_34 (by decide) ?_
      rw [show lN (10 ^ j) / 2 = lN (10 ^ j / 2) from pk_lDiv (b := 2) (by omega) (by decide) (by decide)]
      refine rp_ladd d_dec_round_35 ?_
      rw [lN_add]
      refine rp_getsN (v := .ref 100) d_dec_round_36 (List.mem_of_getElem? (i := 1) rfl) t_dec_27 ?_
      refine rp_iload_n (i := 2) d_dec_round_39 rfl rfl ?_
      refine rp_laloadK d_dec_round_40 rfl (vp_in_nI (by omega) (by decide)) rfl (fun _ => rfl) ?_
      rw [pw_at j (by omega)]
      refine rp_ldiv d_dec_round_41 (fun z => by have z : lN (10 ^ j) = lN 0 := z; rw [pk_lEQ (by omega) (by decide)] at z; have := ten0 j; omega) ?_
      rw [pk_lDiv (by omega) (ten0 j) (by omega)]
      refine rp_putJ d_dec_round_42 f_dec_7 ho rfl rfl ?_
      refine rp_goto (tgt := 53) d_dec_round_45 (by decide) ?_
      refine rp_aload_n (i := 0) d_dec_round_53 rfl rfl ?_
      refine rp_iload_n (i := 1) d_dec_round_54 rfl rfl ?_
      refine rp_ineg d_dec_round_55 ?_
      refine rp_putI d_dec_round_56 f_dec_13 ho rfl rfl ?_
      refine rp_return d_dec_round_59 rfl ?_
      refine k _ ?_ (((d_fr.rf o h).pJ _ _).pI _ _)
      rw [rdN, rdA, if_neg (by omega), rdP, if_neg (by omega), hj, Int.toNat_natCast]
      exact ⟨by rw [g_I2, cf_pJ_s], by rw [cf_pI_s, zI_n, zI_neg]⟩
  · refine rp_return d_dec_round_12 rfl ?_
    replace c9 : ¬ 0 < -(fp : Int) - pw := fun z => c9 ((zI_lt (a := 0) zR0 hr).mpr z)
    refine k h ?_ (d_fr.rf o h)
    rw [rdN, rdA, if_pos (by omega), rdP, if_pos (by omega)]
    exact hD
/-- what takeExponent answers: digits, power, exponent -/
def tE0 (a : Nat) (pw : Int) (ip : Nat) : Int := tp a pw / (ip : Int) * (ip : Int)
def tE1 (a : Nat) (pw : Int) (ip fp : Nat) : Nat × Int × Int := if (ip : Int) ≤ tp (rdN a (pw - tE0 a pw ip) fp) (rdP (pw - tE0 a pw ip) fp) then (1, 0, tE0 a pw ip + ip) else (rdN a (pw - tE0 a pw ip) fp, rdP (pw - tE0 a pw ip) fp, tE0 a pw ip)
def tE (a : Nat) (pw : Int) (ip fp : Nat) : Nat × Int × Int := if a = 0 then (a, pw, 0) else tE1 a pw ip fp
theorem j_fd : ∀ a : Nat, a < 170 → ∀ b : Nat, b < 40 → j_fdiv (zI ((a : Int) - 140)) (nI (b + 1)) = zI (((a : Int) - 140) / ((b + 1 : Nat) : Int)) := by decide +kernel
theorem ln_le16 {a : Nat} (ha : a < 10 ^ 16) : ln a ≤ 16 := by
  have h := (ln_sp (Nat.lt_trans ha l1618)).2.2
  apply Nat.not_lt.mp; intro z
  have := h 16 z; omega
theorem tp_b {a : Nat} {pw : Int} (ha : a < 10 ^ 16) (hz : -130 ≤ pw ∧ pw ≤ 10) : -131 ≤ tp a pw ∧ tp a pw ≤ 26 := by
  have := ln_le16 ha
  unfold tp; split <;> omega
theorem tE0_b {a : Nat} {pw : Int} {ip : Nat} (ha : a < 10 ^ 16) (hz : -130 ≤ pw ∧ pw ≤ 10) (h1 : 1 ≤ ip) (h2 : ip ≤ 40) : -171 ≤ tE0 a pw ip ∧ tE0 a pw ip ≤ 26 ∧ tE0 a pw ip ≤ tp a pw ∧ tp a pw < tE0 a pw ip + ip := by
  have hb := tp_b ha hz
  have d1 := Int.mul_ediv_self_le (x := tp a pw) (k := (ip : Int)) (by omega)
  have d2 := Int.lt_mul_ediv_self_add (x := tp a pw) (k := (ip : Int)) (by omega)
  unfold tE0
  rw [Int.mul_comm]
  refine ⟨?_, ?_, ?_, ?_⟩ <;> omega

set_option maxHeartbeats 4000000 in
set_option maxRecDepth 100000 in
theorem s_dec_takeExponent {h : cf_H} {P : Option Value → cf_H → Prop} {o : Nat} (ho : cf_shl[o]? = some (.inl 1)) {a : Nat} {pw : Int} {ip fp : Nat} (hD : cD h o a pw) (ha : a < 10 ^ 16) (hz1 : -130 ≤ pw ∧ pw ≤ 10) (hfp : fp ≤ 40) (hip1 : 1 ≤ ip) (hip : ip ≤ 40) {x y : Int32} (hx : x = nI ip) (hy : y = nI fp) (k : ∀ h', cD h' o (tE a pw ip fp).1 (tE a pw ip fp).2.1 → d_fr o h h' → P (some (.int (zI (tE a pw ip fp).2.2))) h') : RP k_dec_takeExponent 0 [(0, .ref o), (1, .int x), (2, .int y)] [] h P := by
  subst hx; subst hy
  have hb := tp_b ha hz1
  have hE := tE0_b (ip := ip) ha hz1 hip1 hip
  have hfd : j_fdiv (zI (tp a pw)) (nI ip) = zI (tp a pw / (ip : Int)) := by
    have := j_fd (tp a pw + 140).toNat (by omega) (ip - 1) (by omega)
    rw [show ((tp a pw + 140).toNat : Int) - 140 = tp a pw by omega, show ip - 1 + 1 = ip by omega] at this
    exact this
  refine rp_aload_n (i := 0) d_dec_takeExponent_0 rfl rfl ?_
  refine rp_callV0 d_dec_takeExponent_1 q_dec_takeExponent_17 (Or.inl ⟨_, _, _, ho, rfl⟩) (Nat.le_of_ble_eq_true rfl) (Nat.le_of_ble_eq_true rfl) ?_
  refine s_dec_isZero ho hD ha ?_
  refine rp_if_ne (tgt := 11) d_dec_takeExponent_4 (by decide) (fun c4 => ?_) (fun c4 => ?_)
  · refine rp_iconst (v := 0) d_dec_takeExponent_11 (by decide) ?_
    refine rp_ireturn (ty := .int) d_dec_takeExponent_12 rfl rfl ?_
    replace c4 := of_decide_eq_true (cf_b_t c4)
    rw [tE, if_pos c4] at k
    exact k h hD (d_fr.rf o h)
  · refine rp_iload_n (i := 1) d_dec_takeExponent_7 rfl rfl ?_
    refine rp_if_gt (tgt := 13) d_dec_takeExponent_8 (by decide) (fun c8 => ?_) (fun c8 => ?_)
    · refine rp_aload_n (i := 0) d_dec_takeExponent_13 rfl rfl ?_
      refine rp_callV0 d_dec_takeExponent_14 q_dec_takeExponent_35 (Or.inl ⟨_, _, _, ho, rfl⟩) (Nat.le_of_ble_eq_true rfl) (Nat.le_of_ble_eq_true rfl) ?_
      refine s_dec_highestPower ho hD ha ?_
      refine rp_iload_n (i := 1) d_dec_takeExponent_17 rfl rfl ?_
      refine rp_callS2 d_dec_takeExponent_18 q_dec_takeExponent_39 (Nat.le_of_ble_eq_true rfl) (Nat.le_of_ble_eq_true rfl) ?_
      refine s_math_floorDiv (nI_ne0 hip1 (by omega)) ?_
      rw [hfd]
      refine rp_iload_n (i := 1) d_dec_takeExponent_21 rfl rfl ?_
      refine rp_imul d_dec_takeExponent_22 ?_
      rw [zI_n ip, zI_mul, show tp a pw / (ip : Int) * (ip : Int) = tE0 a pw ip from rfl, ← zI_n ip]
      refine rp_istore_n (i := 3) d_dec_takeExponent_23 rfl rfl (Nat.le_of_ble_eq_true rfl) ?_
      refine rp_aload_n (i := 0) d_dec_takeExponent_24 rfl rfl ?_
      refine rp_dup d_dec_takeExponent_25 rfl ?_
      refine rp_getI d_dec_takeExponent_26 f_dec_13 ho ?_
      refine rp_iload_n (i := 3) d_dec_takeExponent_29 rfl rfl ?_
      refine rp_isub d_dec_takeExponent_30 ?_
      rw [hD.2, zI_sub]
      refine rp_putI d_dec_takeExponent_31 f_dec_13 ho rfl rfl ?_
      have hD2 : cD (cf_pI h o 1 (zI (pw - tE0 a pw ip))) o a (pw - tE0 a pw ip) := ⟨hD.1, cf_pI_s⟩
      have hf : d_fr o h (cf_pI h o 1 (zI (pw - tE0 a pw ip))) := (d_fr.rf o h).pI _ _
      generalize cf_pI h o 1 (zI (pw - tE0 a pw ip)) = h1 at hD2 hf ⊢
      refine rp_aload_n (i := 0) d_dec_takeExponent_34 rfl rfl ?_
      refine rp_iload_n (i := 2) d_dec_takeExponent_35 rfl rfl ?_
      refine rp_callV1 d_dec_takeExponent_36 q_dec_takeExponent_45 (Or.inl ⟨_, _, _, ho, rfl⟩) (Nat.le_of_ble_eq_true rfl) (Nat.le_of_ble_eq_true rfl) ?_
      refine s_dec_round ho hD2 ha (by omega) hfp rfl (fun h2 hD3 hf3 => ?_)
      have ha2 := rdA_le ha (-(fp : Int) - (pw - tE0 a pw ip))
      refine rp_aload_n (i := 0) d_dec_takeExponent_39 rfl rfl ?_
      refine rp_callV0 d_dec_takeExponent_40 q_dec_takeExponent_35 (Or.inl ⟨_, _, _, ho, rfl⟩) (Nat.le_of_ble_eq_true rfl) (Nat.le_of_ble_eq_true rfl) ?_
      refine s_dec_highestPower ho hD3 ha2 ?_
      have c4' : ¬ a = 0 := of_decide_eq_false (cf_b_f c4)
      rw [tE, if_neg c4', tE1] at k
      have hP : -1000 ≤ rdP (pw - tE0 a pw ip) fp ∧ rdP (pw - tE0 a pw ip) fp ≤ 1000 := by unfold rdP; split <;> omega
      have hl16 := ln_le16 ha2
      have hr1 : zR (tp (rdN a (pw - tE0 a pw ip) fp) (rdP (pw - tE0 a pw ip) fp)) := by
        have hl16 : ln (rdN a (pw - tE0 a pw ip) fp) ≤ 16 := hl16
        unfold zR tp
        split <;> omega
      refine rp_iload_n (i := 1) d_dec_takeExponent_43 rfl rfl ?_
      refine rp_icmp_lt (tgt := 57) d_dec_takeExponent_44 (by decide) (fun c44 => ?_) (fun c44 => ?_)
      · refine rp_iload_n (i := 3) d_dec_takeExponent_57 rfl rfl ?_
        refine rp_ireturn (ty := .int) d_dec_takeExponent_58 rfl rfl ?_
        replace c44 : tp (rdN a (pw - tE0 a pw ip) fp) (rdP (pw - tE0 a pw ip) fp) < (ip : Int) := (zI_lt hr1 (by unfold zR; omega)).mp (by rw [zI_n] at c44; exact c44)
        rw [if_neg (by omega)] at k
        exact k h2 hD3 (hf.tr hf3)
      · refine rp_aload_n (i := 0) d_dec_takeExponent_47 rfl rfl ?_
        refine rp_lconst (v := 1) d_dec_takeExponent_48 (by decide) ?_
        refine rp_iconst (v := 0) d_dec_takeExponent_49 (by decide) ?_
        refine rp_callV2 d_dec_takeExponent_50 q_dec_takeExponent_49 (Or.inl ⟨_, _, _, ho, rfl⟩) (Nat.le_of_ble_eq_true rfl) (Nat.le_of_ble_eq_true rfl) ?_
        refine s_dec_set ho ?_
        refine rp_iload_n (i := 3) d_dec_takeExponent_53 rfl rfl ?_
        refine rp_iload_n (i := 1) d_dec_takeExponent_54 rfl rfl ?_
        refine rp_iadd d_dec_takeExponent_55 ?_
        refine rp_istore_n (i := 3) d_dec_takeExponent_56 rfl rfl (Nat.le_of_ble_eq_true rfl) ?_
        refine rp_iload_n (i := 3) d_dec_takeExponent_57 rfl rfl ?_
        refine rp_ireturn (ty := .int) d_dec_takeExponent_58 rfl rfl ?_
        replace c44 : (ip : Int) ≤ tp (rdN a (pw - tE0 a pw ip) fp) (rdP (pw - tE0 a pw ip) fp) := Int.not_lt.mp (fun z => c44 (by rw [zI_n]; exact (zI_lt hr1 (by unfold zR; omega)).mpr z))
        rw [if_pos c44] at k
        rw [zI_n, zI_add]
        exact k _ ⟨by rw [g_I2, cf_pJ_s]; rfl, by rw [cf_pI_s]; rfl⟩ (((hf.tr hf3).pJ _ _).pI _ _)
    · exact absurd (nI_lt (a := 0) hip1 (by omega)) c8
