/-! PLACES: integer, fraction, exponent -/
def dgt (a : Nat) (pw : Int) (p : Nat) (grp : Bool) : List Int32 := nI (48 + dg a pw p) :: (if grp = true ∧ 0 < p ∧ p % 3 = 0 then [44] else [])
def ld (a : Nat) (pw : Int) (grp : Bool) (r : Nat) : Nat → List Int32
  | 0 => []
  | i + 1 => dgt a pw (r + i + 1) grp ++ ld a pw grp r i
def wI2 (a : Nat) (pw : Int) (pl : Int32) (r : Nat) (grp : Bool) : List Int32 := if (r : Int) ≤ tp a pw ∨ pl = 48 then dgt a pw r grp else if pl = 63 then [32] else []
def wI (a : Nat) (pw : Int) (pl : Int32) (r : Nat) (first grp : Bool) : List Int32 := (bif first then ld a pw grp r (tp a pw - r).toNat else []) ++ wI2 a pw pl r grp
def fz (a : Nat) (pw : Int) (p : Nat) : Bool := !decide (dg a pw (-(p : Int)) = 0)
def wF (a : Nat) (pw : Int) (fp n : Nat) (pl : Int32) : List Int32 := if pl = 48 ∨ x_any (fz a pw) n (fp + 1 - n) = true then [nI (48 + dg a pw (-(n : Int)))] else if pl = 63 then [32] else []
theorem dg_hi {a : Nat} {pw : Int} {r : Int} (ha : a < 10 ^ 16) (h : tp a pw < r) : dg a pw r = 0 := by
  unfold tp at h
  by_cases h0 : a = 0
  · rw [h0]; exact dg0 _ _
  · rw [if_neg h0] at h
    unfold dg
    split
    · rfl
    · have h1 := (ln_sp (Nat.lt_trans ha l1618)).2.1
      rw [Nat.div_eq_of_lt]
      exact Nat.lt_of_lt_of_le h1 (Nat.pow_le_pow_right (by decide) (by omega))
theorem wT.dD {h0 h : cf_H} {L : List Int32} (w : wT h0 L h) {o a : Nat} {pw : Int} (ho : o ≠ 13) (hD : cD h0 o a pw) : cD h o a pw := ⟨by rw [w.2.1.2.1]; exact hD.1, by rw [w.2.1.1 o 1 (fun z => ho z.1)]; exact hD.2⟩
theorem vT.dN {h0 h : cf_H} {L : List Int32} (w : vT h0 L h) {a z d : Nat} (hN : rN h0 a z d) : rN h a z d := ⟨by rw [w.2.1.2.1]; exact hN.1, by rw [w.2.1.1 19 18 (by decide)]; exact hN.2.1, by rw [w.2.1.1 19 19 (by decide)]; exact hN.2.2⟩
theorem ap1 (L A : List Int32) (x : Int32) (B : List Int32) : L ++ [x] ++ B = L ++ (x :: B) := by rw [List.append_assoc]; rfl

set_option maxHeartbeats 4000000 in
set_option maxRecDepth 100000 in
theorem s_num_writeDigit {h0 h : cf_H} {P : Option Value → cf_H → Prop} {L : List Int32} (w : wT h0 L h) {o a : Nat} {pw : Int} (ho : cf_shl[o]? = some (.inl 1)) (ho13 : o ≠ 13) (hD : cD h0 o a pw) (ha : a < 10 ^ 16) (hz1 : -1000 ≤ pw ∧ pw ≤ 1000) {p : Nat} (hp : p ≤ 1000) {grp : Bool} {x y : Int32} (hx : x = nI p) (hy : y = cf_b grp) (hl : L.length + (dgt a pw p grp).length ≤ 256) (k : ∀ h', wT h0 (L ++ dgt a pw p grp) h' → P none h') : RP k_num_writeDigit 0 [(0, .ref 15), (1, .ref o), (2, .int x), (3, .int y)] [] h P := by
  subst hx; subst hy
  have hR := w.ok
  have e3 : nI p - nI p / 3 * 3 = nI (p % 3) := pk_rem (d := 3) (by omega) (by decide) (by decide)
  have hl1 : (dgt a pw p grp).length = 1 + (if grp = true ∧ 0 < p ∧ p % 3 = 0 then [(44 : Int32)] else []).length := by rw [dgt, List.length_cons, Nat.add_comm]
  refine rp_aload_n (i := 0) d_num_writeDigit_0 rfl rfl ?_
  refine rp_getR d_num_writeDigit_1 f_num_9 rfl (hR _ _ _ rfl) ?_
  refine rp_bipush (v := 48) d_num_writeDigit_4 (by decide) ?_
  refine rp_aload_n (i := 1) d_num_writeDigit_6 rfl rfl ?_
  refine rp_iload_n (i := 2) d_num_writeDigit_7 rfl rfl ?_
  refine rp_callV1 d_num_writeDigit_8 q_num_writeDigit_137 (Or.inl ⟨_, _, _, ho, rfl⟩) (Nat.le_of_ble_eq_true rfl) (Nat.le_of_ble_eq_true rfl) ?_
  refine s_dec_digitOf ho (w.dD ho13 hD) ha hz1 (p := p) (by omega) (zI_n p) ?_
  refine rp_iadd d_num_writeDigit_11 ?_
  rw [show (48 : Int32) + nI (dg a pw p) = nI (48 + dg a pw p) from nI_add 48 _]
  refine rp_i2c d_num_writeDigit_12 ?_
  refine rp_callV1 d_num_writeDigit_13 q_num_writeDigit_33 (Or.inl ⟨_, _, _, rfl, rfl⟩) (Nat.le_of_ble_eq_true rfl) (Nat.le_of_ble_eq_true rfl) ?_
  refine s_txt_add w (by omega) rfl (fun h2 w2 => ?_)
  have hR2 := w2.ok
  refine rp_iload_n (i := 3) d_num_writeDigit_16 rfl rfl ?_
  refine rp_if_eq (tgt := 39) d_num_writeDigit_17 (by decide) (fun c17 => ?_) (fun c17 => ?_)
  · refine rp_return d_num_writeDigit_39 rfl ?_
    replace c17 := cf_b_f c17
    have hc : ¬ (grp = true ∧ 0 < p ∧ p % 3 = 0) := fun z => by rw [c17] at z; exact absurd z.1 (by decide)
    rw [dgt, if_neg hc] at k
    exact k h2 w2
  · refine rp_iload_n (i := 2) d_num_writeDigit_20 rfl rfl ?_
    refine rp_if_le (tgt := 39) d_num_writeDigit_21 (by decide) (fun c21 => ?_) (fun c21 => ?_)
    · refine rp_return d_num_writeDigit_39 rfl ?_
      replace c21 : p ≤ 0 := (nI_leI (b := 0) (by omega) (by decide)).mp c21
      have hc : ¬ (grp = true ∧ 0 < p ∧ p % 3 = 0) := fun z => by omega
      rw [dgt, if_neg hc] at k
      exact k h2 w2
    · refine rp_iload_n (i := 2) d_num_writeDigit_24 rfl rfl ?_
      refine rp_iconst (v := 3) d_num_writeDigit_25 (by decide) ?_
      refine rp_irem d_num_writeDigit_26 (by decide) ?_
      rw [e3]
      refine rp_if_ne (tgt := 39) d_num_writeDigit_27 (by decide) (fun c27 => ?_) (fun c27 => ?_)
      · refine rp_return d_num_writeDigit_39 rfl ?_
        have hc : ¬ (grp = true ∧ 0 < p ∧ p % 3 = 0) := fun z => c27 ((z_eq (by omega)).mpr z.2.2)
        rw [dgt, if_neg hc] at k
        exact k h2 w2
      · refine rp_aload_n (i := 0) d_num_writeDigit_30 rfl rfl ?_
        refine rp_getR d_num_writeDigit_31 f_num_9 rfl (hR2 _ _ _ rfl) ?_
        refine rp_bipush (v := 44) d_num_writeDigit_34 (by decide) ?_
        refine rp_callV1 d_num_writeDigit_36 q_num_writeDigit_33 (Or.inl ⟨_, _, _, rfl, rfl⟩) (Nat.le_of_ble_eq_true rfl) (Nat.le_of_ble_eq_true rfl) ?_
        replace c17 := cf_b_t c17
        replace c21 : ¬ p ≤ 0 := fun z => c21 (nI_le (b := 0) z (by decide))
        replace c27 : p % 3 = 0 := (z_eq (by omega)).mp c27
        have hc : grp = true ∧ 0 < p ∧ p % 3 = 0 := ⟨c17, by omega, c27⟩
        rw [if_pos hc] at hl1
        rw [dgt, if_pos hc] at k
        refine s_txt_add w2 (by rw [List.length_append]; simp at hl1 ⊢; omega) (x := 44) rfl (fun h3 w3 => ?_)
        refine rp_return d_num_writeDigit_39 rfl ?_
        refine k h3 ?_
        rw [ap1 L []] at w3
        exact w3
set_option maxHeartbeats 4000000 in
set_option maxRecDepth 100000 in
theorem l_num_wIP {h0 : cf_H} {P : Option Value → cf_H → Prop} {o a : Nat} {pw : Int} (ho : cf_shl[o]? = some (.inl 1)) (ho13 : o ≠ 13) (hD : cD h0 o a pw) (ha : a < 10 ^ 16) (hz1 : -1000 ≤ pw ∧ pw ≤ 1000) {r : Nat} (hr : r ≤ 40) {grp : Bool} {pl : Int32} : ∀ (i : Nat) (g : Int) (h : cf_H) (L : List Int32), g ≤ r + i → (0 < i → g = r + i) → i ≤ 500 → -500 ≤ g → wT h0 L h → L.length + (ld a pw grp r i).length ≤ 256 → (k : ∀ h', wT h0 (L ++ ld a pw grp r i) h' → RP k_num_writeIntegerPlace 36 [(0, .ref 15), (1, .ref o), (2, .int pl), (3, .int (nI r)), (5, .int (cf_b grp)), (6, .int (zI (tp a pw)))] [] h' P) → RP k_num_writeIntegerPlace 15 [(0, .ref 15), (1, .ref o), (2, .int pl), (3, .int (nI r)), (4, .int 1), (5, .int (cf_b grp)), (6, .int (zI (tp a pw))), (7, .int (zI g))] [] h P := by
  intro i
  induction i with
  | zero =>
    intro g h L hg hg2 hi hgl w hl k
    refine rp_iload (i := 7) d_num_writeIntegerPlace_15 rfl ?_
    refine rp_iload_n (i := 3) d_num_writeIntegerPlace_17 rfl rfl ?_
    refine rp_icmp_le (tgt := 36) d_num_writeIntegerPlace_18 (by decide) (fun c18 => ?_) (fun c18 => ?_)
    · refine rp_lv [(0, .ref 15), (1, .ref o), (2, .int pl), (3, .int (nI r)), (5, .int (cf_b grp)), (6, .int (zI (tp a pw)))] rfl ?_
      refine k h ?_
      rw [ld, List.append_nil]
      exact w
    · exact absurd (by rw [zI_n]; exact (zI_le (by unfold zR; omega) (by unfold zR; omega)).mpr (by omega)) c18
  | succ i ih =>
    intro g h L hg hg2 hi hgl w hl k
    have hgg := hg2 (by omega)
    rw [ld, List.length_append] at hl
    refine rp_iload (i := 7) d_num_writeIntegerPlace_15 rfl ?_
    refine rp_iload_n (i := 3) d_num_writeIntegerPlace_17 rfl rfl ?_
    refine rp_icmp_le (tgt := 36) d_num_writeIntegerPlace_18 (by decide) (fun c18 => ?_) (fun c18 => ?_)
    · exact absurd (by rw [zI_n] at c18; exact (zI_le (by unfold zR; omega) (by unfold zR; omega)).mp c18) (by omega)
    · refine rp_aload_n (i := 0) d_num_writeIntegerPlace_21 rfl rfl ?_
      refine rp_aload_n (i := 1) d_num_writeIntegerPlace_22 rfl rfl ?_
      refine rp_iload (i := 7) d_num_writeIntegerPlace_23 rfl ?_
      refine rp_iload (i := 5) d_num_writeIntegerPlace_25 rfl ?_
      refine rp_callV3 d_num_writeIntegerPlace_27 q_num_writeIntegerPlace_133 (Or.inl ⟨_, _, _, rfl, rfl⟩) (Nat.le_of_ble_eq_true rfl) (Nat.le_of_ble_eq_true rfl) ?_
      refine s_num_writeDigit w ho ho13 hD ha hz1 (p := r + i + 1) (grp := grp) (by omega) (by rw [zI_n, hgg]; rfl) rfl (by omega) (fun h2 w2 => ?_)
      refine rp_iinc (i := 7) (y := (-1)) d_num_writeIntegerPlace_30 rfl (by decide) rfl (Nat.le_of_ble_eq_true rfl) ?_
      refine rp_goto (tgt := 15) d_num_writeIntegerPlace_33 (by decide) ?_
      refine rp_lv [(0, .ref 15), (1, .ref o), (2, .int pl), (3, .int (nI r)), (4, .int 1), (5, .int (cf_b grp)), (6, .int (zI (tp a pw))), (7, .int (zI (r + i : Nat)))] (by rw [show zI (r + i : Nat) = zI g + (-1) from by rw [show (-1 : Int32) = zI (-1) from by decide, zI_add]; congr 1; omega]; rfl) ?_
      refine ih (r + i : Nat) h2 _ (by omega) (by omega) (by omega) (by omega) w2 (by rw [List.length_append]; omega) (fun h3 w3 => k h3 ?_)
      rw [ld, ← List.append_assoc]
      exact w3
set_option maxHeartbeats 4000000 in
set_option maxRecDepth 100000 in
theorem t_num_wIP36 {h0 h : cf_H} {P : Option Value → cf_H → Prop} {L : List Int32} (w : wT h0 L h) {o a : Nat} {pw : Int} (ho : cf_shl[o]? = some (.inl 1)) (ho13 : o ≠ 13) (hD : cD h0 o a pw) (ha : a < 10 ^ 16) (hz1 : -1000 ≤ pw ∧ pw ≤ 1000) {r : Nat} (hr : r ≤ 40) {grp : Bool} {pl : Int32} (hl : L.length + (wI2 a pw pl r grp).length ≤ 256) (k : ∀ h', wT h0 (L ++ wI2 a pw pl r grp) h' → P none h') : RP k_num_writeIntegerPlace 36 [(0, .ref 15), (1, .ref o), (2, .int pl), (3, .int (nI r)), (5, .int (cf_b grp)), (6, .int (zI (tp a pw)))] [] h P := by
  have hR := w.ok
  have hln := ln_le16 ha
  have hrt : zR (tp a pw) := by unfold zR tp; split <;> omega
  have hcr : nI r ≤ zI (tp a pw) ↔ (r : Int) ≤ tp a pw := by rw [zI_n]; exact zI_le (by unfold zR; omega) hrt
  refine rp_iload_n (i := 3) d_num_writeIntegerPlace_36 rfl rfl ?_
  refine rp_iload (i := 6) d_num_writeIntegerPlace_37 rfl ?_
  refine rp_icmp_le (tgt := 48) d_num_writeIntegerPlace_39 (by decide) (fun c39 => ?_) (fun c39 => ?_)
  · refine rp_aload_n (i := 0) d_num_writeIntegerPlace_48 rfl rfl ?_
    refine rp_aload_n (i := 1) d_num_writeIntegerPlace_49 rfl rfl ?_
    refine rp_iload_n (i := 3) d_num_writeIntegerPlace_50 rfl rfl ?_
    refine rp_iload (i := 5) d_num_writeIntegerPlace_51 rfl ?_
    refine rp_callV3 d_num_writeIntegerPlace_53 q_num_writeIntegerPlace_133 (Or.inl ⟨_, _, _, rfl, rfl⟩) (Nat.le_of_ble_eq_true rfl) (Nat.le_of_ble_eq_true rfl) ?_
    have hc : (r : Int) ≤ tp a pw ∨ pl = 48 := Or.inl (hcr.mp c39)
    rw [wI2, if_pos hc] at hl k
    refine s_num_writeDigit w ho ho13 hD ha hz1 (by omega) rfl rfl hl (fun h2 w2 => ?_)
    refine rp_goto (tgt := 74) d_num_writeIntegerPlace_56 (by decide) ?_
    refine rp_return d_num_writeIntegerPlace_74 rfl ?_
    exact k h2 w2
  · refine rp_iload_n (i := 2) d_num_writeIntegerPlace_42 rfl rfl ?_
    refine rp_bipush (v := 48) d_num_writeIntegerPlace_43 (by decide) ?_
    refine rp_icmp_ne (tgt := 59) d_num_writeIntegerPlace_45 (by decide) (fun c45 => ?_) (fun c45 => ?_)
    · refine rp_iload_n (i := 2) d_num_writeIntegerPlace_59 rfl rfl ?_
      refine rp_bipush (v := 63) d_num_writeIntegerPlace_60 (by decide) ?_
      refine rp_icmp_ne (tgt := 74) d_num_writeIntegerPlace_62 (by decide) (fun c62 => ?_) (fun c62 => ?_)
      · refine rp_return d_num_writeIntegerPlace_74 rfl ?_
        have hc : ¬ ((r : Int) ≤ tp a pw ∨ pl = 48) := fun z => z.elim (fun z => c39 (hcr.mpr z)) c45
        rw [wI2, if_neg hc, if_neg c62] at k
        refine k h ?_
        rw [List.append_nil]
        exact w
      · refine rp_aload_n (i := 0) d_num_writeIntegerPlace_65 rfl rfl ?_
        refine rp_getR d_num_writeIntegerPlace_66 f_num_9 rfl (hR _ _ _ rfl) ?_
        refine rp_bipush (v := 32) d_num_writeIntegerPlace_69 (by decide) ?_
        refine rp_callV1 d_num_writeIntegerPlace_71 q_num_writeIntegerPlace_33 (Or.inl ⟨_, _, _, rfl, rfl⟩) (Nat.le_of_ble_eq_true rfl) (Nat.le_of_ble_eq_true rfl) ?_
        have hc : ¬ ((r : Int) ≤ tp a pw ∨ pl = 48) := fun z => z.elim (fun z => c39 (hcr.mpr z)) c45
        rw [wI2, if_neg hc, if_pos c62] at hl k
        refine s_txt_add w (by simp at hl; omega) (x := 32) rfl (fun h2 w2 => ?_)
        refine rp_return d_num_writeIntegerPlace_74 rfl ?_
        exact k h2 w2
    · refine rp_aload_n (i := 0) d_num_writeIntegerPlace_48 rfl rfl ?_
      refine rp_aload_n (i := 1) d_num_writeIntegerPlace_49 rfl rfl ?_
      refine rp_iload_n (i := 3) d_num_writeIntegerPlace_50 rfl rfl ?_
      refine rp_iload (i := 5) d_num_writeIntegerPlace_51 rfl ?_
      refine rp_callV3 d_num_writeIntegerPlace_53 q_num_writeIntegerPlace_133 (Or.inl ⟨_, _, _, rfl, rfl⟩) (Nat.le_of_ble_eq_true rfl) (Nat.le_of_ble_eq_true rfl) ?_
      have hc : (r : Int) ≤ tp a pw ∨ pl = 48 := Or.inr c45
      rw [wI2, if_pos hc] at hl k
      refine s_num_writeDigit w ho ho13 hD ha hz1 (by omega) rfl rfl hl (fun h2 w2 => ?_)
      refine rp_goto (tgt := 74) d_num_writeIntegerPlace_56 (by decide) ?_
      refine rp_return d_num_writeIntegerPlace_74 rfl ?_
      exact k h2 w2
set_option maxHeartbeats 4000000 in
set_option maxRecDepth 100000 in
theorem s_num_writeIntegerPlace {h0 h : cf_H} {P : Option Value → cf_H → Prop} {L : List Int32} (w : wT h0 L h) {o a : Nat} {pw : Int} (ho : cf_shl[o]? = some (.inl 1)) (ho13 : o ≠ 13) (hD : cD h0 o a pw) (ha : a < 10 ^ 16) (hz1 : -1000 ≤ pw ∧ pw ≤ 1000) {r : Nat} (hr : r ≤ 40) (hpw : pw ≤ 100 ∧ -400 ≤ pw) {first grp : Bool} {pl x y z : Int32} (hx : x = nI r) (hy : y = cf_b first) (hz : z = cf_b grp) (hl : L.length + (wI a pw pl r first grp).length ≤ 256) (k : ∀ h', wT h0 (L ++ wI a pw pl r first grp) h' → P none h') : RP k_num_writeIntegerPlace 0 [(0, .ref 15), (1, .ref o), (2, .int pl), (3, .int x), (4, .int y), (5, .int z)] [] h P := by
  subst hx; subst hy; subst hz
  have hln := ln_le16 ha
  have htp : -500 ≤ tp a pw ∧ tp a pw ≤ 120 := by unfold tp; split <;> omega
  rw [wI, List.length_append] at hl
  rw [wI] at k
  refine rp_aload_n (i := 1) d_num_writeIntegerPlace_0 rfl rfl ?_
  refine rp_callV0 d_num_writeIntegerPlace_1 q_num_writeIntegerPlace_129 (Or.inl ⟨_, _, _, ho, rfl⟩) (Nat.le_of_ble_eq_true rfl) (Nat.le_of_ble_eq_true rfl) ?_
  refine s_dec_highestPower ho (w.dD ho13 hD) ha ?_
  refine rp_istore (i := 6) d_num_writeIntegerPlace_4 rfl (Nat.le_of_ble_eq_true rfl) ?_
  refine rp_iload (i := 4) d_num_writeIntegerPlace_6 rfl ?_
  refine rp_if_eq (tgt := 36) d_num_writeIntegerPlace_8 (by decide) (fun c8 => ?_) (fun c8 => ?_)
  · replace c8 := cf_b_f c8
    subst c8
    simp only [cond, List.nil_append, List.length_nil] at hl k
    refine rp_lv [(0, .ref 15), (1, .ref o), (2, .int pl), (3, .int (nI r)), (5, .int (cf_b grp)), (6, .int (zI (tp a pw)))] rfl ?_
    exact t_num_wIP36 w ho ho13 hD ha hz1 hr (by omega) k
  · refine rp_iload (i := 6) d_num_writeIntegerPlace_11 rfl ?_
    refine rp_istore (i := 7) d_num_writeIntegerPlace_13 rfl (Nat.le_of_ble_eq_true rfl) ?_
    replace c8 := cf_b_t c8
    subst c8
    simp only [cond] at hl k
    refine rp_lv [(0, .ref 15), (1, .ref o), (2, .int pl), (3, .int (nI r)), (4, .int 1), (5, .int (cf_b grp)), (6, .int (zI (tp a pw))), (7, .int (zI (tp a pw)))] rfl ?_
    refine l_num_wIP ho ho13 hD ha hz1 hr (tp a pw - r).toNat (tp a pw) h L (by omega) (by omega) (by omega) (by omega) w (by omega) (fun h2 w2 => ?_)
    refine t_num_wIP36 w2 ho ho13 hD ha hz1 hr (by rw [List.length_append]; omega) (fun h3 w3 => k h3 ?_)
    rw [← List.append_assoc]
    exact w3
set_option maxHeartbeats 4000000 in
set_option maxRecDepth 100000 in
theorem l_num_onlyZ {h0 h : cf_H} {P : Option Value → cf_H → Prop} {L : List Int32} (w : wT h0 L h) {a : Nat} {pw : Int} (hD : cD h0 16 a pw) (ha : a < 10 ^ 16) (hz1 : -1000 ≤ pw ∧ pw ≤ 1000) {fp : Nat} (hfp : fp ≤ 40) : ∀ (m i : Nat), i + m = fp + 1 → (k : P (some (.int (cf_b (!x_any (fz a pw) i m)))) h) → RP k_num_onlyZerosFrom 2 [(0, .ref 15), (2, .int (nI fp)), (3, .int (nI i))] [] h P := by
  have hR := w.ok
  intro m
  induction m with
  | zero =>
    intro i e k
    have e : i = fp + 1 := e
    subst e
    refine rp_iload_n (i := 3) d_num_onlyZerosFrom_2 rfl rfl ?_
    refine rp_iload_n (i := 2) d_num_onlyZerosFrom_3 rfl rfl ?_
    refine rp_icmp_gt (tgt := 27) d_num_onlyZerosFrom_4 (by decide) (fun c4 => ?_) (fun c4 => ?_)
    · refine rp_iconst (v := 1) d_num_onlyZerosFrom_27 (by decide) ?_
      refine rp_ireturn (ty := .boolean) d_num_onlyZerosFrom_28 rfl (by first | rfl | decide | assumption) ?_
      exact k
    · exact absurd (nI_lt (by omega) (by omega)) c4
  | succ m ih =>
    intro i e k
    rw [x_any_S] at k
    refine rp_iload_n (i := 3) d_num_onlyZerosFrom_2 rfl rfl ?_
    refine rp_iload_n (i := 2) d_num_onlyZerosFrom_3 rfl rfl ?_
    refine rp_icmp_gt (tgt := 27) d_num_onlyZerosFrom_4 (by decide) (fun c4 => ?_) (fun c4 => ?_)
    · exact absurd c4 (nI_nlt (by omega) (by omega))
    · refine rp_aload_n (i := 0) d_num_onlyZerosFrom_7 rfl rfl ?_
      refine rp_getR d_num_onlyZerosFrom_8 f_num_18 rfl (hR _ _ _ rfl) ?_
      refine rp_iload_n (i := 3) d_num_onlyZerosFrom_11 rfl rfl ?_
      refine rp_ineg d_num_onlyZerosFrom_12 ?_
      refine rp_callV1 d_num_onlyZerosFrom_13 q_num_onlyZerosFrom_137 (Or.inl ⟨_, _, _, rfl, rfl⟩) (Nat.le_of_ble_eq_true rfl) (Nat.le_of_ble_eq_true rfl) ?_
      refine s_dec_digitOf rfl (w.dD (by decide) hD) ha hz1 (p := -(i : Int)) (by omega) (by rw [zI_n, zI_neg]) ?_
      refine rp_if_eq (tgt := 21) d_num_onlyZerosFrom_16 (by decide) (fun c16 => ?_) (fun c16 => ?_)
      · refine rp_iinc (i := 3) (y := 1) d_num_onlyZerosFrom_21 rfl (by decide) rfl (Nat.le_of_ble_eq_true rfl) ?_
        refine rp_goto (tgt := 2) d_num_onlyZerosFrom_24 (by decide) ?_
        have hd := dg_lt a pw (-(i : Int))
        rw [z_eq (by omega)] at c16
        rw [show fz a pw i = false from by simp [fz, c16], Bool.false_or] at k
        refine rp_lv [(0, .ref 15), (2, .int (nI fp)), (3, .int (nI (i + 1)))] (by simp only [← nI_1]; rfl) ?_
        exact ih (i + 1) (by omega) k
      · refine rp_iconst (v := 0) d_num_onlyZerosFrom_19 (by decide) ?_
        refine rp_ireturn (ty := .boolean) d_num_onlyZerosFrom_20 rfl (by first | rfl | decide | assumption) ?_
        have hd := dg_lt a pw (-(i : Int))
        rw [z_eq (by omega)] at c16
        rw [show fz a pw i = true from by simp [fz, c16]] at k
        exact k
set_option maxHeartbeats 4000000 in
set_option maxRecDepth 100000 in
theorem s_num_onlyZerosFrom {h0 h : cf_H} {P : Option Value → cf_H → Prop} {L : List Int32} (w : wT h0 L h) {a : Nat} {pw : Int} (hD : cD h0 16 a pw) (ha : a < 10 ^ 16) (hz1 : -1000 ≤ pw ∧ pw ≤ 1000) {fp n : Nat} (hfp : fp ≤ 40) (hn : n ≤ fp + 1) {x y : Int32} (hx : x = nI n) (hy : y = nI fp) (k : P (some (.int (cf_b (!x_any (fz a pw) n (fp + 1 - n))))) h) : RP k_num_onlyZerosFrom 0 [(0, .ref 15), (1, .int x), (2, .int y)] [] h P := by
  subst hx; subst hy
  refine rp_iload_n (i := 1) d_num_onlyZerosFrom_0 rfl rfl ?_
  refine rp_istore_n (i := 3) d_num_onlyZerosFrom_1 rfl rfl (Nat.le_of_ble_eq_true rfl) ?_
  refine rp_lv [(0, .ref 15), (2, .int (nI fp)), (3, .int (nI n))] rfl ?_
  exact l_num_onlyZ w hD ha hz1 hfp (fp + 1 - n) n (by omega) k
set_option maxHeartbeats 4000000 in
set_option maxRecDepth 100000 in
theorem s_num_writeFractionPlace {h0 h : cf_H} {P : Option Value → cf_H → Prop} {L : List Int32} (w : wT h0 L h) {a : Nat} {pw : Int} (hD : cD h0 16 a pw) (ha : a < 10 ^ 16) (hz1 : -1000 ≤ pw ∧ pw ≤ 1000) {fp n : Nat} (hfp : fp ≤ 40) (hn : n ≤ fp + 1) (h5 : h0.1 15 5 = nI n) {pl y : Int32} (hy : y = nI fp) (hl : L.length + (wF a pw fp n pl).length ≤ 256) (k : ∀ h', wT h0 (L ++ wF a pw fp n pl) h' → P none h') : RP k_num_writeFractionPlace 0 [(0, .ref 15), (1, .int pl), (2, .int y)] [] h P := by
  subst hy
  have hR := w.ok
  have h5' : h.1 15 5 = nI n := (w.2.1.1 15 5 (by decide)).trans h5
  refine rp_iload_n (i := 1) d_num_writeFractionPlace_0 rfl rfl ?_
  refine rp_bipush (v := 48) d_num_writeFractionPlace_1 (by decide) ?_
  refine rp_icmp_eq (tgt := 18) d_num_writeFractionPlace_3 (by decide) (fun c3 => ?_) (fun c3 => ?_)
  · refine rp_aload_n (i := 0) d_num_writeFractionPlace_18 rfl rfl ?_
    refine rp_getR d_num_writeFractionPlace_19 f_num_9 rfl (hR _ _ _ rfl) ?_
    refine rp_bipush (v := 48) d_num_writeFractionPlace_22 (by decide) ?_
    refine rp_aload_n (i := 0) d_num_writeFractionPlace_24 rfl rfl ?_
    refine rp_getR d_num_writeFractionPlace_25 f_num_18 rfl (hR _ _ _ rfl) ?_
    refine rp_aload_n (i := 0) d_num_writeFractionPlace_28 rfl rfl ?_
    refine rp_getI d_num_writeFractionPlace_29 f_num_103 rfl ?_
    refine rp_ineg d_num_writeFractionPlace_32 ?_
    refine rp_callV1 d_num_writeFractionPlace_33 q_num_writeFractionPlace_137 (Or.inl ⟨_, _, _, rfl, rfl⟩) (Nat.le_of_ble_eq_true rfl) (Nat.le_of_ble_eq_true rfl) ?_
    have hc : pl = 48 ∨ x_any (fz a pw) n (fp + 1 - n) = true := Or.inl c3
    rw [wF, if_pos hc] at hl k
    refine s_dec_digitOf rfl (w.dD (by decide) hD) ha hz1 (p := -(n : Int)) (by omega) (by rw [h5', zI_n, zI_neg]) ?_
    refine rp_iadd d_num_writeFractionPlace_36 ?_
    rw [show (48 : Int32) + nI (dg a pw (-(n : Int))) = nI (48 + dg a pw (-(n : Int))) from nI_add 48 _]
    refine rp_i2c d_num_writeFractionPlace_37 ?_
    refine rp_callV1 d_num_writeFractionPlace_38 q_num_writeFractionPlace_33 (Or.inl ⟨_, _, _, rfl, rfl⟩) (Nat.le_of_ble_eq_true rfl) (Nat.le_of_ble_eq_true rfl) ?_
    refine s_txt_add w (by simp at hl; omega) rfl (fun h2 w2 => ?_)
    refine rp_goto (tgt := 59) d_num_writeFractionPlace_41 (by decide) ?_
    refine rp_return d_num_writeFractionPlace_59 rfl ?_
    exact k h2 w2
  · refine rp_aload_n (i := 0) d_num_writeFractionPlace_6 rfl rfl ?_
    refine rp_aload_n (i := 0) d_num_writeFractionPlace_7 rfl rfl ?_
    refine rp_getI d_num_writeFractionPlace_8 f_num_103 rfl ?_
    refine rp_iload_n (i := 2) d_num_writeFractionPlace_11 rfl rfl ?_
    refine rp_callV2 d_num_writeFractionPlace_12 q_num_writeFractionPlace_140 (Or.inl ⟨_, _, _, rfl, rfl⟩) (Nat.le_of_ble_eq_true rfl) (Nat.le_of_ble_eq_true rfl) ?_
    refine s_num_onlyZerosFrom w hD ha hz1 hfp hn h5' rfl ?_
    refine rp_if_ne (tgt := 44) d_num_writeFractionPlace_15 (by decide) (fun c15 => ?_) (fun c15 => ?_)
    · refine rp_iload_n (i := 1) d_num_writeFractionPlace_44 rfl rfl ?_
      refine rp_bipush (v := 63) d_num_writeFractionPlace_45 (by decide) ?_
      refine rp_icmp_ne (tgt := 59) d_num_writeFractionPlace_47 (by decide) (fun c47 => ?_) (fun c47 => ?_)
      · refine rp_return d_num_writeFractionPlace_59 rfl ?_
        have hc : ¬ (pl = 48 ∨ x_any (fz a pw) n (fp + 1 - n) = true) := fun z => z.elim c3 (fun z => by have := cf_b_t c15; rw [z] at this; exact absurd this (by decide))
        rw [wF, if_neg hc, if_neg c47] at k
        refine k h ?_
        rw [List.append_nil]
        exact w
      · refine rp_aload_n (i := 0) d_num_writeFractionPlace_50 rfl rfl ?_
        refine rp_getR d_num_writeFractionPlace_51 f_num_9 rfl (hR _ _ _ rfl) ?_
        refine rp_bipush (v := 32) d_num_writeFractionPlace_54 (by decide) ?_
        refine rp_callV1 d_num_writeFractionPlace_56 q_num_writeFractionPlace_33 (Or.inl ⟨_, _, _, rfl, rfl⟩) (Nat.le_of_ble_eq_true rfl) (Nat.le_of_ble_eq_true rfl) ?_
        have hc : ¬ (pl = 48 ∨ x_any (fz a pw) n (fp + 1 - n) = true) := fun z => z.elim c3 (fun z => by have := cf_b_t c15; rw [z] at this; exact absurd this (by decide))
        rw [wF, if_neg hc, if_pos c47] at hl k
        refine s_txt_add w (by simp at hl; omega) (x := 32) rfl (fun h2 w2 => ?_)
        refine rp_return d_num_writeFractionPlace_59 rfl ?_
        exact k h2 w2
    · refine rp_aload_n (i := 0) d_num_writeFractionPlace_18 rfl rfl ?_
      refine rp_getR d_num_writeFractionPlace_19 f_num_9 rfl (hR _ _ _ rfl) ?_
      refine rp_bipush (v := 48) d_num_writeFractionPlace_22 (by decide) ?_
      refine rp_aload_n (i := 0) d_num_writeFractionPlace_24 rfl rfl ?_
      refine rp_getR d_num_writeFractionPlace_25 f_num_18 rfl (hR _ _ _ rfl) ?_
      refine rp_aload_n (i := 0) d_num_writeFractionPlace_28 rfl rfl ?_
      refine rp_getI d_num_writeFractionPlace_29 f_num_103 rfl ?_
      refine rp_ineg d_num_writeFractionPlace_32 ?_
      refine rp_callV1 d_num_writeFractionPlace_33 q_num_writeFractionPlace_137 (Or.inl ⟨_, _, _, rfl, rfl⟩) (Nat.le_of_ble_eq_true rfl) (Nat.le_of_ble_eq_true rfl) ?_
      have hc : pl = 48 ∨ x_any (fz a pw) n (fp + 1 - n) = true := Or.inr (by have := cf_b_f c15; simpa using this)
      rw [wF, if_pos hc] at hl k
      refine s_dec_digitOf rfl (w.dD (by decide) hD) ha hz1 (p := -(n : Int)) (by omega) (by rw [h5', zI_n, zI_neg]) ?_
      refine rp_iadd d_num_writeFractionPlace_36 ?_
      rw [show (48 : Int32) + nI (dg a pw (-(n : Int))) = nI (48 + dg a pw (-(n : Int))) from nI_add 48 _]
      refine rp_i2c d_num_writeFractionPlace_37 ?_
      refine rp_callV1 d_num_writeFractionPlace_38 q_num_writeFractionPlace_33 (Or.inl ⟨_, _, _, rfl, rfl⟩) (Nat.le_of_ble_eq_true rfl) (Nat.le_of_ble_eq_true rfl) ?_
      refine s_txt_add w (by simp at hl; omega) rfl (fun h2 w2 => ?_)
      refine rp_goto (tgt := 59) d_num_writeFractionPlace_41 (by decide) ?_
      refine rp_return d_num_writeFractionPlace_59 rfl ?_
      exact k h2 w2
def wM (neg : Bool) (sg : Int32) : List Int32 := 69 :: (bif neg then [45] else if sg = 43 then [43] else [])
set_option maxHeartbeats 4000000 in
set_option maxRecDepth 100000 in
theorem s_num_writeExponentMark {h0 h : cf_H} {P : Option Value → cf_H → Prop} {L : List Int32} (w : wT h0 L h) {neg : Bool} (h3 : h0.1 15 3 = cf_b neg) {sg : Int32} (hl : L.length + (wM neg sg).length ≤ 256) (k : ∀ h', wT h0 (L ++ wM neg sg) h' → P none h') : RP k_num_writeExponentMark 0 [(0, .ref 15), (1, .int sg)] [] h P := by
  have hR := w.ok
  rw [wM, List.length_cons] at hl
  refine rp_aload_n (i := 0) d_num_writeExponentMark_0 rfl rfl ?_
  refine rp_getR d_num_writeExponentMark_1 f_num_9 rfl (hR _ _ _ rfl) ?_
  refine rp_bipush (v := 69) d_num_writeExponentMark_4 (by decide) ?_
  refine rp_callV1 d_num_writeExponentMark_6 q_num_writeExponentMark_33 (Or.inl ⟨_, _, _, rfl, rfl⟩) (Nat.le_of_ble_eq_true rfl) (Nat.le_of_ble_eq_true rfl) ?_
  refine s_txt_add w (by omega) (x := 69) rfl (fun h2 w2 => ?_)
  have hR2 := w2.ok
  refine rp_aload_n (i := 0) d_num_writeExponentMark_9 rfl rfl ?_
  refine rp_getI d_num_writeExponentMark_10 f_num_91 rfl ?_
  rw [w2.2.1.1 15 3 (by decide), h3]
  refine rp_if_eq (tgt := 28) d_num_writeExponentMark_13 (by decide) (fun c13 => ?_) (fun c13 => ?_)
  · refine rp_iload_n (i := 1) d_num_writeExponentMark_28 rfl rfl ?_
    refine rp_bipush (v := 43) d_num_writeExponentMark_29 (by decide) ?_
    refine rp_icmp_ne (tgt := 43) d_num_writeExponentMark_31 (by decide) (fun c31 => ?_) (fun c31 => ?_)
    · refine rp_return d_num_writeExponentMark_43 rfl ?_
      replace c13 := cf_b_f c13
      subst c13
      refine k h2 ?_
      rw [wM, cond, if_neg c31]
      exact w2
    · refine rp_aload_n (i := 0) d_num_writeExponentMark_34 rfl rfl ?_
      refine rp_getR d_num_writeExponentMark_35 f_num_9 rfl (hR2 _ _ _ rfl) ?_
      refine rp_bipush (v := 43) d_num_writeExponentMark_38 (by decide) ?_
      refine rp_callV1 d_num_writeExponentMark_40 q_num_writeExponentMark_33 (Or.inl ⟨_, _, _, rfl, rfl⟩) (Nat.le_of_ble_eq_true rfl) (Nat.le_of_ble_eq_true rfl) ?_
      replace c13 := cf_b_f c13
      subst c13
      rw [cond, if_pos c31] at hl
      refine s_txt_add w2 (by rw [List.length_append]; simp at hl ⊢; omega) (x := 43) rfl (fun h3 w3 => ?_)
      refine rp_return d_num_writeExponentMark_43 rfl ?_
      refine k h3 ?_
      rw [wM, cond, if_pos c31]
      rw [ap1 L []] at w3
      exact w3
  · refine rp_aload_n (i := 0) d_num_writeExponentMark_16 rfl rfl ?_
    refine rp_getR d_num_writeExponentMark_17 f_num_9 rfl (hR2 _ _ _ rfl) ?_
    refine rp_bipush (v := 45) d_num_writeExponentMark_20 (by decide) ?_
    refine rp_callV1 d_num_writeExponentMark_22 q_num_writeExponentMark_33 (Or.inl ⟨_, _, _, rfl, rfl⟩) (Nat.le_of_ble_eq_true rfl) (Nat.le_of_ble_eq_true rfl) ?_
    replace c13 := cf_b_t c13
    subst c13
    refine s_txt_add w2 (by rw [List.length_append]; simp at hl ⊢; omega) (x := 45) rfl (fun h3 w3 => ?_)
    refine rp_goto (tgt := 43) d_num_writeExponentMark_25 (by decide) ?_
    refine rp_return d_num_writeExponentMark_43 rfl ?_
    refine k h3 ?_
    rw [ap1 L []] at w3
    exact w3
