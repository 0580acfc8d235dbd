/-! NUMBERS of the reference -/
/-- amount a, zeros z, decimals d -/
def rN (h : cf_H) (a z d : Nat) : Prop := h.2.1 19 17 = lN a ∧ h.1 19 18 = nI z ∧ h.1 19 19 = nI d
def n_fr (h0 h : cf_H) : Prop := (∀ o k, ¬ (o = 19 ∧ (k = 18 ∨ k = 19 ∨ k = 20)) → h.1 o k = h0.1 o k) ∧ (∀ o k, ¬ (o = 19 ∧ k = 17) → h.2.1 o k = h0.2.1 o k) ∧ h.2.2 = h0.2.2
theorem n_fr.rf (h : cf_H) : n_fr h h := ⟨fun _ _ _ => rfl, fun _ _ _ => rfl, rfl⟩
theorem n_fr.pI {h0 h : cf_H} (f : n_fr h0 h) {k : Nat} (hk : k = 18 ∨ k = 19 ∨ k = 20) (x : Int32) : n_fr h0 (cf_pI h 19 k x) := ⟨fun o j e => by rw [g_I1, if_neg (fun z => e ⟨z.1, by rw [z.2]; exact hk⟩)]; exact f.1 o j e, f.2.1, f.2.2⟩
theorem n_fr.pJ {h0 h : cf_H} (f : n_fr h0 h) (x : Int64) : n_fr h0 (cf_pJ h 19 17 x) := ⟨f.1, fun o j e => by rw [g_J2, if_neg e]; exact f.2.1 o j e, f.2.2⟩
theorem n_fr.ok {h0 h : cf_H} (f : n_fr h0 h) (hR : cf_ok h0) : cf_ok h := fun o k q e => by rw [show h.2.2.1 = h0.2.2.1 from by rw [f.2.2]]; exact hR o k q e

set_option maxHeartbeats 4000000 in
set_option maxRecDepth 100000 in
theorem l_mod_round {h : cf_H} {P : Option Value → cf_H → Prop} {n j : Nat} (hj : j ≤ 17) (k : RP k_mod_round 85 [(0, .ref 19), (1, .long (lN n)), (6, .long (lN (10 ^ j)))] [] h P) : ∀ (r i : Nat), i + r = j → RP k_mod_round 64 [(0, .ref 19), (1, .long (lN n)), (5, .int (nI j)), (6, .long (lN (10 ^ i))), (8, .int (nI i))] [] h P := by
  intro r
  induction r with
  | zero =>
    intro i e
    have e : i = j := e
    subst e
    refine rp_iload (i := 8) d_mod_round_64 rfl ?_
    refine rp_iload (i := 5) d_mod_round_66 rfl ?_
    refine rp_icmp_ge (tgt := 85) d_mod_round_68 (by decide) (fun c68 => ?_) (fun c68 => ?_)
    · refine rp_lv [(0, .ref 19), (1, .long (lN n)), (6, .long (lN (10 ^ i)))] rfl ?_
      exact k
    · exact absurd (nI_le (Nat.le_refl i) (by omega)) c68
  | succ r ih =>
    intro i e
    refine rp_iload (i := 8) d_mod_round_64 rfl ?_
    refine rp_iload (i := 5) d_mod_round_66 rfl ?_
    refine rp_icmp_ge (tgt := 85) d_mod_round_68 (by decide) (fun c68 => ?_) (fun c68 => ?_)
    · exact absurd c68 (nI_ge (by omega) (by omega))
    · refine rp_lload (i := 6) d_mod_round_71 rfl ?_
      refine rp_ldc2 (v := 10) d_mod_round_73 l_mod_135 ?_
      refine rp_lmul d_mod_round_76 ?_
      rw [show lN (10 ^ i) * 10 = lN (10 ^ i * 10) from lN_mul _ 10, ← Nat.pow_succ]
      refine rp_lstore (i := 6) d_mod_round_77 rfl (Nat.le_of_ble_eq_true rfl) ?_
      refine rp_iinc (i := 8) (y := 1) d_mod_round_79 rfl (by decide) rfl (Nat.le_of_ble_eq_true rfl) ?_
      refine rp_goto (tgt := 64) d_mod_round_82 (by decide) ?_
      refine rp_lv [(0, .ref 19), (1, .long (lN n)), (5, .int (nI j)), (6, .long (lN (10 ^ (i + 1)))), (8, .int (nI (i + 1)))] (by simp only [← nI_1]; rfl) ?_
      exact ih (i + 1) (by omega)
set_option maxHeartbeats 4000000 in
set_option maxRecDepth 100000 in
theorem s_mod_round {h : cf_H} {P : Option Value → cf_H → Prop} (hR : cf_ok h) {n fp : Nat} {sc : Int} (hn : n < 10 ^ 16) (hsc : -1000 ≤ sc ∧ sc ≤ 1000) (hfp : fp ≤ 40) {x : Int64} {y w : Int32} (hx : x = lN n) (hy : y = zI sc) (hw : w = nI fp) (k : ∀ h' z, rN h' (rdN n sc fp) z fp → (z : Int) - fp = rdP sc fp → n_fr h h' → z ≤ 2000 → h'.1 19 20 = h.1 19 20 → P none h') : RP k_mod_round 0 [(0, .ref 19), (1, .long x), (3, .int y), (4, .int w)] [] h P := by
  subst hx; subst hy; subst hw
  have h16 := l16
  have h18 := ten18
  have e10 : -zI sc - nI fp = zI (-sc - (fp : Int)) := by rw [zI_n, zI_neg, zI_sub]
  have hr : zR (-sc - (fp : Int)) := by unfold zR; omega
  refine rp_aload_n (i := 0) d_mod_round_0 rfl rfl ?_
  refine rp_iload (i := 4) d_mod_round_1 rfl ?_
  refine rp_putI d_mod_round_3 f_mod_142 rfl rfl rfl ?_
  refine rp_iload_n (i := 3) d_mod_round_6 rfl rfl ?_
  refine rp_ineg d_mod_round_7 ?_
  refine rp_iload (i := 4) d_mod_round_8 rfl ?_
  refine rp_isub d_mod_round_10 ?_
  rw [e10]
  refine rp_istore (i := 5) d_mod_round_11 rfl (Nat.le_of_ble_eq_true rfl) ?_
  refine rp_aload_n (i := 0) d_mod_round_13 rfl rfl ?_
  refine rp_iload (i := 5) d_mod_round_14 rfl ?_
  refine rp_if_ge (tgt := 25) d_mod_round_16 (by decide) (fun c16 => ?_) (fun c16 => ?_)
  · refine rp_iconst (v := 0) d_mod_round_25 (by decide) ?_
    replace c16 : 0 ≤ -sc - (fp : Int) := (zI_le (a := 0) zR0 hr).mp c16
    rw [show (0 : Int32) = nI 0 from rfl]
    refine rp_putI d_mod_round_26 f_mod_145 rfl rfl rfl ?_
    refine rp_aload_n (i := 0) d_mod_round_29 rfl rfl ?_
    refine rp_lload_n (i := 1) d_mod_round_30 rfl rfl ?_
    refine rp_putJ d_mod_round_31 f_mod_148 rfl rfl rfl ?_
    have f19 : (cf_pJ (cf_pI (cf_pI h 19 19 (nI fp)) 19 18 (nI 0)) 19 17 (lN n)).1 19 19 = nI fp := by rw [g_J1, cf_pI_k (by decide), cf_pI_s]
    have f18 : (cf_pJ (cf_pI (cf_pI h 19 19 (nI fp)) 19 18 (nI 0)) 19 17 (lN n)).1 19 18 = nI 0 := by rw [g_J1, cf_pI_s]
    have f17 : (cf_pJ (cf_pI (cf_pI h 19 19 (nI fp)) 19 18 (nI 0)) 19 17 (lN n)).2.1 19 17 = lN n := cf_pJ_s
    have f20 : (cf_pJ (cf_pI (cf_pI h 19 19 (nI fp)) 19 18 (nI 0)) 19 17 (lN n)).1 19 20 = h.1 19 20 := by rw [g_J1, cf_pI_k (by decide), cf_pI_k (by decide)]
    have hf : n_fr h (cf_pJ (cf_pI (cf_pI h 19 19 (nI fp)) 19 18 (nI 0)) 19 17 (lN n)) := (((n_fr.rf h).pI (by simp) _).pI (by simp) _).pJ _
    generalize cf_pJ (cf_pI (cf_pI h 19 19 (nI fp)) 19 18 (nI 0)) 19 17 (lN n) = h1 at f19 f18 f17 f20 hf ⊢
    refine rp_iload (i := 5) d_mod_round_34 rfl ?_
    refine rp_bipush (v := 17) d_mod_round_36 (by decide) ?_
    refine rp_icmp_le (tgt := 46) d_mod_round_38 (by decide) (fun c38 => ?_) (fun c38 => ?_)
    · refine rp_iload (i := 5) d_mod_round_46 rfl ?_
      refine rp_if_le (tgt := 100) d_mod_round_48 (by decide) (fun c48 => ?_) (fun c48 => ?_)
      · refine rp_return d_mod_round_100 rfl ?_
        replace c48 : -sc - (fp : Int) ≤ 0 := (zI_le (b := 0) hr zR0).mp c48
        refine k h1 _ ⟨?_, f18, f19⟩ ?_ hf (by omega) f20
        · rw [rdN, rdA, if_pos (by omega)]; exact f17
        · rw [rdP, if_pos (by omega)]; omega
      · refine rp_iload (i := 5) d_mod_round_51 rfl ?_
        refine rp_bipush (v := 17) d_mod_round_53 (by decide) ?_
        refine rp_icmp_gt (tgt := 100) d_mod_round_55 (by decide) (fun c55 => ?_) (fun c55 => ?_)
        · exact absurd c55 (Int32.not_lt.mpr c38)
        · refine rp_lconst (v := 1) d_mod_round_58 (by decide) ?_
          refine rp_lstore (i := 6) d_mod_round_59 rfl (Nat.le_of_ble_eq_true rfl) ?_
          refine rp_iconst (v := 0) d_mod_round_61 (by decide) ?_
          refine rp_istore (i := 8) d_mod_round_62 rfl (Nat.le_of_ble_eq_true rfl) ?_
          replace c48 : 0 < -sc - (fp : Int) := Int.not_le.mp (fun z => c48 ((zI_le (b := 0) hr zR0).mpr z))
          replace c38 : -sc - (fp : Int) ≤ 17 := (zI_le (b := 17) hr (by unfold zR; omega)).mp c38
          obtain ⟨j, hj⟩ : ∃ j : Nat, -sc - (fp : Int) = j := ⟨(-sc - (fp : Int)).toNat, by omega⟩
          have h10 := tenl (j := j) (by omega)
          refine rp_lv [(0, .ref 19), (1, .long (lN n)), (5, .int (nI j)), (6, .long (lN (10 ^ 0))), (8, .int (nI 0))] (by rw [zI_n j, ← hj]; rfl) ?_
          refine l_mod_round (by omega) ?_ j 0 (by omega)
          refine rp_aload_n (i := 0) d_mod_round_85 rfl rfl ?_
          refine rp_lload_n (i := 1) d_mod_round_86 rfl rfl ?_
          refine rp_lload (i := 6) d_mod_round_87 rfl ?_
          refine rp_ldc2 (v := 2) d_mod_round_89 l_mod_152 ?_
          refine rp_ldiv d_mod_round_92 (by decide) ?_
          rw [show lN (10 ^ j) / 2 = lN (10 ^ j / 2) from pk_lDiv (b := 2) (by omega) (by decide) (by decide)]
          refine rp_ladd d_mod_round_93 ?_
          rw [lN_add]
          refine rp_lload (i := 6) d_mod_round_94 rfl ?_
          refine rp_ldiv d_mod_round_96 (fun z => by have z : lN (10 ^ j) = lN 0 := z; rw [pk_lEQ (by omega) (by decide)] at z; have := ten0 j; omega) ?_
          rw [pk_lDiv (by omega) (ten0 j) (by omega)]
          refine rp_putJ d_mod_round_97 f_mod_148 rfl rfl rfl ?_
          refine rp_return d_mod_round_100 rfl ?_
          refine k _ _ ⟨?_, f18, f19⟩ ?_ (hf.pJ _) (by omega) f20
          · rw [rdN, rdA, if_neg (by omega), show (-(fp : Int) - sc).toNat = j by omega, cf_pJ_s]
          · rw [rdP, if_neg (by omega)]; omega
    · refine rp_aload_n (i := 0) d_mod_round_41 rfl rfl ?_
      refine rp_lconst (v := 0) d_mod_round_42 (by decide) ?_
      refine rp_putJ d_mod_round_43 f_mod_148 rfl rfl rfl ?_
      refine rp_iload (i := 5) d_mod_round_46 rfl ?_
      refine rp_if_le (tgt := 100) d_mod_round_48 (by decide) (fun c48 => ?_) (fun c48 => ?_)
      · exact absurd ((zI_le (b := 0) hr zR0).mp c48) (fun z => c38 ((zI_le (b := 17) hr (by unfold zR; omega)).mpr (by omega)))
      · refine rp_iload (i := 5) d_mod_round_51 rfl ?_
        refine rp_bipush (v := 17) d_mod_round_53 (by decide) ?_
        refine rp_icmp_gt (tgt := 100) d_mod_round_55 (by decide) (fun c55 => ?_) (fun c55 => ?_)
        · refine rp_return d_mod_round_100 rfl ?_
          replace c38 : 17 < -sc - (fp : Int) := Int.not_le.mp (fun z => c38 ((zI_le (b := 17) hr (by unfold zR; omega)).mpr z))
          refine k _ _ ⟨?_, f18, f19⟩ ?_ (hf.pJ _) (by omega) f20
          · rw [rdN, rdA, if_neg (by omega), show (-(fp : Int) - sc).toNat = (-sc - (fp : Int)).toNat by omega, ten_big hn (by omega), cf_pJ_s]; rfl
          · rw [rdP, if_neg (by omega)]; omega
        · exact absurd (Int32.not_le.mp c38) c55
  · refine rp_iload (i := 5) d_mod_round_19 rfl ?_
    refine rp_ineg d_mod_round_21 ?_
    refine rp_goto (tgt := 26) d_mod_round_22 (by decide) ?_
    replace c16 : ¬ 0 ≤ -sc - (fp : Int) := fun z => c16 ((zI_le (a := 0) zR0 hr).mpr z)
    rw [zI_neg, zI_nat (a := -(-sc - (fp : Int))) (by omega)]
    refine rp_putI d_mod_round_26 f_mod_145 rfl rfl rfl ?_
    refine rp_aload_n (i := 0) d_mod_round_29 rfl rfl ?_
    refine rp_lload_n (i := 1) d_mod_round_30 rfl rfl ?_
    refine rp_putJ d_mod_round_31 f_mod_148 rfl rfl rfl ?_
    have f19 : (cf_pJ (cf_pI (cf_pI h 19 19 (nI fp)) 19 18 (nI (-(-sc - (fp : Int))).toNat)) 19 17 (lN n)).1 19 19 = nI fp := by rw [g_J1, cf_pI_k (by decide), cf_pI_s]
    have f18 : (cf_pJ (cf_pI (cf_pI h 19 19 (nI fp)) 19 18 (nI (-(-sc - (fp : Int))).toNat)) 19 17 (lN n)).1 19 18 = nI (-(-sc - (fp : Int))).toNat := by rw [g_J1, cf_pI_s]
    have f17 : (cf_pJ (cf_pI (cf_pI h 19 19 (nI fp)) 19 18 (nI (-(-sc - (fp : Int))).toNat)) 19 17 (lN n)).2.1 19 17 = lN n := cf_pJ_s
    have f20 : (cf_pJ (cf_pI (cf_pI h 19 19 (nI fp)) 19 18 (nI (-(-sc - (fp : Int))).toNat)) 19 17 (lN n)).1 19 20 = h.1 19 20 := by rw [g_J1, cf_pI_k (by decide), cf_pI_k (by decide)]
    have hf : n_fr h (cf_pJ (cf_pI (cf_pI h 19 19 (nI fp)) 19 18 (nI (-(-sc - (fp : Int))).toNat)) 19 17 (lN n)) := (((n_fr.rf h).pI (by simp) _).pI (by simp) _).pJ _
    generalize cf_pJ (cf_pI (cf_pI h 19 19 (nI fp)) 19 18 (nI (-(-sc - (fp : Int))).toNat)) 19 17 (lN n) = h1 at f19 f18 f17 f20 hf ⊢
    refine rp_iload (i := 5) d_mod_round_34 rfl ?_
    refine rp_bipush (v := 17) d_mod_round_36 (by decide) ?_
    refine rp_icmp_le (tgt := 46) d_mod_round_38 (by decide) (fun c38 => ?_) (fun c38 => ?_)
    · refine rp_iload (i := 5) d_mod_round_46 rfl ?_
      refine rp_if_le (tgt := 100) d_mod_round_48 (by decide) (fun c48 => ?_) (fun c48 => ?_)
      · refine rp_return d_mod_round_100 rfl ?_
        refine k h1 _ ⟨?_, f18, f19⟩ ?_ hf (by omega) f20
        · rw [rdN, rdA, if_pos (by omega)]; exact f17
        · rw [rdP, if_pos (by omega)]; omega
      · exact absurd ((zI_le (b := 0) hr zR0).mpr (by omega)) c48
    · exact absurd ((zI_le (b := 17) hr (by unfold zR; omega)).mpr (by omega)) c38
set_option maxHeartbeats 4000000 in
set_option maxRecDepth 100000 in
theorem s_mod_top {h : cf_H} {P : Option Value → cf_H → Prop} {a z d : Nat} (hN : rN h a z d) (ha : a < 10 ^ 16) (k : P (some (.int (zI ((ln a : Int) - 1 + z - d)))) h) : RP k_mod_top 0 [(0, .ref 19)] [] h P := by
  have h1618 := l1618
  refine rp_aload_n (i := 0) d_mod_top_0 rfl rfl ?_
  refine rp_getJ d_mod_top_1 f_mod_148 rfl ?_
  refine rp_callS1 d_mod_top_4 q_mod_top_154 (Nat.le_of_ble_eq_true rfl) (Nat.le_of_ble_eq_true rfl) ?_
  refine s_mod_lengthOf hN.1 (by omega) ?_
  refine rp_iconst (v := 1) d_mod_top_7 (by decide) ?_
  refine rp_isub d_mod_top_8 ?_
  refine rp_aload_n (i := 0) d_mod_top_9 rfl rfl ?_
  refine rp_getI d_mod_top_10 f_mod_145 rfl ?_
  refine rp_iadd d_mod_top_13 ?_
  refine rp_aload_n (i := 0) d_mod_top_14 rfl rfl ?_
  refine rp_getI d_mod_top_15 f_mod_142 rfl ?_
  refine rp_isub d_mod_top_18 ?_
  refine rp_ireturn (ty := .int) d_mod_top_19 rfl rfl ?_
  rw [hN.2.1, hN.2.2, show (1 : Int32) = zI 1 from rfl, zI_n, zI_n, zI_n, zI_sub, zI_add, zI_sub]
  exact k
set_option maxHeartbeats 4000000 in
set_option maxRecDepth 100000 in
theorem l_mod_digitOf {h : cf_H} {P : Option Value → cf_H → Prop} {a j : Nat} (ha : a < 10 ^ 16) (hj : j ≤ 17) (k : P (some (.int (nI (a / 10 ^ j % 10)))) h) : ∀ (r i : Nat), i + r = j → RP k_mod_digitOf 32 [(2, .int (nI j)), (3, .long (lN (a / 10 ^ i))), (5, .int (nI i))] [] h P := by
  have h16 := l16
  intro r
  induction r with
  | zero =>
    intro i e
    have e : i = j := e
    subst e
    refine rp_iload (i := 5) d_mod_digitOf_32 rfl ?_
    refine rp_iload_n (i := 2) d_mod_digitOf_34 rfl rfl ?_
    refine rp_icmp_ge (tgt := 50) d_mod_digitOf_35 (by decide) (fun c35 => ?_) (fun c35 => ?_)
    · refine rp_lload_n (i := 3) d_mod_digitOf_50 rfl rfl ?_
      refine rp_ldc2 (v := 10) d_mod_digitOf_51 l_mod_135 ?_
      refine rp_lrem d_mod_digitOf_54 (by decide) ?_
      rw [show lN (a / 10 ^ i) - lN (a / 10 ^ i) / 10 * 10 = lN (a / 10 ^ i % 10) from pk_lRem (b := 10) (Nat.lt_of_le_of_lt (Nat.div_le_self _ _) (by omega)) (by decide) (by decide)]
      refine rp_l2i d_mod_digitOf_55 ?_
      rw [lN_i]
      refine rp_ireturn (ty := .int) d_mod_digitOf_56 rfl rfl ?_
      exact k
    · exact absurd (nI_le (Nat.le_refl i) (by omega)) c35
  | succ r ih =>
    intro i e
    refine rp_iload (i := 5) d_mod_digitOf_32 rfl ?_
    refine rp_iload_n (i := 2) d_mod_digitOf_34 rfl rfl ?_
    refine rp_icmp_ge (tgt := 50) d_mod_digitOf_35 (by decide) (fun c35 => ?_) (fun c35 => ?_)
    · exact absurd c35 (nI_ge (by omega) (by omega))
    · refine rp_lload_n (i := 3) d_mod_digitOf_38 rfl rfl ?_
      refine rp_ldc2 (v := 10) d_mod_digitOf_39 l_mod_135 ?_
      refine rp_ldiv d_mod_digitOf_42 (by decide) ?_
      rw [show lN (a / 10 ^ i) / 10 = lN (a / 10 ^ i / 10) from pk_lDiv (b := 10) (Nat.lt_of_le_of_lt (Nat.div_le_self _ _) (by omega)) (by decide) (by decide), Nat.div_div_eq_div_mul, ← Nat.pow_succ]
      refine rp_lstore_n (i := 3) d_mod_digitOf_43 rfl rfl (Nat.le_of_ble_eq_true rfl) ?_
      refine rp_iinc (i := 5) (y := 1) d_mod_digitOf_44 rfl (by decide) rfl (Nat.le_of_ble_eq_true rfl) ?_
      refine rp_goto (tgt := 32) d_mod_digitOf_47 (by decide) ?_
      refine rp_lv [(2, .int (nI j)), (3, .long (lN (a / 10 ^ (i + 1)))), (5, .int (nI (i + 1)))] (by simp only [← nI_1]; rfl) ?_
      exact ih (i + 1) (by omega)
set_option maxHeartbeats 4000000 in
set_option maxRecDepth 100000 in
theorem s_mod_digitOf {h : cf_H} {P : Option Value → cf_H → Prop} {a z d : Nat} {p : Int} (hN : rN h a z d) (ha : a < 10 ^ 16) (hz : z ≤ 2000) (hd : d ≤ 40) (hp : -1000 ≤ p ∧ p ≤ 1000) {x : Int32} (hx : x = zI p) (k : P (some (.int (nI (dg a ((z : Int) - d) p)))) h) : RP k_mod_digitOf 0 [(0, .ref 19), (1, .int x)] [] h P := by
  subst hx
  have h1618 := l1618
  have e10 : zI p + h.1 19 19 - h.1 19 18 = zI (p + d - z) := by rw [hN.2.1, hN.2.2, zI_n, zI_n, zI_add, zI_sub]
  have hr : zR (p + d - z) := by unfold zR; omega
  refine rp_iload_n (i := 1) d_mod_digitOf_0 rfl rfl ?_
  refine rp_aload_n (i := 0) d_mod_digitOf_1 rfl rfl ?_
  refine rp_getI d_mod_digitOf_2 f_mod_142 rfl ?_
  refine rp_iadd d_mod_digitOf_5 ?_
  refine rp_aload_n (i := 0) d_mod_digitOf_6 rfl rfl ?_
  refine rp_getI d_mod_digitOf_7 f_mod_145 rfl ?_
  refine rp_isub d_mod_digitOf_10 ?_
  rw [e10]
  refine rp_istore_n (i := 2) d_mod_digitOf_11 rfl rfl (Nat.le_of_ble_eq_true rfl) ?_
  refine rp_iload_n (i := 2) d_mod_digitOf_12 rfl rfl ?_
  refine rp_if_lt (tgt := 22) d_mod_digitOf_13 (by decide) (fun c13 => ?_) (fun c13 => ?_)
  · refine rp_iconst (v := 0) d_mod_digitOf_22 (by decide) ?_
    refine rp_ireturn (ty := .int) d_mod_digitOf_23 rfl rfl ?_
    replace c13 : p + d - z < 0 := (zI_lt (b := 0) hr zR0).mp c13
    rw [dg, if_pos (by omega)] at k
    exact k
  · refine rp_iload_n (i := 2) d_mod_digitOf_16 rfl rfl ?_
    refine rp_bipush (v := 17) d_mod_digitOf_17 (by decide) ?_
    refine rp_icmp_le (tgt := 24) d_mod_digitOf_19 (by decide) (fun c19 => ?_) (fun c19 => ?_)
    · refine rp_aload_n (i := 0) d_mod_digitOf_24 rfl rfl ?_
      refine rp_getJ d_mod_digitOf_25 f_mod_148 rfl ?_
      refine rp_lstore_n (i := 3) d_mod_digitOf_28 rfl rfl (Nat.le_of_ble_eq_true rfl) ?_
      refine rp_iconst (v := 0) d_mod_digitOf_29 (by decide) ?_
      refine rp_istore (i := 5) d_mod_digitOf_30 rfl (Nat.le_of_ble_eq_true rfl) ?_
      replace c13 : ¬ p + d - z < 0 := fun w => c13 ((zI_lt (b := 0) hr zR0).mpr w)
      replace c19 : p + d - z ≤ 17 := (zI_le (b := 17) hr (by unfold zR; omega)).mp c19
      obtain ⟨j, hj⟩ : ∃ j : Nat, p + d - z = j := ⟨(p + d - z).toNat, by omega⟩
      rw [dg, if_neg (by omega), show p - ((z : Int) - d) = (j : Int) by omega, Int.toNat_natCast] at k
      refine rp_lv [(2, .int (nI j)), (3, .long (lN (a / 10 ^ 0))), (5, .int (nI 0))] (by rw [Nat.pow_zero, Nat.div_one, zI_n j, ← hj, ← hN.1]; rfl) ?_
      exact l_mod_digitOf ha (by omega) k j 0 (by omega)
    · refine rp_iconst (v := 0) d_mod_digitOf_22 (by decide) ?_
      refine rp_ireturn (ty := .int) d_mod_digitOf_23 rfl rfl ?_
      replace c13 : ¬ p + d - z < 0 := fun w => c13 ((zI_lt (b := 0) hr zR0).mpr w)
      replace c19 : ¬ p + d - z ≤ 17 := fun w => c19 ((zI_le (b := 17) hr (by unfold zR; omega)).mpr w)
      have hbig : a < 10 ^ (p - ((z : Int) - d)).toNat := Nat.lt_of_lt_of_le (Nat.lt_trans ha l1618) (Nat.pow_le_pow_right (by decide) (by omega))
      rw [dg, if_neg (by omega), Nat.div_eq_of_lt hbig] at k
      exact k
