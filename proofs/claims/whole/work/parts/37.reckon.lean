/-! reckon of the reference -/
theorem ln_le_of {a m : Nat} (ha : a < 10 ^ 18) (h : a ≤ 10 ^ m) : ln a ≤ m + 1 := by
  have h3 := (ln_sp ha).2.2
  apply Nat.not_lt.mp; intro z
  have h4 := h3 (m + 1) z
  rw [Nat.pow_succ] at h4
  have := ten0 m; omega
theorem tp_fit {n : Nat} {pw : Int} {ip fp : Nat} (hn : n < 10 ^ 16) (hn0 : ¬ n = 0) (hip1 : 1 ≤ ip) (h0 : 0 ≤ tp n pw) (h1 : tp n pw < ip) : ¬ rdN n pw fp = 0 ∧ ((ip : Int) ≤ tp (rdN n pw fp) (rdP pw fp) ↔ (ln (rdN n pw fp) : Int) - 1 + rdP pw fp = ip) := by
  have h18 : n < 10 ^ 18 := Nat.lt_trans hn l1618
  obtain ⟨a1, a2, a3⟩ := ln_sp h18
  have htp : tp n pw = (ln n : Int) - 1 + pw := by unfold tp; rw [if_neg hn0]
  by_cases hd : -(fp : Int) - pw ≤ 0
  · have e1 : rdN n pw fp = n := by unfold rdN rdA; rw [if_pos hd]
    have e2 : rdP pw fp = pw := by unfold rdP; rw [if_pos hd]
    rw [e1, e2]
    exact ⟨hn0, by omega⟩
  · obtain ⟨d, hdd⟩ : ∃ d : Nat, -(fp : Int) - pw = d := ⟨(-(fp : Int) - pw).toNat, by omega⟩
    have e1 : rdN n pw fp = (n + 10 ^ d / 2) / 10 ^ d := by unfold rdN rdA; rw [if_neg hd, hdd, Int.toNat_natCast]
    have e2 : rdP pw fp = -(fp : Int) := by unfold rdP; rw [if_neg hd]
    have hl : d + 1 ≤ ln n := by omega
    have hA1 : 1 ≤ rdN n pw fp := by
      rw [e1, Nat.le_div_iff_mul_le (ten0 d)]
      have := a3 d (by omega); omega
    have hA2 : rdN n pw fp ≤ 10 ^ (ln n - d) := by
      rw [e1]
      apply Nat.le_of_lt_succ
      rw [Nat.div_lt_iff_lt_mul (ten0 d)]
      have e3 : 10 ^ ln n = 10 ^ (ln n - d) * 10 ^ d := by rw [← Nat.pow_add]; congr 1; omega
      have := ten0 d
      rw [Nat.succ_mul, ← e3]; omega
    have hA3 := rdA_le hn (-(fp : Int) - pw)
    have hA4 := ln_le_of (a := rdN n pw fp) (m := ln n - d) (Nat.lt_trans hA3 l1618) hA2
    refine ⟨by omega, ?_⟩
    have e4 : tp (rdN n pw fp) (rdP pw fp) = (ln (rdN n pw fp) : Int) - 1 + rdP pw fp := by unfold tp; rw [if_neg (by omega)]
    rw [e4, e2]
    omega
def r_sk (ty : Nat → Int32) (a b i m : Nat) : Nat := cf_cnt (fun k => decide (ty k = 4) && r_scl ty a b k) i m
def r_pl (ty : Nat → Int32) (a b : Nat) : Nat := if r_fd ty 6 a b ≤ r_fd ty 3 a b then 0 else r_ct ty 2 (r_fd ty 3 a b) (r_fd ty 6 a b)
def r_ip (ty : Nat → Int32) (a b : Nat) : Nat := r_ct ty 2 a (r_ie ty a b)
def mScl (pc sk : Nat) : Int := -6 + 2 * (pc : Int) - 3 * (sk : Int)
def mNum (n : Nat) (sc : Int) (ip fp : Nat) (ex : Bool) : Nat × Int × Int := bif ex then tE n sc ip fp else (rdN n sc fp, rdP sc fp, 0)

set_option maxHeartbeats 4000000 in
set_option maxRecDepth 100000 in
theorem l_mod_rk0 {h : cf_H} {P : Option Value → cf_H → Prop} (hR : cf_ok h) {s a b pc n : Nat} (hs : r_sec h s a b) (k : RP k_mod_reckon 82 [(0, .ref 19), (1, .int (nI s)), (2, .long (lN n)), (4, .int (nI a)), (5, .int (nI b)), (6, .int (zI (mScl pc (r_sk (h.2.2.2 22) a b a (b - a)))))] [] h P) : ∀ (m i q : Nat), i + m = b → a ≤ i → q + r_sk (h.2.2.2 22) a b i m = r_sk (h.2.2.2 22) a b a (b - a) → RP k_mod_reckon 38 [(0, .ref 19), (1, .int (nI s)), (2, .long (lN n)), (4, .int (nI a)), (5, .int (nI b)), (6, .int (zI (mScl pc q))), (7, .int (nI i))] [] h P := by
  have hb40 := hs.2.2.2.1
  intro m
  induction m with
  | zero =>
    intro i q e ha hq
    have e : i = b := e
    subst e
    refine rp_iload (i := 7) d_mod_reckon_38 rfl ?_
    refine rp_iload (i := 5) d_mod_reckon_40 rfl ?_
    refine rp_icmp_ge (tgt := 82) d_mod_reckon_42 (by decide) (fun c42 => ?_) (fun c42 => ?_)
    · rw [show r_sk (h.2.2.2 22) a i a (i - a) = q from by rw [← hq]; rfl] at k
      refine rp_lv [(0, .ref 19), (1, .int (nI s)), (2, .long (lN n)), (4, .int (nI a)), (5, .int (nI i)), (6, .int (zI (mScl pc q)))] rfl ?_
      exact k
    · exact absurd (nI_le (Nat.le_refl i) (by omega)) c42
  | succ m ih =>
    intro i q e ha hq
    have hcl : (nI i).toNatClampNeg = i := nI_clamp (by omega)
    rw [r_sk, cf_cnt] at hq
    refine rp_iload (i := 7) d_mod_reckon_38 rfl ?_
    refine rp_iload (i := 5) d_mod_reckon_40 rfl ?_
    refine rp_icmp_ge (tgt := 82) d_mod_reckon_42 (by decide) (fun c42 => ?_) (fun c42 => ?_)
    · exact absurd c42 (nI_ge (by omega) (by omega))
    · refine rp_iload (i := 6) d_mod_reckon_45 rfl ?_
      refine rp_aload_n (i := 0) d_mod_reckon_47 rfl rfl ?_
      refine rp_getR d_mod_reckon_48 f_mod_16 rfl (hR _ _ _ rfl) ?_
      refine rp_iload (i := 7) d_mod_reckon_51 rfl ?_
      refine rp_iaload d_mod_reckon_53 rfl (vp_in_nI (by omega) (by decide)) ?_
      rw [hcl]
      refine rp_iconst (v := 4) d_mod_reckon_54 (by decide) ?_
      refine rp_icmp_ne (tgt := 72) d_mod_reckon_55 (by decide) (fun c55 => ?_) (fun c55 => ?_)
      · refine rp_iconst (v := 0) d_mod_reckon_72 (by decide) ?_
        refine rp_isub d_mod_reckon_73 ?_
        refine rp_istore (i := 6) d_mod_reckon_74 rfl (Nat.le_of_ble_eq_true rfl) ?_
        refine rp_iinc (i := 7) (y := 1) d_mod_reckon_76 rfl (by decide) rfl (Nat.le_of_ble_eq_true rfl) ?_
        refine rp_goto (tgt := 38) d_mod_reckon_79 (by decide) ?_
        rw [show decide (h.2.2.2 22 i = 4) = false from decide_eq_false c55] at hq
        rw [show zI (mScl pc q) - 0 = zI (mScl pc q) from Int32.sub_zero _]
        refine rp_lv [(0, .ref 19), (1, .int (nI s)), (2, .long (lN n)), (4, .int (nI a)), (5, .int (nI b)), (6, .int (zI (mScl pc q))), (7, .int (nI (i + 1)))] (by simp only [← nI_1]; rfl) ?_
        exact ih (i + 1) q (by omega) (by omega) (by rw [← hq]; simp [r_sk]; try omega)
      · refine rp_aload_n (i := 0) d_mod_reckon_58 rfl rfl ?_
        refine rp_iload_n (i := 1) d_mod_reckon_59 rfl rfl ?_
        refine rp_iload (i := 7) d_mod_reckon_60 rfl ?_
        refine rp_callV2 d_mod_reckon_62 q_mod_reckon_109 (Or.inl ⟨_, _, _, rfl, rfl⟩) (Nat.le_of_ble_eq_true rfl) (Nat.le_of_ble_eq_true rfl) ?_
        refine s_mod_scales hR hs rfl rfl ha (by omega) ?_
        refine rp_if_eq (tgt := 72) d_mod_reckon_65 (by decide) (fun c65 => ?_) (fun c65 => ?_)
        · refine rp_iconst (v := 0) d_mod_reckon_72 (by decide) ?_
          refine rp_isub d_mod_reckon_73 ?_
          refine rp_istore (i := 6) d_mod_reckon_74 rfl (Nat.le_of_ble_eq_true rfl) ?_
          refine rp_iinc (i := 7) (y := 1) d_mod_reckon_76 rfl (by decide) rfl (Nat.le_of_ble_eq_true rfl) ?_
          refine rp_goto (tgt := 38) d_mod_reckon_79 (by decide) ?_
          replace c65 := cf_b_f c65
          rw [show decide (h.2.2.2 22 i = 4) = true from decide_eq_true c55, c65] at hq
          rw [show zI (mScl pc q) - 0 = zI (mScl pc q) from Int32.sub_zero _]
          refine rp_lv [(0, .ref 19), (1, .int (nI s)), (2, .long (lN n)), (4, .int (nI a)), (5, .int (nI b)), (6, .int (zI (mScl pc q))), (7, .int (nI (i + 1)))] (by simp only [← nI_1]; rfl) ?_
          exact ih (i + 1) q (by omega) (by omega) (by rw [← hq]; simp [r_sk]; try omega)
        · refine rp_iconst (v := 3) d_mod_reckon_68 (by decide) ?_
          refine rp_goto (tgt := 73) d_mod_reckon_69 (by decide) ?_
          refine rp_isub d_mod_reckon_73 ?_
          refine rp_istore (i := 6) d_mod_reckon_74 rfl (Nat.le_of_ble_eq_true rfl) ?_
          refine rp_iinc (i := 7) (y := 1) d_mod_reckon_76 rfl (by decide) rfl (Nat.le_of_ble_eq_true rfl) ?_
          refine rp_goto (tgt := 38) d_mod_reckon_79 (by decide) ?_
          replace c65 := cf_b_t c65
          rw [show decide (h.2.2.2 22 i = 4) = true from decide_eq_true c55, c65] at hq
          rw [show zI (mScl pc q) - 3 = zI (mScl pc (q + 1)) from by rw [show (3 : Int32) = zI 3 from rfl, zI_sub]; congr 1; unfold mScl; omega]
          refine rp_lv [(0, .ref 19), (1, .int (nI s)), (2, .long (lN n)), (4, .int (nI a)), (5, .int (nI b)), (6, .int (zI (mScl pc (q + 1)))), (7, .int (nI (i + 1)))] (by simp only [← nI_1]; rfl) ?_
          exact ih (i + 1) (q + 1) (by omega) (by omega) (by rw [← hq]; simp [r_sk]; try omega)
set_option maxHeartbeats 4000000 in
set_option maxRecDepth 100000 in
theorem l_mod_rk2 {h0 : cf_H} {P : Option Value → cf_H → Prop} {n fp ip : Nat} {sc H E : Int} (hH : -200 ≤ H ∧ H ≤ 200) (hE1 : E ≤ H) (hE2 : H < E + ip) (hip1 : 1 ≤ ip) (hip : ip ≤ 40) (k : ∀ h, h.1 19 20 = zI E → n_fr h0 h → RP k_mod_reckon 223 [(0, .ref 19), (2, .long (lN n)), (6, .int (zI sc)), (9, .int (nI fp)), (10, .int (nI ip)), (11, .int (zI H))] [] h P) : ∀ (r : Nat) (W : Int) (h : cf_H), W + r * ip = E → -300 ≤ W → h.1 19 20 = zI W → n_fr h0 h → RP k_mod_reckon 197 [(0, .ref 19), (2, .long (lN n)), (6, .int (zI sc)), (9, .int (nI fp)), (10, .int (nI ip)), (11, .int (zI H))] [] h P := by
  intro r
  induction r with
  | zero =>
    intro W h e hW hp f
    have e : W = E := by simpa using e
    subst e
    refine rp_aload_n (i := 0) d_mod_reckon_197 rfl rfl ?_
    refine rp_getI d_mod_reckon_198 f_mod_158 rfl ?_
    refine rp_iload (i := 10) d_mod_reckon_201 rfl ?_
    refine rp_iadd d_mod_reckon_203 ?_
    rw [hp, zI_n ip, zI_add]
    refine rp_iload (i := 11) d_mod_reckon_204 rfl ?_
    refine rp_icmp_gt (tgt := 223) d_mod_reckon_206 (by decide) (fun c206 => ?_) (fun c206 => ?_)
    · refine rp_lv [(0, .ref 19), (2, .long (lN n)), (6, .int (zI sc)), (9, .int (nI fp)), (10, .int (nI ip)), (11, .int (zI H))] (by rw [zI_n ip]; rfl) ?_
      exact k h hp f
    · exact absurd ((zI_lt (by unfold zR; omega) (by unfold zR; omega)).mpr hE2) c206
  | succ r ih =>
    intro W h e hW hp f
    have e2 : W + ip + r * ip = E := by rw [← e]; push_cast; rw [Int.add_mul]; omega
    have e3 : (0 : Int) ≤ (r : Int) * ip := Int.mul_nonneg (by omega) (by omega)
    refine rp_aload_n (i := 0) d_mod_reckon_197 rfl rfl ?_
    refine rp_getI d_mod_reckon_198 f_mod_158 rfl ?_
    refine rp_iload (i := 10) d_mod_reckon_201 rfl ?_
    refine rp_iadd d_mod_reckon_203 ?_
    rw [hp, zI_n ip, zI_add]
    refine rp_iload (i := 11) d_mod_reckon_204 rfl ?_
    refine rp_icmp_gt (tgt := 223) d_mod_reckon_206 (by decide) (fun c206 => ?_) (fun c206 => ?_)
    · exact absurd ((zI_lt (by unfold zR; omega) (by unfold zR; omega)).mp c206) (by omega)
    · refine rp_aload_n (i := 0) d_mod_reckon_209 rfl rfl ?_
      refine rp_dup d_mod_reckon_210 rfl ?_
      refine rp_getI d_mod_reckon_211 f_mod_158 rfl ?_
      refine rp_iload (i := 10) d_mod_reckon_214 rfl ?_
      refine rp_iadd d_mod_reckon_216 ?_
      rw [hp, zI_add]
      refine rp_putI d_mod_reckon_217 f_mod_158 rfl rfl rfl ?_
      refine rp_goto (tgt := 197) d_mod_reckon_220 (by decide) ?_
      refine rp_lv [(0, .ref 19), (2, .long (lN n)), (6, .int (zI sc)), (9, .int (nI fp)), (10, .int (nI ip)), (11, .int (zI H))] (by rw [zI_n ip]; rfl) ?_
      exact ih (W + ip) _ e2 (by omega) cf_pI_s (f.pI (by simp) _)
set_option maxHeartbeats 4000000 in
set_option maxRecDepth 100000 in
theorem l_mod_rk1 {h0 : cf_H} {P : Option Value → cf_H → Prop} {n fp ip : Nat} {sc H E : Int} (hH : -200 ≤ H ∧ H ≤ 200) (hE1 : E ≤ H) (hE2 : H < E + ip) (hip1 : 1 ≤ ip) (hip : ip ≤ 40) (k : ∀ h, h.1 19 20 = zI E → n_fr h0 h → RP k_mod_reckon 197 [(0, .ref 19), (2, .long (lN n)), (6, .int (zI sc)), (9, .int (nI fp)), (10, .int (nI ip)), (11, .int (zI H))] [] h P) : ∀ (r : Nat) (W : Int) (h : cf_H), W = E + r * ip → W ≤ 300 → h.1 19 20 = zI W → n_fr h0 h → RP k_mod_reckon 174 [(0, .ref 19), (2, .long (lN n)), (6, .int (zI sc)), (9, .int (nI fp)), (10, .int (nI ip)), (11, .int (zI H))] [] h P := by
  intro r
  induction r with
  | zero =>
    intro W h e hW hp f
    have e : W = E := by simpa using e
    subst e
    refine rp_aload_n (i := 0) d_mod_reckon_174 rfl rfl ?_
    refine rp_getI d_mod_reckon_175 f_mod_158 rfl ?_
    rw [hp]
    refine rp_iload (i := 11) d_mod_reckon_178 rfl ?_
    refine rp_icmp_le (tgt := 197) d_mod_reckon_180 (by decide) (fun c180 => ?_) (fun c180 => ?_)
    · exact k h hp f
    · exact absurd ((zI_le (by unfold zR; omega) (by unfold zR; omega)).mpr hE1) c180
  | succ r ih =>
    intro W h e hW hp f
    have e2 : W - ip = E + r * ip := by rw [e]; push_cast; rw [Int.add_mul]; omega
    have e3 : (0 : Int) ≤ (r : Int) * ip := Int.mul_nonneg (by omega) (by omega)
    refine rp_aload_n (i := 0) d_mod_reckon_174 rfl rfl ?_
    refine rp_getI d_mod_reckon_175 f_mod_158 rfl ?_
    rw [hp]
    refine rp_iload (i := 11) d_mod_reckon_178 rfl ?_
    refine rp_icmp_le (tgt := 197) d_mod_reckon_180 (by decide) (fun c180 => ?_) (fun c180 => ?_)
    · exact absurd ((zI_le (by unfold zR; omega) (by unfold zR; omega)).mp c180) (by omega)
    · refine rp_aload_n (i := 0) d_mod_reckon_183 rfl rfl ?_
      refine rp_dup d_mod_reckon_184 rfl ?_
      refine rp_getI d_mod_reckon_185 f_mod_158 rfl ?_
      refine rp_iload (i := 10) d_mod_reckon_188 rfl ?_
      refine rp_isub d_mod_reckon_190 ?_
      rw [hp, zI_n ip, zI_sub]
      refine rp_putI d_mod_reckon_191 f_mod_158 rfl rfl rfl ?_
      refine rp_goto (tgt := 174) d_mod_reckon_194 (by decide) ?_
      refine rp_lv [(0, .ref 19), (2, .long (lN n)), (6, .int (zI sc)), (9, .int (nI fp)), (10, .int (nI ip)), (11, .int (zI H))] (by rw [zI_n ip]; rfl) ?_
      exact ih (W - ip) _ e2 (by omega) cf_pI_s (f.pI (by simp) _)
set_option maxHeartbeats 4000000 in
set_option maxRecDepth 100000 in
theorem t_mod_rk223 {h0 h : cf_H} {P : Option Value → cf_H → Prop} (hR : cf_ok h0) {n fp ip : Nat} {sc H : Int} (hn : n < 10 ^ 16) (hn0 : ¬ n = 0) (hsc : -130 ≤ sc ∧ sc ≤ 10) (hfp : fp ≤ 40) (hip1 : 1 ≤ ip) (hip : ip ≤ 40) (hp : h.1 19 20 = zI (tE0 n sc ip)) (f : n_fr h0 h) (k : ∀ h' A z, A = (tE1 n sc ip fp).1 → rN h' A z fp → (z : Int) - fp = (tE1 n sc ip fp).2.1 → h'.1 19 20 = zI (tE1 n sc ip fp).2.2 → n_fr h0 h' → z ≤ 500 → P none h') : RP k_mod_reckon 223 [(0, .ref 19), (2, .long (lN n)), (6, .int (zI sc)), (9, .int (nI fp)), (10, .int (nI ip)), (11, .int (zI H))] [] h P := by
  have hE := tE0_b (ip := ip) hn hsc hip1 hip
  have hRh := f.ok hR
  have htp : tp n (sc - tE0 n sc ip) = tp n sc - tE0 n sc ip := by unfold tp; rw [if_neg hn0, if_neg hn0]; omega
  obtain ⟨t1, t2⟩ := tp_fit (n := n) (pw := sc - tE0 n sc ip) (ip := ip) (fp := fp) hn hn0 hip1 (by omega) (by omega)
  refine rp_aload_n (i := 0) d_mod_reckon_223 rfl rfl ?_
  refine rp_lload_n (i := 2) d_mod_reckon_224 rfl rfl ?_
  refine rp_iload (i := 6) d_mod_reckon_225 rfl ?_
  refine rp_aload_n (i := 0) d_mod_reckon_227 rfl rfl ?_
  refine rp_getI d_mod_reckon_228 f_mod_158 rfl ?_
  refine rp_isub d_mod_reckon_231 ?_
  rw [hp, zI_sub]
  refine rp_iload (i := 9) d_mod_reckon_232 rfl ?_
  refine rp_callV3 d_mod_reckon_234 q_mod_reckon_161 (Or.inl ⟨_, _, _, rfl, rfl⟩) (Nat.le_of_ble_eq_true rfl) (Nat.le_of_ble_eq_true rfl) ?_
  refine s_mod_round hRh hn (sc := sc - tE0 n sc ip) (by omega) hfp rfl rfl rfl (fun h2 z hN hz hf2 hz2 hpw => ?_)
  refine rp_aload_n (i := 0) d_mod_reckon_237 rfl rfl ?_
  refine rp_callV0 d_mod_reckon_238 q_mod_reckon_165 (Or.inl ⟨_, _, _, rfl, rfl⟩) (Nat.le_of_ble_eq_true rfl) (Nat.le_of_ble_eq_true rfl) ?_
  have hA16 := rdA_le hn (-(fp : Int) - (sc - tE0 n sc ip))
  have hl16 : ln (rdN n (sc - tE0 n sc ip) fp) ≤ 16 := ln_le16 hA16
  refine s_mod_top hN hA16 ?_
  have hP : -1000 ≤ rdP (sc - tE0 n sc ip) fp ∧ rdP (sc - tE0 n sc ip) fp ≤ 1000 := by unfold rdP; split <;> omega
  have hr : zR ((ln (rdN n (sc - tE0 n sc ip) fp) : Int) - 1 + z - fp) := by unfold zR; omega
  have hf3 : n_fr h0 h2 := ⟨fun o k e => (hf2.1 o k e).trans (f.1 o k e), fun o k e => (hf2.2.1 o k e).trans (f.2.1 o k e), hf2.2.2.trans f.2.2⟩
  refine rp_iload (i := 10) d_mod_reckon_241 rfl ?_
  refine rp_icmp_ne (tgt := 270) d_mod_reckon_243 (by decide) (fun c243 => ?_) (fun c243 => ?_)
  · refine rp_return d_mod_reckon_270 rfl ?_
    replace c243 : ¬ ((ln (rdN n (sc - tE0 n sc ip) fp) : Int) - 1 + z - fp = ip) := fun w => c243 (by rw [zI_n]; exact (zI_eq hr (by unfold zR; omega)).mpr w)
    have hlt : ¬ (ip : Int) ≤ tp (rdN n (sc - tE0 n sc ip) fp) (rdP (sc - tE0 n sc ip) fp) := fun w => c243 (by have := t2.mp w; omega)
    rw [tE1, if_neg hlt] at k
    exact k h2 _ z rfl hN hz (hpw.trans hp) hf3 (by have hz0 := hz; unfold rdP at hz0; split at hz0 <;> omega)
  · refine rp_aload_n (i := 0) d_mod_reckon_246 rfl rfl ?_
    refine rp_dup d_mod_reckon_247 rfl ?_
    refine rp_getI d_mod_reckon_248 f_mod_158 rfl ?_
    refine rp_iload (i := 10) d_mod_reckon_251 rfl ?_
    refine rp_iadd d_mod_reckon_253 ?_
    refine rp_putI d_mod_reckon_254 f_mod_158 rfl rfl rfl ?_
    refine rp_aload_n (i := 0) d_mod_reckon_257 rfl rfl ?_
    refine rp_lconst (v := 1) d_mod_reckon_258 (by decide) ?_
    refine rp_putJ d_mod_reckon_259 f_mod_148 rfl rfl rfl ?_
    refine rp_aload_n (i := 0) d_mod_reckon_262 rfl rfl ?_
    refine rp_aload_n (i := 0) d_mod_reckon_263 rfl rfl ?_
    refine rp_getI d_mod_reckon_264 f_mod_142 rfl ?_
    refine rp_putI d_mod_reckon_267 f_mod_145 rfl rfl rfl ?_
    refine rp_return d_mod_reckon_270 rfl ?_
    replace c243 : (ln (rdN n (sc - tE0 n sc ip) fp) : Int) - 1 + z - fp = ip := (zI_eq hr (by unfold zR; omega)).mp (by rw [zI_n] at c243; exact c243)
    have hlt : (ip : Int) ≤ tp (rdN n (sc - tE0 n sc ip) fp) (rdP (sc - tE0 n sc ip) fp) := t2.mpr (by omega)
    rw [tE1, if_pos hlt] at k
    refine k _ 1 fp rfl ⟨?_, ?_, ?_⟩ (show (fp : Int) - fp = 0 by omega) ?_ (((hf3.pI (by simp) _).pJ _).pI (by simp) _) (by omega)
    · rw [g_I2, cf_pJ_s]; rfl
    · rw [cf_pI_s, g_J1, cf_pI_k (by decide)]; exact hN.2.2
    · rw [cf_pI_k (by decide), g_J1, cf_pI_k (by decide)]; exact hN.2.2
    · rw [cf_pI_k (by decide), g_J1, cf_pI_s, hpw, hp, zI_n, zI_add]
set_option maxHeartbeats 4000000 in
set_option maxRecDepth 100000 in
theorem l_mod_rk1X {h : cf_H} {P : Option Value → cf_H → Prop} {n fp ip : Nat} {sc H E : Int} (hH : -131 ≤ H ∧ H ≤ 26) (hE1 : E ≤ H) (hE : 0 ≤ E) (hp : h.1 19 20 = zI 0) (k : RP k_mod_reckon 197 [(0, .ref 19), (2, .long (lN n)), (6, .int (zI sc)), (9, .int (nI fp)), (10, .int (nI ip)), (11, .int (zI H))] [] h P) : RP k_mod_reckon 174 [(0, .ref 19), (2, .long (lN n)), (6, .int (zI sc)), (9, .int (nI fp)), (10, .int (nI ip)), (11, .int (zI H))] [] h P := by
  refine rp_aload_n (i := 0) d_mod_reckon_174 rfl rfl ?_
  refine rp_getI d_mod_reckon_175 f_mod_158 rfl ?_
  rw [hp]
  refine rp_iload (i := 11) d_mod_reckon_178 rfl ?_
  refine rp_icmp_le (tgt := 197) d_mod_reckon_180 (by decide) (fun c180 => ?_) (fun c180 => ?_)
  · exact k
  · exact absurd ((zI_le (by unfold zR; omega) (by unfold zR; omega)).mpr (by omega)) c180
set_option maxHeartbeats 4000000 in
set_option maxRecDepth 100000 in
theorem s_mod_reckon {h : cf_H} {P : Option Value → cf_H → Prop} (hR : cf_ok h) {s a b n : Nat} (hs : r_sec h s a b) (hn : n < 10 ^ 16) (hpc : r_ct (h.2.2.2 22) 5 a b ≤ 2) (hip : ¬ r_fd (h.2.2.2 22) 6 a b = b → 1 ≤ r_ip (h.2.2.2 22) a b) {x : Int32} {y : Int64} (hx : x = nI s) (hy : y = lN n) (k : ∀ h' A z, A = (mNum n (mScl (r_ct (h.2.2.2 22) 5 a b) (r_sk (h.2.2.2 22) a b a (b - a))) (r_ip (h.2.2.2 22) a b) (r_pl (h.2.2.2 22) a b) (!decide (r_fd (h.2.2.2 22) 6 a b = b))).1 → rN h' A z (r_pl (h.2.2.2 22) a b) → (A = 0 ∨ (z : Int) - (r_pl (h.2.2.2 22) a b : Nat) = (mNum n (mScl (r_ct (h.2.2.2 22) 5 a b) (r_sk (h.2.2.2 22) a b a (b - a))) (r_ip (h.2.2.2 22) a b) (r_pl (h.2.2.2 22) a b) (!decide (r_fd (h.2.2.2 22) 6 a b = b))).2.1) → h'.1 19 20 = zI (mNum n (mScl (r_ct (h.2.2.2 22) 5 a b) (r_sk (h.2.2.2 22) a b a (b - a))) (r_ip (h.2.2.2 22) a b) (r_pl (h.2.2.2 22) a b) (!decide (r_fd (h.2.2.2 22) 6 a b = b))).2.2 → n_fr h h' → z ≤ 500 → P none h') : RP k_mod_reckon 0 [(0, .ref 19), (1, .int x), (2, .long y)] [] h P := by
  subst hx; subst hy
  obtain ⟨s1, s2, s3, s4, s5⟩ := id hs
  have h16 := l16
  have hsk : r_sk (h.2.2.2 22) a b a (b - a) ≤ b - a := cf_cnt_le _ _ _
  have hfp : r_pl (h.2.2.2 22) a b ≤ 40 := by
    unfold r_pl; split
    · omega
    · have h1 := r_ct_le (h.2.2.2 22) 2 (r_fd (h.2.2.2 22) 3 a b) (r_fd (h.2.2.2 22) 6 a b)
      have h2 := r_fd_le (ty := h.2.2.2 22) (w := 6) s3
      omega
  have hie := r_ie_le (ty := h.2.2.2 22) s3
  have hieg := r_ie_ge (h.2.2.2 22) a b
  have hip2 : r_ip (h.2.2.2 22) a b ≤ 40 := by
    have h1 := r_ct_le (h.2.2.2 22) 2 a (r_ie (h.2.2.2 22) a b)
    unfold r_ip; omega
  have hex := r_fd_le (ty := h.2.2.2 22) (w := 6) s3
  have hexg := r_fd_ge (h.2.2.2 22) 6 a b
  have hpt := r_fd_le (ty := h.2.2.2 22) (w := 3) s3
  have hptg := r_fd_ge (h.2.2.2 22) 3 a b
  have hsc : -130 ≤ (mScl (r_ct (h.2.2.2 22) 5 a b) (r_sk (h.2.2.2 22) a b a (b - a))) ∧ (mScl (r_ct (h.2.2.2 22) 5 a b) (r_sk (h.2.2.2 22) a b a (b - a))) ≤ 10 := by unfold mScl; omega
  refine rp_aload_n (i := 0) d_mod_reckon_0 rfl rfl ?_
  refine rp_getR d_mod_reckon_1 f_mod_25 rfl (hR _ _ _ rfl) ?_
  refine rp_iload_n (i := 1) d_mod_reckon_4 rfl rfl ?_
  refine rp_iaload d_mod_reckon_5 rfl (vp_in_nI (by omega) (by decide)) ?_
  rw [r_s0 hs]
  refine rp_istore (i := 4) d_mod_reckon_6 rfl (Nat.le_of_ble_eq_true rfl) ?_
  refine rp_aload_n (i := 0) d_mod_reckon_8 rfl rfl ?_
  refine rp_getR d_mod_reckon_9 f_mod_25 rfl (hR _ _ _ rfl) ?_
  refine rp_iload_n (i := 1) d_mod_reckon_12 rfl rfl ?_
  refine rp_iconst (v := 1) d_mod_reckon_13 (by decide) ?_
  refine rp_iadd d_mod_reckon_14 ?_
  refine rp_iaload d_mod_reckon_15 rfl (by rw [nI_1]; exact vp_in_nI (by omega) (by decide)) ?_
  rw [r_s1 hs]
  refine rp_istore (i := 5) d_mod_reckon_16 rfl (Nat.le_of_ble_eq_true rfl) ?_
  refine rp_bipush (v := (-6)) d_mod_reckon_18 (by decide) ?_
  refine rp_iconst (v := 2) d_mod_reckon_20 (by decide) ?_
  refine rp_aload_n (i := 0) d_mod_reckon_21 rfl rfl ?_
  refine rp_iload (i := 4) d_mod_reckon_22 rfl ?_
  refine rp_iload (i := 5) d_mod_reckon_24 rfl ?_
  refine rp_iconst (v := 5) d_mod_reckon_26 (by decide) ?_
  refine rp_callV3 d_mod_reckon_27 q_mod_reckon_91 (Or.inl ⟨_, _, _, rfl, rfl⟩) (Nat.le_of_ble_eq_true rfl) (Nat.le_of_ble_eq_true rfl) ?_
  refine s_mod_count hR rfl rfl s3 s4 ?_
  refine rp_imul d_mod_reckon_30 ?_
  refine rp_iadd d_mod_reckon_31 ?_
  rw [show (-6 : Int32) + 2 * nI (r_ct (h.2.2.2 22) 5 a b) = zI (mScl (r_ct (h.2.2.2 22) 5 a b) 0) from by rw [zI_n, show (-6 : Int32) = zI (-6) from by decide, show (2 : Int32) = zI 2 from rfl, zI_mul, zI_add]; congr 1; unfold mScl; omega]
  refine rp_istore (i := 6) d_mod_reckon_32 rfl (Nat.le_of_ble_eq_true rfl) ?_
  refine rp_iload (i := 4) d_mod_reckon_34 rfl ?_
  refine rp_istore (i := 7) d_mod_reckon_36 rfl (Nat.le_of_ble_eq_true rfl) ?_
  refine rp_lv [(0, .ref 19), (1, .int (nI s)), (2, .long (lN n)), (4, .int (nI a)), (5, .int (nI b)), (6, .int (zI (mScl (r_ct (h.2.2.2 22) 5 a b) 0))), (7, .int (nI a))] rfl ?_
  refine l_mod_rk0 hR hs ?_ (b - a) a 0 (by omega) (Nat.le_refl _) (Nat.zero_add _)
  generalize hSC : (mScl (r_ct (h.2.2.2 22) 5 a b) (r_sk (h.2.2.2 22) a b a (b - a))) = sc at k hsc ⊢
  refine rp_aload_n (i := 0) d_mod_reckon_82 rfl rfl ?_
  refine rp_iload_n (i := 1) d_mod_reckon_83 rfl rfl ?_
  refine rp_bipush (v := 6) d_mod_reckon_84 (by decide) ?_
  refine rp_callV2 d_mod_reckon_86 q_mod_reckon_95 (Or.inl ⟨_, _, _, rfl, rfl⟩) (Nat.le_of_ble_eq_true rfl) (Nat.le_of_ble_eq_true rfl) ?_
  refine s_mod_find hR hs rfl ?_
  refine rp_istore (i := 7) d_mod_reckon_89 rfl (Nat.le_of_ble_eq_true rfl) ?_
  refine rp_aload_n (i := 0) d_mod_reckon_91 rfl rfl ?_
  refine rp_iload_n (i := 1) d_mod_reckon_92 rfl rfl ?_
  refine rp_iconst (v := 3) d_mod_reckon_93 (by decide) ?_
  refine rp_callV2 d_mod_reckon_94 q_mod_reckon_95 (Or.inl ⟨_, _, _, rfl, rfl⟩) (Nat.le_of_ble_eq_true rfl) (Nat.le_of_ble_eq_true rfl) ?_
  refine s_mod_find hR hs rfl ?_
  refine rp_istore (i := 8) d_mod_reckon_97 rfl (Nat.le_of_ble_eq_true rfl) ?_
  refine rp_iload (i := 8) d_mod_reckon_99 rfl ?_
  refine rp_iload (i := 7) d_mod_reckon_101 rfl ?_
  refine rp_icmp_ge (tgt := 118) d_mod_reckon_103 (by decide) (fun c103 => ?_) (fun c103 => ?_)
  · refine rp_iconst (v := 0) d_mod_reckon_118 (by decide) ?_
    rw [nI_leI (by omega) (by omega)] at c103
    rw [show (0 : Int32) = nI (r_pl (h.2.2.2 22) a b) from by rw [r_pl, if_pos c103]; rfl]
    generalize hFP : r_pl (h.2.2.2 22) a b = fp at k hfp ⊢
    generalize hIP : r_ip (h.2.2.2 22) a b = ip at k hip hip2 ⊢
    refine rp_istore (i := 9) d_mod_reckon_119 rfl (Nat.le_of_ble_eq_true rfl) ?_
    refine rp_aload_n (i := 0) d_mod_reckon_121 rfl rfl ?_
    refine rp_iconst (v := 0) d_mod_reckon_122 (by decide) ?_
    refine rp_putI d_mod_reckon_123 f_mod_158 rfl rfl rfl ?_
    have g20 : (cf_pI h 19 20 0).1 19 20 = zI 0 := cf_pI_s
    have g2 : (cf_pI h 19 20 0).2 = h.2 := rfl
    have gf : n_fr h (cf_pI h 19 20 0) := (n_fr.rf h).pI (by simp) _
    have gs : r_sec (cf_pI h 19 20 0) s a b := hs
    have gR : cf_ok (cf_pI h 19 20 0) := hR
    generalize cf_pI h 19 20 0 = h1 at g20 g2 gf gs gR ⊢
    refine rp_iload (i := 7) d_mod_reckon_126 rfl ?_
    refine rp_iload (i := 5) d_mod_reckon_128 rfl ?_
    refine rp_icmp_eq (tgt := 139) d_mod_reckon_130 (by decide) (fun c130 => ?_) (fun c130 => ?_)
    · refine rp_aload_n (i := 0) d_mod_reckon_139 rfl rfl ?_
      refine rp_lload_n (i := 2) d_mod_reckon_140 rfl rfl ?_
      refine rp_iload (i := 6) d_mod_reckon_141 rfl ?_
      refine rp_iload (i := 9) d_mod_reckon_143 rfl ?_
      refine rp_callV3 d_mod_reckon_145 q_mod_reckon_161 (Or.inl ⟨_, _, _, rfl, rfl⟩) (Nat.le_of_ble_eq_true rfl) (Nat.le_of_ble_eq_true rfl) ?_
      refine s_mod_round gR hn (by omega) hfp rfl rfl rfl (fun h2 z hN hz hf2 hz2 hpw => ?_)
      refine rp_return d_mod_reckon_148 rfl ?_
      have hf3 : n_fr h h2 := ⟨fun o k e => (hf2.1 o k e).trans (gf.1 o k e), fun o k e => (hf2.2.1 o k e).trans (gf.2.1 o k e), hf2.2.2.trans gf.2.2⟩
      rw [nI_eq (by omega) (by omega)] at c130
      rw [show (!decide (r_fd (h.2.2.2 22) 6 a b = b)) = false from by simp [c130], mNum, cond] at k
      exact k h2 _ z rfl hN (Or.inr hz) (hpw.trans g20) hf3 (by have hz0 := hz; unfold rdP at hz0; split at hz0 <;> omega)
    · refine rp_lload_n (i := 2) d_mod_reckon_133 rfl rfl ?_
      refine rp_lconst (v := 0) d_mod_reckon_134 (by decide) ?_
      refine rp_lcmp d_mod_reckon_135 ?_
      refine rp_if_ne (tgt := 149) d_mod_reckon_136 (by decide) (fun c136 => ?_) (fun c136 => ?_)
      · refine rp_aload_n (i := 0) d_mod_reckon_149 rfl rfl ?_
        refine rp_iload (i := 4) d_mod_reckon_150 rfl ?_
        refine rp_aload_n (i := 0) d_mod_reckon_152 rfl rfl ?_
        refine rp_iload_n (i := 1) d_mod_reckon_153 rfl rfl ?_
        refine rp_callV1 d_mod_reckon_154 q_mod_reckon_99 (Or.inl ⟨_, _, _, rfl, rfl⟩) (Nat.le_of_ble_eq_true rfl) (Nat.le_of_ble_eq_true rfl) ?_
        rw [nI_eq (by omega) (by omega)] at c130
        rw [show (!decide (r_fd (h.2.2.2 22) 6 a b = b)) = true from by simp [c130], mNum, cond] at k
        have hip1 := hip c130
        refine s_mod_integerEnd gR gs rfl ?_
        refine rp_iconst (v := 2) d_mod_reckon_157 (by decide) ?_
        refine rp_callV3 d_mod_reckon_158 q_mod_reckon_91 (Or.inl ⟨_, _, _, rfl, rfl⟩) (Nat.le_of_ble_eq_true rfl) (Nat.le_of_ble_eq_true rfl) ?_
        rw [g2]
        refine s_mod_count gR rfl rfl (by omega) (by omega) ?_
        rw [g2, show r_ct (h.2.2.2 22) 2 a (r_ie (h.2.2.2 22) a b) = ip from hIP]
        refine rp_istore (i := 10) d_mod_reckon_161 rfl (Nat.le_of_ble_eq_true rfl) ?_
        refine rp_lload_n (i := 2) d_mod_reckon_163 rfl rfl ?_
        refine rp_callS1 d_mod_reckon_164 q_mod_reckon_154 (Nat.le_of_ble_eq_true rfl) (Nat.le_of_ble_eq_true rfl) ?_
        have hn0 : ¬ n = 0 := fun w => c136 ((lg_cmp_eq _ _).mpr (by rw [w]; rfl))
        rw [tE, if_neg hn0] at k
        refine s_mod_lengthOf rfl (Nat.lt_trans hn l1618) ?_
        refine rp_iconst (v := 1) d_mod_reckon_167 (by decide) ?_
        refine rp_isub d_mod_reckon_168 ?_
        refine rp_iload (i := 6) d_mod_reckon_169 rfl ?_
        refine rp_iadd d_mod_reckon_171 ?_
        rw [zI_n (ln n), show (1 : Int32) = zI 1 from rfl, zI_sub, zI_add, show (ln n : Int) - 1 + sc = tp n sc from by rw [tp, if_neg hn0]]
        refine rp_istore (i := 11) d_mod_reckon_172 rfl (Nat.le_of_ble_eq_true rfl) ?_
        have hE := tE0_b (ip := ip) hn hsc hip1 hip2
        have hb := tp_b hn hsc
        refine rp_lv [(0, .ref 19), (2, .long (lN n)), (6, .int (zI sc)), (9, .int (nI fp)), (10, .int (nI ip)), (11, .int (zI (tp n sc)))] rfl ?_
        obtain ⟨q, hq⟩ : ∃ q : Int, tE0 n sc ip = q * ip := ⟨_, rfl⟩
        have fin : ∀ h3, h3.1 19 20 = zI (tE0 n sc ip) → n_fr h h3 → RP k_mod_reckon 223 [(0, .ref 19), (2, .long (lN n)), (6, .int (zI sc)), (9, .int (nI fp)), (10, .int (nI ip)), (11, .int (zI (tp n sc)))] [] h3 P := fun h3 e3 f3 => t_mod_rk223 hR hn hn0 hsc hfp hip1 hip2 e3 f3 (fun h9 A9 z9 x1 x2 x3 x4 x5 x6 => k h9 A9 z9 x1 x2 (Or.inr x3) x4 x5 x6)
        by_cases hq0 : q ≤ 0
        · refine l_mod_rk1 (E := tE0 n sc ip) (by omega) hE.2.2.1 hE.2.2.2 hip1 hip2 (fun h3 e3 f3 => l_mod_rk2 (by omega) hE.2.2.1 hE.2.2.2 hip1 hip2 fin 0 (tE0 n sc ip) h3 (by simp) (by omega) e3 f3) (-q).toNat 0 h1 (by rw [hq, Int.toNat_of_nonneg (by omega), Int.neg_mul]; omega) (by omega) g20 gf
        · have hpos : 0 ≤ tE0 n sc ip := by rw [hq]; exact Int.mul_nonneg (by omega) (by omega)
          refine l_mod_rk1X hb hE.2.2.1 hpos g20 ?_
          exact l_mod_rk2 (by omega) hE.2.2.1 hE.2.2.2 hip1 hip2 fin q.toNat 0 h1 (by rw [hq, Int.toNat_of_nonneg (by omega)]; omega) (by omega) g20 gf
      · refine rp_aload_n (i := 0) d_mod_reckon_139 rfl rfl ?_
        refine rp_lload_n (i := 2) d_mod_reckon_140 rfl rfl ?_
        refine rp_iload (i := 6) d_mod_reckon_141 rfl ?_
        refine rp_iload (i := 9) d_mod_reckon_143 rfl ?_
        refine rp_callV3 d_mod_reckon_145 q_mod_reckon_161 (Or.inl ⟨_, _, _, rfl, rfl⟩) (Nat.le_of_ble_eq_true rfl) (Nat.le_of_ble_eq_true rfl) ?_
        refine s_mod_round gR hn (by omega) hfp rfl rfl rfl (fun h2 z hN hz hf2 hz2 hpw => ?_)
        refine rp_return d_mod_reckon_148 rfl ?_
        have hf3 : n_fr h h2 := ⟨fun o k e => (hf2.1 o k e).trans (gf.1 o k e), fun o k e => (hf2.2.1 o k e).trans (gf.2.1 o k e), hf2.2.2.trans gf.2.2⟩
        rw [nI_eq (by omega) (by omega)] at c130
        rw [show (!decide (r_fd (h.2.2.2 22) 6 a b = b)) = true from by simp [c130], mNum, cond] at k
        have hn0 : n = 0 := by rw [lg_cmp_eq, show (0 : Int64) = lN 0 from rfl, pk_lEQ (by omega) (by decide)] at c136; exact c136
        subst hn0
        rw [tE, if_pos rfl] at k
        have hA0 : rdN 0 sc fp = 0 := rdA0 _
        rw [hA0] at hN
        exact k h2 0 z rfl hN (Or.inl rfl) (hpw.trans g20) hf3 (by have hz0 := hz; unfold rdP at hz0; split at hz0 <;> omega)
  · refine rp_aload_n (i := 0) d_mod_reckon_106 rfl rfl ?_
    refine rp_iload (i := 8) d_mod_reckon_107 rfl ?_
    refine rp_iload (i := 7) d_mod_reckon_109 rfl ?_
    refine rp_iconst (v := 2) d_mod_reckon_111 (by decide) ?_
    refine rp_callV3 d_mod_reckon_112 q_mod_reckon_91 (Or.inl ⟨_, _, _, rfl, rfl⟩) (Nat.le_of_ble_eq_true rfl) (Nat.le_of_ble_eq_true rfl) ?_
    rw [nI_leI (by omega) (by omega)] at c103
    refine s_mod_count hR rfl rfl (by omega) (by omega) ?_
    refine rp_goto (tgt := 119) d_mod_reckon_115 (by decide) ?_
    rw [show nI (r_ct (h.2.2.2 22) 2 (r_fd (h.2.2.2 22) 3 a b) (r_fd (h.2.2.2 22) 6 a b)) = nI (r_pl (h.2.2.2 22) a b) from by rw [r_pl, if_neg c103]]
    generalize hFP : r_pl (h.2.2.2 22) a b = fp at k hfp ⊢
    generalize hIP : r_ip (h.2.2.2 22) a b = ip at k hip hip2 ⊢
    refine rp_istore (i := 9) d_mod_reckon_119 rfl (Nat.le_of_ble_eq_true rfl) ?_
    refine rp_aload_n (i := 0) d_mod_reckon_121 rfl rfl ?_
    refine rp_iconst (v := 0) d_mod_reckon_122 (by decide) ?_
    refine rp_putI d_mod_reckon_123 f_mod_158 rfl rfl rfl ?_
    have g20 : (cf_pI h 19 20 0).1 19 20 = zI 0 := cf_pI_s
    have g2 : (cf_pI h 19 20 0).2 = h.2 := rfl
    have gf : n_fr h (cf_pI h 19 20 0) := (n_fr.rf h).pI (by simp) _
    have gs : r_sec (cf_pI h 19 20 0) s a b := hs
    have gR : cf_ok (cf_pI h 19 20 0) := hR
    generalize cf_pI h 19 20 0 = h1 at g20 g2 gf gs gR ⊢
    refine rp_iload (i := 7) d_mod_reckon_126 rfl ?_
    refine rp_iload (i := 5) d_mod_reckon_128 rfl ?_
    refine rp_icmp_eq (tgt := 139) d_mod_reckon_130 (by decide) (fun c130 => ?_) (fun c130 => ?_)
    · refine rp_aload_n (i := 0) d_mod_reckon_139 rfl rfl ?_
      refine rp_lload_n (i := 2) d_mod_reckon_140 rfl rfl ?_
      refine rp_iload (i := 6) d_mod_reckon_141 rfl ?_
      refine rp_iload (i := 9) d_mod_reckon_143 rfl ?_
      refine rp_callV3 d_mod_reckon_145 q_mod_reckon_161 (Or.inl ⟨_, _, _, rfl, rfl⟩) (Nat.le_of_ble_eq_true rfl) (Nat.le_of_ble_eq_true rfl) ?_
      refine s_mod_round gR hn (by omega) hfp rfl rfl rfl (fun h2 z hN hz hf2 hz2 hpw => ?_)
      refine rp_return d_mod_reckon_148 rfl ?_
      have hf3 : n_fr h h2 := ⟨fun o k e => (hf2.1 o k e).trans (gf.1 o k e), fun o k e => (hf2.2.1 o k e).trans (gf.2.1 o k e), hf2.2.2.trans gf.2.2⟩
      rw [nI_eq (by omega) (by omega)] at c130
      rw [show (!decide (r_fd (h.2.2.2 22) 6 a b = b)) = false from by simp [c130], mNum, cond] at k
      exact k h2 _ z rfl hN (Or.inr hz) (hpw.trans g20) hf3 (by have hz0 := hz; unfold rdP at hz0; split at hz0 <;> omega)
    · refine rp_lload_n (i := 2) d_mod_reckon_133 rfl rfl ?_
      refine rp_lconst (v := 0) d_mod_reckon_134 (by decide) ?_
      refine rp_lcmp d_mod_reckon_135 ?_
      refine rp_if_ne (tgt := 149) d_mod_reckon_136 (by decide) (fun c136 => ?_) (fun c136 => ?_)
      · refine rp_aload_n (i := 0) d_mod_reckon_149 rfl rfl ?_
        refine rp_iload (i := 4) d_mod_reckon_150 rfl ?_
        refine rp_aload_n (i := 0) d_mod_reckon_152 rfl rfl ?_
        refine rp_iload_n (i := 1) d_mod_reckon_153 rfl rfl ?_
        refine rp_callV1 d_mod_reckon_154 q_mod_reckon_99 (Or.inl ⟨_, _, _, rfl, rfl⟩) (Nat.le_of_ble_eq_true rfl) (Nat.le_of_ble_eq_true rfl) ?_
        rw [nI_eq (by omega) (by omega)] at c130
        rw [show (!decide (r_fd (h.2.2.2 22) 6 a b = b)) = true from by simp [c130], mNum, cond] at k
        have hip1 := hip c130
        refine s_mod_integerEnd gR gs rfl ?_
        refine rp_iconst (v := 2) d_mod_reckon_157 (by decide) ?_
        refine rp_callV3 d_mod_reckon_158 q_mod_reckon_91 (Or.inl ⟨_, _, _, rfl, rfl⟩) (Nat.le_of_ble_eq_true rfl) (Nat.le_of_ble_eq_true rfl) ?_
        rw [g2]
        refine s_mod_count gR rfl rfl (by omega) (by omega) ?_
        rw [g2, show r_ct (h.2.2.2 22) 2 a (r_ie (h.2.2.2 22) a b) = ip from hIP]
        refine rp_istore (i := 10) d_mod_reckon_161 rfl (Nat.le_of_ble_eq_true rfl) ?_
        refine rp_lload_n (i := 2) d_mod_reckon_163 rfl rfl ?_
        refine rp_callS1 d_mod_reckon_164 q_mod_reckon_154 (Nat.le_of_ble_eq_true rfl) (Nat.le_of_ble_eq_true rfl) ?_
        have hn0 : ¬ n = 0 := fun w => c136 ((lg_cmp_eq _ _).mpr (by rw [w]; rfl))
        rw [tE, if_neg hn0] at k
        refine s_mod_lengthOf rfl (Nat.lt_trans hn l1618) ?_
        refine rp_iconst (v := 1) d_mod_reckon_167 (by decide) ?_
        refine rp_isub d_mod_reckon_168 ?_
        refine rp_iload (i := 6) d_mod_reckon_169 rfl ?_
        refine rp_iadd d_mod_reckon_171 ?_
        rw [zI_n (ln n), show (1 : Int32) = zI 1 from rfl, zI_sub, zI_add, show (ln n : Int) - 1 + sc = tp n sc from by rw [tp, if_neg hn0]]
        refine rp_istore (i := 11) d_mod_reckon_172 rfl (Nat.le_of_ble_eq_true rfl) ?_
        have hE := tE0_b (ip := ip) hn hsc hip1 hip2
        have hb := tp_b hn hsc
        refine rp_lv [(0, .ref 19), (2, .long (lN n)), (6, .int (zI sc)), (9, .int (nI fp)), (10, .int (nI ip)), (11, .int (zI (tp n sc)))] rfl ?_
        obtain ⟨q, hq⟩ : ∃ q : Int, tE0 n sc ip = q * ip := ⟨_, rfl⟩
        have fin : ∀ h3, h3.1 19 20 = zI (tE0 n sc ip) → n_fr h h3 → RP k_mod_reckon 223 [(0, .ref 19), (2, .long (lN n)), (6, .int (zI sc)), (9, .int (nI fp)), (10, .int (nI ip)), (11, .int (zI (tp n sc)))] [] h3 P := fun h3 e3 f3 => t_mod_rk223 hR hn hn0 hsc hfp hip1 hip2 e3 f3 (fun h9 A9 z9 x1 x2 x3 x4 x5 x6 => k h9 A9 z9 x1 x2 (Or.inr x3) x4 x5 x6)
        by_cases hq0 : q ≤ 0
        · refine l_mod_rk1 (E := tE0 n sc ip) (by omega) hE.2.2.1 hE.2.2.2 hip1 hip2 (fun h3 e3 f3 => l_mod_rk2 (by omega) hE.2.2.1 hE.2.2.2 hip1 hip2 fin 0 (tE0 n sc ip) h3 (by simp) (by omega) e3 f3) (-q).toNat 0 h1 (by rw [hq, Int.toNat_of_nonneg (by omega), Int.neg_mul]; omega) (by omega) g20 gf
        · have hpos : 0 ≤ tE0 n sc ip := by rw [hq]; exact Int.mul_nonneg (by omega) (by omega)
          refine l_mod_rk1X hb hE.2.2.1 hpos g20 ?_
          exact l_mod_rk2 (by omega) hE.2.2.1 hE.2.2.2 hip1 hip2 fin q.toNat 0 h1 (by rw [hq, Int.toNat_of_nonneg (by omega)]; omega) (by omega) g20 gf
      · refine rp_aload_n (i := 0) d_mod_reckon_139 rfl rfl ?_
        refine rp_lload_n (i := 2) d_mod_reckon_140 rfl rfl ?_
        refine rp_iload (i := 6) d_mod_reckon_141 rfl ?_
        refine rp_iload (i := 9) d_mod_reckon_143 rfl ?_
        refine rp_callV3 d_mod_reckon_145 q_mod_reckon_161 (Or.inl ⟨_, _, _, rfl, rfl⟩) (Nat.le_of_ble_eq_true rfl) (Nat.le_of_ble_eq_true rfl) ?_
        refine s_mod_round gR hn (by omega) hfp rfl rfl rfl (fun h2 z hN hz hf2 hz2 hpw => ?_)
        refine rp_return d_mod_reckon_148 rfl ?_
        have hf3 : n_fr h h2 := ⟨fun o k e => (hf2.1 o k e).trans (gf.1 o k e), fun o k e => (hf2.2.1 o k e).trans (gf.2.1 o k e), hf2.2.2.trans gf.2.2⟩
        rw [nI_eq (by omega) (by omega)] at c130
        rw [show (!decide (r_fd (h.2.2.2 22) 6 a b = b)) = true from by simp [c130], mNum, cond] at k
        have hn0 : n = 0 := by rw [lg_cmp_eq, show (0 : Int64) = lN 0 from rfl, pk_lEQ (by omega) (by decide)] at c136; exact c136
        subst hn0
        rw [tE, if_pos rfl] at k
        have hA0 : rdN 0 sc fp = 0 := rdA0 _
        rw [hA0] at hN
        exact k h2 0 z rfl hN (Or.inl rfl) (hpw.trans g20) hf3 (by have hz0 := hz; unfold rdP at hz0; split at hz0 <;> omega)
