/-! SHOW of the reference -/
def rF (h0 h : cf_H) : Prop := (∀ o k, ¬ (o = 19 ∧ (k = 14 ∨ k = 15 ∨ k = 18 ∨ k = 19 ∨ k = 20)) → h.1 o k = h0.1 o k) ∧ (∀ o k, ¬ (o = 19 ∧ k = 17) → h.2.1 o k = h0.2.1 o k) ∧ h.2.2.1 = h0.2.2.1 ∧ (∀ o, o ≠ 26 → h.2.2.2 o = h0.2.2.2 o)
theorem rF.v {h0 h h' : cf_H} {L : List Int32} (f : rF h0 h) (w : vT h L h') : rF h0 h' := ⟨fun o k e => (w.2.1.1 o k (by omega)).trans (f.1 o k e), fun o k e => by rw [w.2.1.2.1]; exact f.2.1 o k e, w.2.1.2.2.1.trans f.2.2.1, fun o e => (w.2.1.2.2.2 o e).trans (f.2.2.2 o e)⟩
theorem rF.n {h0 h h' : cf_H} (f : rF h0 h) (g : n_fr h h') : rF h0 h' := ⟨fun o k e => (g.1 o k (by omega)).trans (f.1 o k e), fun o k e => (g.2.1 o k e).trans (f.2.1 o k e), by rw [show h'.2.2.1 = h.2.2.1 from by rw [g.2.2]]; exact f.2.2.1, fun o e => by rw [show h'.2.2.2 = h.2.2.2 from by rw [g.2.2]]; exact f.2.2.2 o e⟩
theorem rF.pI {h0 h : cf_H} (f : rF h0 h) {k : Nat} (hk : k = 14 ∨ k = 15) (v : Int32) : rF h0 (cf_pI h 19 k v) := ⟨fun o j e => by rw [g_I1, if_neg (fun z => e ⟨z.1, by omega⟩)]; exact f.1 o j e, f.2.1, f.2.2.1, f.2.2.2⟩
theorem rF.ok {h0 h : cf_H} (f : rF h0 h) (hR : cf_ok h0) : cf_ok h := fun o k q e => by rw [f.2.2.1]; exact hR o k q e
theorem wI_0 (pw pw' : Int) (pl : Int32) (r : Nat) (f g : Bool) : wI 0 pw pl r f g = wI 0 pw' pl r f g := by
  have et : ∀ p : Int, tp 0 p = -1 := fun p => if_pos rfl
  have ed : ∀ p : Nat, dgt 0 pw p g = dgt 0 pw' p g := fun p => by unfold dgt; rw [dg0, dg0]
  have el : ∀ n, ld 0 pw g r n = ld 0 pw' g r n := by
    intro n
    induction n with
    | zero => rfl
    | succ n ih => rw [ld, ld, ih, ed]
  unfold wI wI2
  rw [et, et, el, ed]
theorem wF_0 (pw pw' : Int) (fp n : Nat) (pl : Int32) : wF 0 pw fp n pl = wF 0 pw' fp n pl := by
  have e : fz 0 pw = fz 0 pw' := funext (fun p => by unfold fz; rw [dg0, dg0])
  unfold wF
  rw [e, dg0, dg0]
theorem rTk_0 {A : Nat} {pw pw' : Int} (h : A = 0 ∨ pw = pw') (e : Nat) (neg gr : Bool) (ty fi se tx : Nat → Int32) (a b : Nat) : rTk A pw e neg gr ty fi se tx a b = rTk A pw' e neg gr ty fi se tx a b := by
  rcases h with h | h
  · subst h
    funext k
    unfold rTk tkN
    rw [wI_0 pw pw', wF_0 pw pw']
  · rw [h]
theorem mD_lt {u : Nat} {c : Bool} (h : mDy u ≤ k_hi c) : u < 2 ^ 63 := by
  have : k_hi c < 2 ^ 24 := by cases c <;> decide
  unfold mDy at h; split at h <;> omega
theorem u_neg {u : Nat} (h : u < 2 ^ 63) : ¬ lN u < 0 := fun z => absurd ((pk_lLT h (by decide)).mp z) (Nat.not_lt_zero _)

abbrev anyC (h : cf_H) (m : Nat) : Bool := x_any (cdF (h.2.2.2 22) (h.2.2.2 25)) 0 m
set_option maxHeartbeats 4000000 in
set_option maxRecDepth 100000 in
theorem t_mod_show186 {h h2 : cf_H} {P : Option Value → cf_H → Prop} {t : Nat} {x : Int64} {L : List Int32} (f2 : rF h h2) (e15 : h2.1 19 15 = nI L.length) (e26 : tx (h2.2.2.2 26) L) (ks : ∀ h', rF h h' → h'.1 19 15 = nI L.length → tx (h'.2.2.2 26) L → h'.1 19 14 = nI t → P (some (.int (nI L.length))) h') : RP k_mod_show 186 [(0, .ref 19), (3, .int (nI t))] [] h2 P := by
  refine rp_aload_n (i := 0) d_mod_show_186 rfl rfl ?_
  refine rp_iload_n (i := 3) d_mod_show_187 rfl rfl ?_
  refine rp_putI d_mod_show_188 f_mod_28 rfl rfl rfl ?_
  refine rp_aload_n (i := 0) d_mod_show_191 rfl rfl ?_
  refine rp_getI d_mod_show_192 f_mod_129 rfl ?_
  rw [cf_pI_k (by decide), e15]
  refine rp_ireturn (ty := .int) d_mod_show_195 rfl rfl ?_
  exact ks _ (f2.pI (Or.inl rfl) _) (by rw [cf_pI_k (by decide)]; exact e15) e26 cf_pI_s
set_option maxHeartbeats 4000000 in
set_option maxRecDepth 100000 in
theorem t_mod_show109n {h h1 : cf_H} {P : Option Value → cf_H → Prop} (hR : cf_ok h1) (f1 : rF h h1) (z15 : h1.1 19 15 = nI 0) (z14 : h1.1 19 14 = -1) {n t A B : Nat} {off : Nat → Nat} {XS XS0 : List r_K} (V : sV h1 t A B off XS XS0 n) {c : Bool} (hc : h1.1 19 9 = cf_b c) {x : Int64} (hx : inR x) (r2 : x < 0 ∨ ∃ u, x = lN u ∧ u ≤ 10 ^ 15 ∧ (k_hi c < mDy u ∨ ((x_any (rDy (h1.2.2.2 22) (h1.2.2.2 23) (h1.2.2.2 24) A B) A (B - A)) = true ∧ mDy u < k_lo c))) (kn : P (some (.int (-1))) h1) : RP k_mod_show 109 [(0, .ref 19), (1, .long x), (3, .int (nI t))] [] h1 P := by
  obtain ⟨v1, v2, v3, v4, v4', v5, v6, v7, v8, v9, v10⟩ := V
  obtain ⟨s1, s2, s3, s4, s5⟩ := id v1
  have w0 : vT h1 [] h1 := ⟨hR, v_fr.rf h1, z15, fun j x hx => absurd hx (by simp)⟩
  have h15 : (10 : Nat) ^ 15 < 2 ^ 60 := by decide
  have nope : ∀ u, x = lN u → mDy u ≤ k_hi c → ¬ ((x_any (rDy (h1.2.2.2 22) (h1.2.2.2 23) (h1.2.2.2 24) A B) A (B - A)) = true → k_lo c ≤ mDy u) := by
    intro u e1 e2 e3
    have ul := mD_lt e2
    rcases r2 with q | ⟨u0, q1, q2, q3⟩
    · rw [e1] at q; exact u_neg ul q
    · have : u = u0 := (pk_lEQ ul (by omega)).mp (e1.symm.trans q1)
      subst this
      rcases q3 with q3 | q3
      · omega
      · have := e3 q3.1; omega
  refine rp_aload_n (i := 0) d_mod_show_109 rfl rfl ?_
  refine rp_iload_n (i := 3) d_mod_show_110 rfl rfl ?_
  refine rp_lload_n (i := 1) d_mod_show_111 rfl rfl ?_
  refine rp_callV2 d_mod_show_112 q_mod_show_250 (Or.inl ⟨_, _, _, rfl, rfl⟩) (Nat.le_of_ble_eq_true rfl) (Nat.le_of_ble_eq_true rfl) ?_
  refine s_mod_moment w0 v1 (y := 0) (m := 0) (dd := 0) hc (v2.lOk v3) v2.r4 hx.2 (fun u e1 e2 e3 e4 => absurd (fun _ => e3) (nope u e1 e4)) (fun u e1 e2 e3 e4 => absurd e4 (nope u e1 e3)) rfl (fun _ => ?_) (fun h2 u q1 q2 q3 q4 _ => absurd q4 (nope u q1 q3))
  refine rp_if_ne (tgt := 186) d_mod_show_115 (by decide) (fun c115 => ?_) (fun c115 => ?_)
  · exact absurd rfl c115
  · refine rp_iconst (v := (-1)) d_mod_show_118 (by decide) ?_
    refine rp_ireturn (ty := .int) d_mod_show_119 rfl rfl ?_
    exact kn
set_option maxHeartbeats 4000000 in
set_option maxRecDepth 100000 in
theorem t_mod_show109s {h h1 : cf_H} {P : Option Value → cf_H → Prop} (hR : cf_ok h1) (f1 : rF h h1) (z15 : h1.1 19 15 = nI 0) (z14 : h1.1 19 14 = -1) {n t A B : Nat} {off : Nat → Nat} {XS XS0 : List r_K} (V : sV h1 t A B off XS XS0 n) {c : Bool} (hc : h1.1 19 9 = cf_b c) {x : Int64} (hx : inR x) {u y m9 dd : Nat} (r1 : x = lN u) (r2 : u ≤ 10 ^ 15) (r3 : mDy u ≤ k_hi c) (r4 : (x_any (rDy (h1.2.2.2 22) (h1.2.2.2 23) (h1.2.2.2 24) A B) A (B - A)) = true → k_lo c ≤ mDy u ∧ q_day c (mDy u) y m9 dd) (hl : (fl (rMt (mDy u) (mSe u) y m9 dd (k_wd c (mDy u)) (h1.2.2.2 22) (h1.2.2.2 23) (h1.2.2.2 24) (h1.2.2.2 21) A B) A (B - A)).length ≤ 256) (ks : ∀ h2, rF h h2 → h2.1 19 15 = nI (fl (rMt (mDy u) (mSe u) y m9 dd (k_wd c (mDy u)) (h1.2.2.2 22) (h1.2.2.2 23) (h1.2.2.2 24) (h1.2.2.2 21) A B) A (B - A)).length → tx (h2.2.2.2 26) (fl (rMt (mDy u) (mSe u) y m9 dd (k_wd c (mDy u)) (h1.2.2.2 22) (h1.2.2.2 23) (h1.2.2.2 24) (h1.2.2.2 21) A B) A (B - A)) → RP k_mod_show 186 [(0, .ref 19), (3, .int (nI t))] [] h2 P) : RP k_mod_show 109 [(0, .ref 19), (1, .long x), (3, .int (nI t))] [] h1 P := by
  obtain ⟨v1, v2, v3, v4, v4', v5, v6, v7, v8, v9, v10⟩ := V
  obtain ⟨s1, s2, s3, s4, s5⟩ := id v1
  have w0 : vT h1 [] h1 := ⟨hR, v_fr.rf h1, z15, fun j x hx => absurd hx (by simp)⟩
  have h15 : (10 : Nat) ^ 15 < 2 ^ 60 := by decide
  have uq : ∀ v, x = lN v → v < 2 ^ 63 → v = u := fun v e1 e2 => (pk_lEQ e2 (by omega)).mp (e1.symm.trans r1)
  refine rp_aload_n (i := 0) d_mod_show_109 rfl rfl ?_
  refine rp_iload_n (i := 3) d_mod_show_110 rfl rfl ?_
  refine rp_lload_n (i := 1) d_mod_show_111 rfl rfl ?_
  refine rp_callV2 d_mod_show_112 q_mod_show_250 (Or.inl ⟨_, _, _, rfl, rfl⟩) (Nat.le_of_ble_eq_true rfl) (Nat.le_of_ble_eq_true rfl) ?_
  refine s_mod_moment w0 v1 (y := y) (m := m9) (dd := dd) hc (v2.lOk v3) v2.r4 hx.2 (fun v e1 e2 e3 e4 => ?_) (fun v e1 e2 e3 e4 => ?_) rfl (fun q => ?_) (fun h2 v q1 q2 q3 q4 q5 => ?_)
  · rw [uq v e1 (mD_lt e4)]; exact (r4 e2).2
  · rw [uq v e1 (mD_lt e3)]; show 0 + _ ≤ 600; omega
  · exfalso
    rcases q with q | ⟨v, q1, q2, q3⟩
    · rw [r1] at q; exact u_neg (by omega) q
    · rw [uq v q1 (by omega)] at q3
      rcases q3 with q3 | q3
      · omega
      · have := (r4 q3.1).1; omega
  rw [uq v q1 (mD_lt q3), List.nil_append] at q5
  refine rp_if_ne (tgt := 186) d_mod_show_115 (by decide) (fun c115 => ?_) (fun c115 => ?_)
  · refine rp_lv [(0, .ref 19), (3, .int (nI t))] rfl ?_
    exact ks h2 (f1.v q5) q5.2.2.1 q5.2.2.2
  · exact absurd c115 (by decide)
set_option maxHeartbeats 4000000 in
set_option maxRecDepth 100000 in
theorem t_mod_show125 {h h1 : cf_H} {P : Option Value → cf_H → Prop} (hR : cf_ok h1) (f1 : rF h h1) (z15 : h1.1 19 15 = nI 0) (z14 : h1.1 19 14 = -1) {n t A B : Nat} {off : Nat → Nat} {XS XS0 : List r_K} (V : sV h1 t A B off XS XS0 n) {c : Bool} (hc : h1.1 19 9 = cf_b c) {x : Int64} (hx : inR x) {mn : Bool} (hl : ((if mn = true then [45] else []) ++ (fl (rTp (h1.2.2.2 22) (h1.2.2.2 23) (h1.2.2.2 24) (h1.2.2.2 21)) A (B - A))).length ≤ 256) (ks : ∀ h2, rF h h2 → h2.1 19 15 = nI ((if mn = true then [45] else []) ++ (fl (rTp (h1.2.2.2 22) (h1.2.2.2 23) (h1.2.2.2 24) (h1.2.2.2 21)) A (B - A))).length → tx (h2.2.2.2 26) ((if mn = true then [45] else []) ++ (fl (rTp (h1.2.2.2 22) (h1.2.2.2 23) (h1.2.2.2 24) (h1.2.2.2 21)) A (B - A))) → RP k_mod_show 186 [(0, .ref 19), (3, .int (nI t))] [] h2 P) : RP k_mod_show 125 [(0, .ref 19), (1, .long x), (3, .int (nI t)), (5, .int (cf_b mn))] [] h1 P := by
  obtain ⟨v1, v2, v3, v4, v4', v5, v6, v7, v8, v9, v10⟩ := V
  obtain ⟨s1, s2, s3, s4, s5⟩ := id v1
  have w0 : vT h1 [] h1 := ⟨hR, v_fr.rf h1, z15, fun j x hx => absurd hx (by simp)⟩
  have h15 : (10 : Nat) ^ 15 < 2 ^ 60 := by decide
  rw [List.length_append] at hl
  refine rp_iload (i := 5) d_mod_show_125 rfl ?_
  refine rp_if_eq (tgt := 136) d_mod_show_127 (by decide) (fun c127 => ?_) (fun c127 => ?_)
  · refine rp_aload_n (i := 0) d_mod_show_136 rfl rfl ?_
    refine rp_iload_n (i := 3) d_mod_show_137 rfl rfl ?_
    refine rp_callV1 d_mod_show_138 q_mod_show_253 (Or.inl ⟨_, _, _, rfl, rfl⟩) (Nat.le_of_ble_eq_true rfl) (Nat.le_of_ble_eq_true rfl) ?_
    rw [if_neg (by rw [cf_b_f c127]; decide), List.nil_append] at ks
    refine s_mod_plain v1 (v2.lOk v3) w0 rfl (by show 0 + _ ≤ 600; omega) (fun h3 w2 => ?_)
    rw [List.nil_append] at w2
    refine rp_goto (tgt := 186) d_mod_show_141 (by decide) ?_
    refine rp_lv [(0, .ref 19), (3, .int (nI t))] rfl ?_
    exact ks h3 (f1.v w2) w2.2.2.1 w2.2.2.2
  · refine rp_aload_n (i := 0) d_mod_show_130 rfl rfl ?_
    refine rp_bipush (v := 45) d_mod_show_131 (by decide) ?_
    refine rp_callV1 d_mod_show_133 q_mod_show_132 (Or.inl ⟨_, _, _, rfl, rfl⟩) (Nat.le_of_ble_eq_true rfl) (Nat.le_of_ble_eq_true rfl) ?_
    refine s_mod_put w0 (by decide) (fun h2 w1 => ?_)
    refine rp_aload_n (i := 0) d_mod_show_136 rfl rfl ?_
    refine rp_iload_n (i := 3) d_mod_show_137 rfl rfl ?_
    refine rp_callV1 d_mod_show_138 q_mod_show_253 (Or.inl ⟨_, _, _, rfl, rfl⟩) (Nat.le_of_ble_eq_true rfl) (Nat.le_of_ble_eq_true rfl) ?_
    rw [if_pos (cf_b_t c127)] at ks
    refine s_mod_plain v1 (v2.lOk v3) w1 rfl (by show 1 + _ ≤ 600; omega) (fun h3 w2 => ?_)
    rw [List.nil_append] at w2
    refine rp_goto (tgt := 186) d_mod_show_141 (by decide) ?_
    refine rp_lv [(0, .ref 19), (3, .int (nI t))] rfl ?_
    exact ks h3 (f1.v w2) w2.2.2.1 w2.2.2.2
set_option maxHeartbeats 4000000 in
set_option maxRecDepth 100000 in
theorem t_mod_show144 {h h1 : cf_H} {P : Option Value → cf_H → Prop} (hR : cf_ok h1) (f1 : rF h h1) (z15 : h1.1 19 15 = nI 0) (z14 : h1.1 19 14 = -1) {n t A B : Nat} {off : Nat → Nat} {XS XS0 : List r_K} (V : sV h1 t A B off XS XS0 n) {c : Bool} (hc : h1.1 19 9 = cf_b c) {x : Int64} (hx : inR x) (hk1 : r_kd (h1.2.2.2 22) A B = 1) {mn : Bool} (hl : ((if mn = true ∧ ¬ (mN (ab x) (r_sk (h1.2.2.2 22) A B A (B - A)) (h1.2.2.2 22) A B).1 = 0 then [45] else []) ++ (fl (rTk (mN (ab x) (r_sk (h1.2.2.2 22) A B A (B - A)) (h1.2.2.2 22) A B).1 (mN (ab x) (r_sk (h1.2.2.2 22) A B A (B - A)) (h1.2.2.2 22) A B).2.1 (mN (ab x) (r_sk (h1.2.2.2 22) A B A (B - A)) (h1.2.2.2 22) A B).2.2.natAbs (decide ((mN (ab x) (r_sk (h1.2.2.2 22) A B A (B - A)) (h1.2.2.2 22) A B).2.2 < 0)) (x_any (r_ag2 (h1.2.2.2 22) A B) A (B - A)) (h1.2.2.2 22) (h1.2.2.2 23) (h1.2.2.2 24) (h1.2.2.2 21) A B) A (B - A))).length ≤ 256) (ks : ∀ h2, rF h h2 → h2.1 19 15 = nI ((if mn = true ∧ ¬ (mN (ab x) (r_sk (h1.2.2.2 22) A B A (B - A)) (h1.2.2.2 22) A B).1 = 0 then [45] else []) ++ (fl (rTk (mN (ab x) (r_sk (h1.2.2.2 22) A B A (B - A)) (h1.2.2.2 22) A B).1 (mN (ab x) (r_sk (h1.2.2.2 22) A B A (B - A)) (h1.2.2.2 22) A B).2.1 (mN (ab x) (r_sk (h1.2.2.2 22) A B A (B - A)) (h1.2.2.2 22) A B).2.2.natAbs (decide ((mN (ab x) (r_sk (h1.2.2.2 22) A B A (B - A)) (h1.2.2.2 22) A B).2.2 < 0)) (x_any (r_ag2 (h1.2.2.2 22) A B) A (B - A)) (h1.2.2.2 22) (h1.2.2.2 23) (h1.2.2.2 24) (h1.2.2.2 21) A B) A (B - A))).length → tx (h2.2.2.2 26) ((if mn = true ∧ ¬ (mN (ab x) (r_sk (h1.2.2.2 22) A B A (B - A)) (h1.2.2.2 22) A B).1 = 0 then [45] else []) ++ (fl (rTk (mN (ab x) (r_sk (h1.2.2.2 22) A B A (B - A)) (h1.2.2.2 22) A B).1 (mN (ab x) (r_sk (h1.2.2.2 22) A B A (B - A)) (h1.2.2.2 22) A B).2.1 (mN (ab x) (r_sk (h1.2.2.2 22) A B A (B - A)) (h1.2.2.2 22) A B).2.2.natAbs (decide ((mN (ab x) (r_sk (h1.2.2.2 22) A B A (B - A)) (h1.2.2.2 22) A B).2.2 < 0)) (x_any (r_ag2 (h1.2.2.2 22) A B) A (B - A)) (h1.2.2.2 22) (h1.2.2.2 23) (h1.2.2.2 24) (h1.2.2.2 21) A B) A (B - A))) → RP k_mod_show 186 [(0, .ref 19), (3, .int (nI t))] [] h2 P) : RP k_mod_show 144 [(0, .ref 19), (1, .long x), (3, .int (nI t)), (5, .int (cf_b mn))] [] h1 P := by
  obtain ⟨v1, v2, v3, v4, v4', v5, v6, v7, v8, v9, v10⟩ := V
  obtain ⟨s1, s2, s3, s4, s5⟩ := id v1
  have w0 : vT h1 [] h1 := ⟨hR, v_fr.rf h1, z15, fun j x hx => absurd hx (by simp)⟩
  have h15 : (10 : Nat) ^ 15 < 2 ^ 60 := by decide
  obtain ⟨hpc, hex⟩ := w3_facts (wm_num v8 hk1) s3 s4
  obtain ⟨ea, el⟩ := ab_s hx
  have h1516 : (10 : Nat) ^ 15 < 10 ^ 16 := by decide
  have h1663 := l16
  have hE99 := mN_E99 (n := ab x) (sc := r_sk (h1.2.2.2 22) A B A (B - A)) (by omega) hpc (fun q => (hex q).2) (fun q => (hex q).1) s3 s4
  have hN16 := (mN_E (n := ab x) (sc := r_sk (h1.2.2.2 22) A B A (B - A)) (ty := h1.2.2.2 22) (a := A) (b := B) (by omega) hpc (by have : r_sk (h1.2.2.2 22) A B A (B - A) ≤ B - A := cf_cnt_le _ _ _; omega) (fun q => (hex q).1) s4 s3).2.2.1
  rw [List.length_append] at hl
  refine rp_aload_n (i := 0) d_mod_show_144 rfl rfl ?_
  refine rp_iload_n (i := 3) d_mod_show_145 rfl rfl ?_
  refine rp_lload_n (i := 1) d_mod_show_146 rfl rfl ?_
  refine rp_lconst (v := 0) d_mod_show_147 (by decide) ?_
  refine rp_lcmp d_mod_show_148 ?_
  refine rp_if_ge (tgt := 157) d_mod_show_149 (by decide) (fun c149 => ?_) (fun c149 => ?_)
  · refine rp_lload_n (i := 1) d_mod_show_157 rfl rfl ?_
    refine rp_callV2 d_mod_show_158 q_mod_show_256 (Or.inl ⟨_, _, _, rfl, rfl⟩) (Nat.le_of_ble_eq_true rfl) (Nat.le_of_ble_eq_true rfl) ?_
    refine s_mod_reckon hR v1 (n := ab x) (by omega) hpc (fun q => (hex q).1) rfl (by rw [if_pos c149] at ea; exact ea) (fun h2 N z q1 q2 q3 q4 q5 q6 => ?_)
    have q1 : N = (mN (ab x) (r_sk (h1.2.2.2 22) A B A (B - A)) (h1.2.2.2 22) A B).1 := q1
    have q3 : N = 0 ∨ (z : Int) - (r_pl (h1.2.2.2 22) A B : Nat) = (mN (ab x) (r_sk (h1.2.2.2 22) A B A (B - A)) (h1.2.2.2 22) A B).2.1 := q3
    have q4 : h2.1 19 20 = zI (mN (ab x) (r_sk (h1.2.2.2 22) A B A (B - A)) (h1.2.2.2 22) A B).2.2 := q4
    have e222 : h2.2.2.2 = h1.2.2.2 := by rw [q5.2.2]
    have hR2 := q5.ok hR
    have hs2 : r_sec h2 t A B := by unfold r_sec; rw [e222]; exact v1
    have w2 : vT h2 [] h2 := ⟨hR2, v_fr.rf h2, (q5.1 19 15 (by omega)).trans z15, fun j x hx => absurd hx (by simp)⟩
    rw [← q1] at hN16
    have er : rTk N ((z : Int) - (r_pl (h1.2.2.2 22) A B : Nat)) (mN (ab x) (r_sk (h1.2.2.2 22) A B A (B - A)) (h1.2.2.2 22) A B).2.2.natAbs (decide ((mN (ab x) (r_sk (h1.2.2.2 22) A B A (B - A)) (h1.2.2.2 22) A B).2.2 < 0)) (x_any (r_ag2 (h1.2.2.2 22) A B) A (B - A)) (h1.2.2.2 22) (h1.2.2.2 23) (h1.2.2.2 24) (h1.2.2.2 21) A B = rTk (mN (ab x) (r_sk (h1.2.2.2 22) A B A (B - A)) (h1.2.2.2 22) A B).1 (mN (ab x) (r_sk (h1.2.2.2 22) A B A (B - A)) (h1.2.2.2 22) A B).2.1 (mN (ab x) (r_sk (h1.2.2.2 22) A B A (B - A)) (h1.2.2.2 22) A B).2.2.natAbs (decide ((mN (ab x) (r_sk (h1.2.2.2 22) A B A (B - A)) (h1.2.2.2 22) A B).2.2 < 0)) (x_any (r_ag2 (h1.2.2.2 22) A B) A (B - A)) (h1.2.2.2 22) (h1.2.2.2 23) (h1.2.2.2 24) (h1.2.2.2 21) A B := by rw [← q1]; exact rTk_0 q3 _ _ _ _ _ _ _ _ _
    have eF := f1.n q5
    refine rp_iload (i := 5) d_mod_show_161 rfl ?_
    refine rp_if_eq (tgt := 181) d_mod_show_163 (by decide) (fun c163 => ?_) (fun c163 => ?_)
    · refine rp_aload_n (i := 0) d_mod_show_181 rfl rfl ?_
      refine rp_iload_n (i := 3) d_mod_show_182 rfl rfl ?_
      refine rp_callV1 d_mod_show_183 q_mod_show_260 (Or.inl ⟨_, _, _, rfl, rfl⟩) (Nat.le_of_ble_eq_true rfl) (Nat.le_of_ble_eq_true rfl) ?_
      rw [if_neg (fun q => by rw [q.1] at c163; exact absurd c163 (by decide)), List.nil_append] at ks
      refine s_mod_number (h0 := h2) hs2 (A := N) (z := z) (E := (mN (ab x) (r_sk (h1.2.2.2 22) A B A (B - A)) (h1.2.2.2 22) A B).2.2) (by rw [e222]; exact q2) hN16 q6 hE99 q4 (by rw [e222]; exact v2.lOk v3) w2 rfl (by rw [e222, er]; show 0 + _ ≤ 600; omega) (fun h3 w3 => ?_)
      rw [e222, er, List.nil_append] at w3
      refine rp_lv [(0, .ref 19), (3, .int (nI t))] rfl ?_
      exact ks h3 (eF.v w3) w3.2.2.1 w3.2.2.2
    · refine rp_aload_n (i := 0) d_mod_show_166 rfl rfl ?_
      refine rp_getJ d_mod_show_167 f_mod_148 rfl ?_
      rw [q2.1]
      refine rp_lconst (v := 0) d_mod_show_170 (by decide) ?_
      refine rp_lcmp d_mod_show_171 ?_
      refine rp_if_eq (tgt := 181) d_mod_show_172 (by decide) (fun c172 => ?_) (fun c172 => ?_)
      · refine rp_aload_n (i := 0) d_mod_show_181 rfl rfl ?_
        refine rp_iload_n (i := 3) d_mod_show_182 rfl rfl ?_
        refine rp_callV1 d_mod_show_183 q_mod_show_260 (Or.inl ⟨_, _, _, rfl, rfl⟩) (Nat.le_of_ble_eq_true rfl) (Nat.le_of_ble_eq_true rfl) ?_
        rw [if_neg (fun q => q.2 (by rw [← q1]; exact (pk_lEQ (by omega) (by decide)).mp ((lg_cmp_eq _ _).mp c172))), List.nil_append] at ks
        refine s_mod_number (h0 := h2) hs2 (A := N) (z := z) (E := (mN (ab x) (r_sk (h1.2.2.2 22) A B A (B - A)) (h1.2.2.2 22) A B).2.2) (by rw [e222]; exact q2) hN16 q6 hE99 q4 (by rw [e222]; exact v2.lOk v3) w2 rfl (by rw [e222, er]; show 0 + _ ≤ 600; omega) (fun h3 w3 => ?_)
        rw [e222, er, List.nil_append] at w3
        refine rp_lv [(0, .ref 19), (3, .int (nI t))] rfl ?_
        exact ks h3 (eF.v w3) w3.2.2.1 w3.2.2.2
      · refine rp_aload_n (i := 0) d_mod_show_175 rfl rfl ?_
        refine rp_bipush (v := 45) d_mod_show_176 (by decide) ?_
        refine rp_callV1 d_mod_show_178 q_mod_show_132 (Or.inl ⟨_, _, _, rfl, rfl⟩) (Nat.le_of_ble_eq_true rfl) (Nat.le_of_ble_eq_true rfl) ?_
        refine s_mod_put w2 (by decide) (fun h4 w1 => ?_)
        refine rp_aload_n (i := 0) d_mod_show_181 rfl rfl ?_
        refine rp_iload_n (i := 3) d_mod_show_182 rfl rfl ?_
        refine rp_callV1 d_mod_show_183 q_mod_show_260 (Or.inl ⟨_, _, _, rfl, rfl⟩) (Nat.le_of_ble_eq_true rfl) (Nat.le_of_ble_eq_true rfl) ?_
        rw [if_pos ⟨cf_b_t c163, fun q => c172 ((lg_cmp_eq _ _).mpr (by rw [← q1] at q; rw [q]; rfl))⟩] at ks
        refine s_mod_number (h0 := h2) hs2 (A := N) (z := z) (E := (mN (ab x) (r_sk (h1.2.2.2 22) A B A (B - A)) (h1.2.2.2 22) A B).2.2) (by rw [e222]; exact q2) hN16 q6 hE99 q4 (by rw [e222]; exact v2.lOk v3) w1 rfl (by rw [e222, er]; show 1 + _ ≤ 600; omega) (fun h3 w3 => ?_)
        rw [e222, er, List.nil_append] at w3
        refine rp_lv [(0, .ref 19), (3, .int (nI t))] rfl ?_
        exact ks h3 (eF.v w3) w3.2.2.1 w3.2.2.2
  · refine rp_lload_n (i := 1) d_mod_show_152 rfl rfl ?_
    refine rp_lneg d_mod_show_153 ?_
    refine rp_goto (tgt := 158) d_mod_show_154 (by decide) ?_
    refine rp_callV2 d_mod_show_158 q_mod_show_256 (Or.inl ⟨_, _, _, rfl, rfl⟩) (Nat.le_of_ble_eq_true rfl) (Nat.le_of_ble_eq_true rfl) ?_
    refine s_mod_reckon hR v1 (n := ab x) (by omega) hpc (fun q => (hex q).1) rfl (by rw [if_neg c149] at ea; exact ea) (fun h2 N z q1 q2 q3 q4 q5 q6 => ?_)
    have q1 : N = (mN (ab x) (r_sk (h1.2.2.2 22) A B A (B - A)) (h1.2.2.2 22) A B).1 := q1
    have q3 : N = 0 ∨ (z : Int) - (r_pl (h1.2.2.2 22) A B : Nat) = (mN (ab x) (r_sk (h1.2.2.2 22) A B A (B - A)) (h1.2.2.2 22) A B).2.1 := q3
    have q4 : h2.1 19 20 = zI (mN (ab x) (r_sk (h1.2.2.2 22) A B A (B - A)) (h1.2.2.2 22) A B).2.2 := q4
    have e222 : h2.2.2.2 = h1.2.2.2 := by rw [q5.2.2]
    have hR2 := q5.ok hR
    have hs2 : r_sec h2 t A B := by unfold r_sec; rw [e222]; exact v1
    have w2 : vT h2 [] h2 := ⟨hR2, v_fr.rf h2, (q5.1 19 15 (by omega)).trans z15, fun j x hx => absurd hx (by simp)⟩
    rw [← q1] at hN16
    have er : rTk N ((z : Int) - (r_pl (h1.2.2.2 22) A B : Nat)) (mN (ab x) (r_sk (h1.2.2.2 22) A B A (B - A)) (h1.2.2.2 22) A B).2.2.natAbs (decide ((mN (ab x) (r_sk (h1.2.2.2 22) A B A (B - A)) (h1.2.2.2 22) A B).2.2 < 0)) (x_any (r_ag2 (h1.2.2.2 22) A B) A (B - A)) (h1.2.2.2 22) (h1.2.2.2 23) (h1.2.2.2 24) (h1.2.2.2 21) A B = rTk (mN (ab x) (r_sk (h1.2.2.2 22) A B A (B - A)) (h1.2.2.2 22) A B).1 (mN (ab x) (r_sk (h1.2.2.2 22) A B A (B - A)) (h1.2.2.2 22) A B).2.1 (mN (ab x) (r_sk (h1.2.2.2 22) A B A (B - A)) (h1.2.2.2 22) A B).2.2.natAbs (decide ((mN (ab x) (r_sk (h1.2.2.2 22) A B A (B - A)) (h1.2.2.2 22) A B).2.2 < 0)) (x_any (r_ag2 (h1.2.2.2 22) A B) A (B - A)) (h1.2.2.2 22) (h1.2.2.2 23) (h1.2.2.2 24) (h1.2.2.2 21) A B := by rw [← q1]; exact rTk_0 q3 _ _ _ _ _ _ _ _ _
    have eF := f1.n q5
    refine rp_iload (i := 5) d_mod_show_161 rfl ?_
    refine rp_if_eq (tgt := 181) d_mod_show_163 (by decide) (fun c163 => ?_) (fun c163 => ?_)
    · refine rp_aload_n (i := 0) d_mod_show_181 rfl rfl ?_
      refine rp_iload_n (i := 3) d_mod_show_182 rfl rfl ?_
      refine rp_callV1 d_mod_show_183 q_mod_show_260 (Or.inl ⟨_, _, _, rfl, rfl⟩) (Nat.le_of_ble_eq_true rfl) (Nat.le_of_ble_eq_true rfl) ?_
      rw [if_neg (fun q => by rw [q.1] at c163; exact absurd c163 (by decide)), List.nil_append] at ks
      refine s_mod_number (h0 := h2) hs2 (A := N) (z := z) (E := (mN (ab x) (r_sk (h1.2.2.2 22) A B A (B - A)) (h1.2.2.2 22) A B).2.2) (by rw [e222]; exact q2) hN16 q6 hE99 q4 (by rw [e222]; exact v2.lOk v3) w2 rfl (by rw [e222, er]; show 0 + _ ≤ 600; omega) (fun h3 w3 => ?_)
      rw [e222, er, List.nil_append] at w3
      refine rp_lv [(0, .ref 19), (3, .int (nI t))] rfl ?_
      exact ks h3 (eF.v w3) w3.2.2.1 w3.2.2.2
    · refine rp_aload_n (i := 0) d_mod_show_166 rfl rfl ?_
      refine rp_getJ d_mod_show_167 f_mod_148 rfl ?_
      rw [q2.1]
      refine rp_lconst (v := 0) d_mod_show_170 (by decide) ?_
      refine rp_lcmp d_mod_show_171 ?_
      refine rp_if_eq (tgt := 181) d_mod_show_172 (by decide) (fun c172 => ?_) (fun c172 => ?_)
      · refine rp_aload_n (i := 0) d_mod_show_181 rfl rfl ?_
        refine rp_iload_n (i := 3) d_mod_show_182 rfl rfl ?_
        refine rp_callV1 d_mod_show_183 q_mod_show_260 (Or.inl ⟨_, _, _, rfl, rfl⟩) (Nat.le_of_ble_eq_true rfl) (Nat.le_of_ble_eq_true rfl) ?_
        rw [if_neg (fun q => q.2 (by rw [← q1]; exact (pk_lEQ (by omega) (by decide)).mp ((lg_cmp_eq _ _).mp c172))), List.nil_append] at ks
        refine s_mod_number (h0 := h2) hs2 (A := N) (z := z) (E := (mN (ab x) (r_sk (h1.2.2.2 22) A B A (B - A)) (h1.2.2.2 22) A B).2.2) (by rw [e222]; exact q2) hN16 q6 hE99 q4 (by rw [e222]; exact v2.lOk v3) w2 rfl (by rw [e222, er]; show 0 + _ ≤ 600; omega) (fun h3 w3 => ?_)
        rw [e222, er, List.nil_append] at w3
        refine rp_lv [(0, .ref 19), (3, .int (nI t))] rfl ?_
        exact ks h3 (eF.v w3) w3.2.2.1 w3.2.2.2
      · refine rp_aload_n (i := 0) d_mod_show_175 rfl rfl ?_
        refine rp_bipush (v := 45) d_mod_show_176 (by decide) ?_
        refine rp_callV1 d_mod_show_178 q_mod_show_132 (Or.inl ⟨_, _, _, rfl, rfl⟩) (Nat.le_of_ble_eq_true rfl) (Nat.le_of_ble_eq_true rfl) ?_
        refine s_mod_put w2 (by decide) (fun h4 w1 => ?_)
        refine rp_aload_n (i := 0) d_mod_show_181 rfl rfl ?_
        refine rp_iload_n (i := 3) d_mod_show_182 rfl rfl ?_
        refine rp_callV1 d_mod_show_183 q_mod_show_260 (Or.inl ⟨_, _, _, rfl, rfl⟩) (Nat.le_of_ble_eq_true rfl) (Nat.le_of_ble_eq_true rfl) ?_
        rw [if_pos ⟨cf_b_t c163, fun q => c172 ((lg_cmp_eq _ _).mpr (by rw [← q1] at q; rw [q]; rfl))⟩] at ks
        refine s_mod_number (h0 := h2) hs2 (A := N) (z := z) (E := (mN (ab x) (r_sk (h1.2.2.2 22) A B A (B - A)) (h1.2.2.2 22) A B).2.2) (by rw [e222]; exact q2) hN16 q6 hE99 q4 (by rw [e222]; exact v2.lOk v3) w1 rfl (by rw [e222, er]; show 1 + _ ≤ 600; omega) (fun h3 w3 => ?_)
        rw [e222, er, List.nil_append] at w3
        refine rp_lv [(0, .ref 19), (3, .int (nI t))] rfl ?_
        exact ks h3 (eF.v w3) w3.2.2.1 w3.2.2.2
set_option maxHeartbeats 4000000 in
set_option maxRecDepth 100000 in
theorem t_mod_show51 {h h1 : cf_H} {P : Option Value → cf_H → Prop} (hR : cf_ok h1) (f1 : rF h h1) (z15 : h1.1 19 15 = nI 0) (z14 : h1.1 19 14 = -1) {m n t A B : Nat} (ht : t < m) (hm3 : m ≤ 3) (hm : h1.1 19 2 = nI m) {off : Nat → Nat} {XS XS0 : List r_K} (V : sV h1 t A B off XS XS0 n) (hV : ∀ t, t < m → ∃ A B off XS0, sV h1 t A B off XS XS0 n) {c : Bool} (hc : h1.1 19 9 = cf_b c) {x : Int64} (hx : inR x) {res : Option (List Int32)} (W : wr (h1.2.2.2 22) (h1.2.2.2 23) (h1.2.2.2 24) (h1.2.2.2 21) c (x_any (cdF (h1.2.2.2 22) (h1.2.2.2 25)) 0 m) t A B x res) (hl : ∀ L, res = some L → L.length ≤ 256) (kn : res = none → ∀ h', rF h h' → h'.1 19 15 = nI 0 → h'.1 19 14 = -1 → P (some (.int (-1))) h') (ks : ∀ L h', res = some L → rF h h' → h'.1 19 15 = nI L.length → tx (h'.2.2.2 26) L → h'.1 19 14 = nI t → P (some (.int (nI L.length))) h') : RP k_mod_show 51 [(0, .ref 19), (1, .long x), (3, .int (nI t))] [] h1 P := by
  refine rp_aload_n (i := 0) d_mod_show_51 rfl rfl ?_
  refine rp_getI d_mod_show_52 f_mod_79 rfl ?_
  rw [hm]
  refine rp_iconst (v := 1) d_mod_show_55 (by decide) ?_
  refine rp_icmp_le (tgt := 75) d_mod_show_56 (by decide) (fun c56 => ?_) (fun c56 => ?_)
  · refine rp_iconst (v := 0) d_mod_show_75 (by decide) ?_
    refine rp_istore (i := 4) d_mod_show_76 rfl (Nat.le_of_ble_eq_true rfl) ?_
    refine rp_lload_n (i := 1) d_mod_show_78 rfl rfl ?_
    refine rp_lconst (v := 0) d_mod_show_79 (by decide) ?_
    refine rp_lcmp d_mod_show_80 ?_
    refine rp_if_ge (tgt := 93) d_mod_show_81 (by decide) (fun c81 => ?_) (fun c81 => ?_)
    · refine rp_iconst (v := 0) d_mod_show_93 (by decide) ?_
      have emn : cf_b (mns (anyC h1 m) t x) = 0 := by unfold mns; rw [decide_eq_false (Int64.not_lt.mpr ((lg_cmp_ge _ _).mp c81))]; rfl
      refine rp_istore (i := 5) d_mod_show_94 rfl (Nat.le_of_ble_eq_true rfl) ?_
      refine rp_aload_n (i := 0) d_mod_show_96 rfl rfl ?_
      refine rp_iload_n (i := 3) d_mod_show_97 rfl rfl ?_
      refine rp_callV1 d_mod_show_98 q_mod_show_102 (Or.inl ⟨_, _, _, rfl, rfl⟩) (Nat.le_of_ble_eq_true rfl) (Nat.le_of_ble_eq_true rfl) ?_
      refine s_mod_kindOf hR V.1 rfl ?_
      refine rp_istore (i := 6) d_mod_show_101 rfl (Nat.le_of_ble_eq_true rfl) ?_
      refine rp_iload (i := 6) d_mod_show_103 rfl ?_
      refine rp_iconst (v := 2) d_mod_show_105 (by decide) ?_
      refine rp_icmp_ne (tgt := 120) d_mod_show_106 (by decide) (fun c106 => ?_) (fun c106 => ?_)
      · refine rp_iload (i := 6) d_mod_show_120 rfl ?_
        refine rp_if_ne (tgt := 144) d_mod_show_122 (by decide) (fun c122 => ?_) (fun c122 => ?_)
        · refine rp_lv [(0, .ref 19), (1, .long x), (3, .int (nI t)), (5, .int (cf_b (mns (anyC h1 m) t x)))] (by rw [emn]; rfl) ?_
          rcases W with ⟨q, _⟩ | ⟨q, _⟩ | ⟨q, r5⟩
          · exact absurd q c106
          · exact absurd q c122
          · exact t_mod_show144 hR f1 z15 z14 V hc hx q (hl _ r5) (fun h2 q1 q2 q3 => t_mod_show186 (x := x) q1 q2 q3 (fun h9 y1 y2 y3 y4 => ks _ h9 r5 y1 y2 y3 y4))
        · refine rp_lv [(0, .ref 19), (1, .long x), (3, .int (nI t)), (5, .int (cf_b (mns (anyC h1 m) t x)))] (by rw [emn]; rfl) ?_
          rcases W with ⟨q, _⟩ | ⟨q, r5⟩ | ⟨q, _⟩
          · exact absurd q c106
          · exact t_mod_show125 hR f1 z15 z14 V hc hx (hl _ r5) (fun h2 q1 q2 q3 => t_mod_show186 (x := x) q1 q2 q3 (fun h9 y1 y2 y3 y4 => ks _ h9 r5 y1 y2 y3 y4))
          · exact absurd (c122.symm.trans q) (by decide)
      · refine rp_lv [(0, .ref 19), (1, .long x), (3, .int (nI t))] rfl ?_
        rcases W with ⟨_, ⟨r1, r2⟩ | ⟨u, y, m9, dd, r1, r2, r3, r4, r5⟩⟩ | ⟨q, _⟩ | ⟨q, _⟩
        · exact t_mod_show109n hR f1 z15 z14 V hc hx r2 (kn r1 h1 f1 z15 z14)
        · exact t_mod_show109s hR f1 z15 z14 V hc hx r1 r2 r3 r4 (hl _ r5) (fun h2 q1 q2 q3 => t_mod_show186 (x := x) q1 q2 q3 (fun h9 y1 y2 y3 y4 => ks _ h9 r5 y1 y2 y3 y4))
        · exact absurd (c106.symm.trans q) (by decide)
        · exact absurd (c106.symm.trans q) (by decide)
    · refine rp_iload (i := 4) d_mod_show_84 rfl ?_
      refine rp_if_ne (tgt := 93) d_mod_show_86 (by decide) (fun c86 => ?_) (fun c86 => ?_)
      · exact absurd rfl c86
      · refine rp_iconst (v := 1) d_mod_show_89 (by decide) ?_
        refine rp_goto (tgt := 94) d_mod_show_90 (by decide) ?_
        have emn : cf_b (mns (anyC h1 m) t x) = 1 := by unfold mns; rw [decide_eq_true (Int64.not_le.mp (fun q => c81 ((lg_cmp_ge _ _).mpr q))), decide_eq_false (show ¬ t = 1 from fun q => by have := (show nI m ≤ (1 : Int32) ↔ m ≤ 1 from nI_leI (b := 1) (by omega) (by decide)).mp c56; omega), Bool.and_false]; rfl
        refine rp_istore (i := 5) d_mod_show_94 rfl (Nat.le_of_ble_eq_true rfl) ?_
        refine rp_aload_n (i := 0) d_mod_show_96 rfl rfl ?_
        refine rp_iload_n (i := 3) d_mod_show_97 rfl rfl ?_
        refine rp_callV1 d_mod_show_98 q_mod_show_102 (Or.inl ⟨_, _, _, rfl, rfl⟩) (Nat.le_of_ble_eq_true rfl) (Nat.le_of_ble_eq_true rfl) ?_
        refine s_mod_kindOf hR V.1 rfl ?_
        refine rp_istore (i := 6) d_mod_show_101 rfl (Nat.le_of_ble_eq_true rfl) ?_
        refine rp_iload (i := 6) d_mod_show_103 rfl ?_
        refine rp_iconst (v := 2) d_mod_show_105 (by decide) ?_
        refine rp_icmp_ne (tgt := 120) d_mod_show_106 (by decide) (fun c106 => ?_) (fun c106 => ?_)
        · refine rp_iload (i := 6) d_mod_show_120 rfl ?_
          refine rp_if_ne (tgt := 144) d_mod_show_122 (by decide) (fun c122 => ?_) (fun c122 => ?_)
          · refine rp_lv [(0, .ref 19), (1, .long x), (3, .int (nI t)), (5, .int (cf_b (mns (anyC h1 m) t x)))] (by rw [emn]; rfl) ?_
            rcases W with ⟨q, _⟩ | ⟨q, _⟩ | ⟨q, r5⟩
            · exact absurd q c106
            · exact absurd q c122
            · exact t_mod_show144 hR f1 z15 z14 V hc hx q (hl _ r5) (fun h2 q1 q2 q3 => t_mod_show186 (x := x) q1 q2 q3 (fun h9 y1 y2 y3 y4 => ks _ h9 r5 y1 y2 y3 y4))
          · refine rp_lv [(0, .ref 19), (1, .long x), (3, .int (nI t)), (5, .int (cf_b (mns (anyC h1 m) t x)))] (by rw [emn]; rfl) ?_
            rcases W with ⟨q, _⟩ | ⟨q, r5⟩ | ⟨q, _⟩
            · exact absurd q c106
            · exact t_mod_show125 hR f1 z15 z14 V hc hx (hl _ r5) (fun h2 q1 q2 q3 => t_mod_show186 (x := x) q1 q2 q3 (fun h9 y1 y2 y3 y4 => ks _ h9 r5 y1 y2 y3 y4))
            · exact absurd (c122.symm.trans q) (by decide)
        · refine rp_lv [(0, .ref 19), (1, .long x), (3, .int (nI t))] rfl ?_
          rcases W with ⟨_, ⟨r1, r2⟩ | ⟨u, y, m9, dd, r1, r2, r3, r4, r5⟩⟩ | ⟨q, _⟩ | ⟨q, _⟩
          · exact t_mod_show109n hR f1 z15 z14 V hc hx r2 (kn r1 h1 f1 z15 z14)
          · exact t_mod_show109s hR f1 z15 z14 V hc hx r1 r2 r3 r4 (hl _ r5) (fun h2 q1 q2 q3 => t_mod_show186 (x := x) q1 q2 q3 (fun h9 y1 y2 y3 y4 => ks _ h9 r5 y1 y2 y3 y4))
          · exact absurd (c106.symm.trans q) (by decide)
          · exact absurd (c106.symm.trans q) (by decide)
  · refine rp_iload_n (i := 3) d_mod_show_59 rfl rfl ?_
    refine rp_iconst (v := 1) d_mod_show_60 (by decide) ?_
    refine rp_icmp_ne (tgt := 75) d_mod_show_61 (by decide) (fun c61 => ?_) (fun c61 => ?_)
    · refine rp_iconst (v := 0) d_mod_show_75 (by decide) ?_
      refine rp_istore (i := 4) d_mod_show_76 rfl (Nat.le_of_ble_eq_true rfl) ?_
      refine rp_lload_n (i := 1) d_mod_show_78 rfl rfl ?_
      refine rp_lconst (v := 0) d_mod_show_79 (by decide) ?_
      refine rp_lcmp d_mod_show_80 ?_
      refine rp_if_ge (tgt := 93) d_mod_show_81 (by decide) (fun c81 => ?_) (fun c81 => ?_)
      · refine rp_iconst (v := 0) d_mod_show_93 (by decide) ?_
        have emn : cf_b (mns (anyC h1 m) t x) = 0 := by unfold mns; rw [decide_eq_false (Int64.not_lt.mpr ((lg_cmp_ge _ _).mp c81))]; rfl
        refine rp_istore (i := 5) d_mod_show_94 rfl (Nat.le_of_ble_eq_true rfl) ?_
        refine rp_aload_n (i := 0) d_mod_show_96 rfl rfl ?_
        refine rp_iload_n (i := 3) d_mod_show_97 rfl rfl ?_
        refine rp_callV1 d_mod_show_98 q_mod_show_102 (Or.inl ⟨_, _, _, rfl, rfl⟩) (Nat.le_of_ble_eq_true rfl) (Nat.le_of_ble_eq_true rfl) ?_
        refine s_mod_kindOf hR V.1 rfl ?_
        refine rp_istore (i := 6) d_mod_show_101 rfl (Nat.le_of_ble_eq_true rfl) ?_
        refine rp_iload (i := 6) d_mod_show_103 rfl ?_
        refine rp_iconst (v := 2) d_mod_show_105 (by decide) ?_
        refine rp_icmp_ne (tgt := 120) d_mod_show_106 (by decide) (fun c106 => ?_) (fun c106 => ?_)
        · refine rp_iload (i := 6) d_mod_show_120 rfl ?_
          refine rp_if_ne (tgt := 144) d_mod_show_122 (by decide) (fun c122 => ?_) (fun c122 => ?_)
          · refine rp_lv [(0, .ref 19), (1, .long x), (3, .int (nI t)), (5, .int (cf_b (mns (anyC h1 m) t x)))] (by rw [emn]; rfl) ?_
            rcases W with ⟨q, _⟩ | ⟨q, _⟩ | ⟨q, r5⟩
            · exact absurd q c106
            · exact absurd q c122
            · exact t_mod_show144 hR f1 z15 z14 V hc hx q (hl _ r5) (fun h2 q1 q2 q3 => t_mod_show186 (x := x) q1 q2 q3 (fun h9 y1 y2 y3 y4 => ks _ h9 r5 y1 y2 y3 y4))
          · refine rp_lv [(0, .ref 19), (1, .long x), (3, .int (nI t)), (5, .int (cf_b (mns (anyC h1 m) t x)))] (by rw [emn]; rfl) ?_
            rcases W with ⟨q, _⟩ | ⟨q, r5⟩ | ⟨q, _⟩
            · exact absurd q c106
            · exact t_mod_show125 hR f1 z15 z14 V hc hx (hl _ r5) (fun h2 q1 q2 q3 => t_mod_show186 (x := x) q1 q2 q3 (fun h9 y1 y2 y3 y4 => ks _ h9 r5 y1 y2 y3 y4))
            · exact absurd (c122.symm.trans q) (by decide)
        · refine rp_lv [(0, .ref 19), (1, .long x), (3, .int (nI t))] rfl ?_
          rcases W with ⟨_, ⟨r1, r2⟩ | ⟨u, y, m9, dd, r1, r2, r3, r4, r5⟩⟩ | ⟨q, _⟩ | ⟨q, _⟩
          · exact t_mod_show109n hR f1 z15 z14 V hc hx r2 (kn r1 h1 f1 z15 z14)
          · exact t_mod_show109s hR f1 z15 z14 V hc hx r1 r2 r3 r4 (hl _ r5) (fun h2 q1 q2 q3 => t_mod_show186 (x := x) q1 q2 q3 (fun h9 y1 y2 y3 y4 => ks _ h9 r5 y1 y2 y3 y4))
          · exact absurd (c106.symm.trans q) (by decide)
          · exact absurd (c106.symm.trans q) (by decide)
      · refine rp_iload (i := 4) d_mod_show_84 rfl ?_
        refine rp_if_ne (tgt := 93) d_mod_show_86 (by decide) (fun c86 => ?_) (fun c86 => ?_)
        · exact absurd rfl c86
        · refine rp_iconst (v := 1) d_mod_show_89 (by decide) ?_
          refine rp_goto (tgt := 94) d_mod_show_90 (by decide) ?_
          have emn : cf_b (mns (anyC h1 m) t x) = 1 := by unfold mns; rw [decide_eq_true (Int64.not_le.mp (fun q => c81 ((lg_cmp_ge _ _).mpr q))), decide_eq_false (show ¬ t = 1 from fun q => c61 (by rw [q]; rfl)), Bool.and_false]; rfl
          refine rp_istore (i := 5) d_mod_show_94 rfl (Nat.le_of_ble_eq_true rfl) ?_
          refine rp_aload_n (i := 0) d_mod_show_96 rfl rfl ?_
          refine rp_iload_n (i := 3) d_mod_show_97 rfl rfl ?_
          refine rp_callV1 d_mod_show_98 q_mod_show_102 (Or.inl ⟨_, _, _, rfl, rfl⟩) (Nat.le_of_ble_eq_true rfl) (Nat.le_of_ble_eq_true rfl) ?_
          refine s_mod_kindOf hR V.1 rfl ?_
          refine rp_istore (i := 6) d_mod_show_101 rfl (Nat.le_of_ble_eq_true rfl) ?_
          refine rp_iload (i := 6) d_mod_show_103 rfl ?_
          refine rp_iconst (v := 2) d_mod_show_105 (by decide) ?_
          refine rp_icmp_ne (tgt := 120) d_mod_show_106 (by decide) (fun c106 => ?_) (fun c106 => ?_)
          · refine rp_iload (i := 6) d_mod_show_120 rfl ?_
            refine rp_if_ne (tgt := 144) d_mod_show_122 (by decide) (fun c122 => ?_) (fun c122 => ?_)
            · refine rp_lv [(0, .ref 19), (1, .long x), (3, .int (nI t)), (5, .int (cf_b (mns (anyC h1 m) t x)))] (by rw [emn]; rfl) ?_
              rcases W with ⟨q, _⟩ | ⟨q, _⟩ | ⟨q, r5⟩
              · exact absurd q c106
              · exact absurd q c122
              · exact t_mod_show144 hR f1 z15 z14 V hc hx q (hl _ r5) (fun h2 q1 q2 q3 => t_mod_show186 (x := x) q1 q2 q3 (fun h9 y1 y2 y3 y4 => ks _ h9 r5 y1 y2 y3 y4))
            · refine rp_lv [(0, .ref 19), (1, .long x), (3, .int (nI t)), (5, .int (cf_b (mns (anyC h1 m) t x)))] (by rw [emn]; rfl) ?_
              rcases W with ⟨q, _⟩ | ⟨q, r5⟩ | ⟨q, _⟩
              · exact absurd q c106
              · exact t_mod_show125 hR f1 z15 z14 V hc hx (hl _ r5) (fun h2 q1 q2 q3 => t_mod_show186 (x := x) q1 q2 q3 (fun h9 y1 y2 y3 y4 => ks _ h9 r5 y1 y2 y3 y4))
              · exact absurd (c122.symm.trans q) (by decide)
          · refine rp_lv [(0, .ref 19), (1, .long x), (3, .int (nI t))] rfl ?_
            rcases W with ⟨_, ⟨r1, r2⟩ | ⟨u, y, m9, dd, r1, r2, r3, r4, r5⟩⟩ | ⟨q, _⟩ | ⟨q, _⟩
            · exact t_mod_show109n hR f1 z15 z14 V hc hx r2 (kn r1 h1 f1 z15 z14)
            · exact t_mod_show109s hR f1 z15 z14 V hc hx r1 r2 r3 r4 (hl _ r5) (fun h2 q1 q2 q3 => t_mod_show186 (x := x) q1 q2 q3 (fun h9 y1 y2 y3 y4 => ks _ h9 r5 y1 y2 y3 y4))
            · exact absurd (c106.symm.trans q) (by decide)
            · exact absurd (c106.symm.trans q) (by decide)
    · refine rp_aload_n (i := 0) d_mod_show_64 rfl rfl ?_
      refine rp_callV0 d_mod_show_65 q_mod_show_121 (Or.inl ⟨_, _, _, rfl, rfl⟩) (Nat.le_of_ble_eq_true rfl) (Nat.le_of_ble_eq_true rfl) ?_
      refine s_mod_anyCondition hR hm hm3 (cd := cdF (h1.2.2.2 22) (h1.2.2.2 25)) (fun t ht => by obtain ⟨A, B, off, XS0, V⟩ := hV t ht; exact ⟨A, B, V.1, by unfold cdF; rw [V.1.A.1, V.1.A.2]⟩) ?_
      refine rp_if_ne (tgt := 75) d_mod_show_68 (by decide) (fun c68 => ?_) (fun c68 => ?_)
      · refine rp_iconst (v := 0) d_mod_show_75 (by decide) ?_
        refine rp_istore (i := 4) d_mod_show_76 rfl (Nat.le_of_ble_eq_true rfl) ?_
        refine rp_lload_n (i := 1) d_mod_show_78 rfl rfl ?_
        refine rp_lconst (v := 0) d_mod_show_79 (by decide) ?_
        refine rp_lcmp d_mod_show_80 ?_
        refine rp_if_ge (tgt := 93) d_mod_show_81 (by decide) (fun c81 => ?_) (fun c81 => ?_)
        · refine rp_iconst (v := 0) d_mod_show_93 (by decide) ?_
          have emn : cf_b (mns (anyC h1 m) t x) = 0 := by unfold mns; rw [decide_eq_false (Int64.not_lt.mpr ((lg_cmp_ge _ _).mp c81))]; rfl
          refine rp_istore (i := 5) d_mod_show_94 rfl (Nat.le_of_ble_eq_true rfl) ?_
          refine rp_aload_n (i := 0) d_mod_show_96 rfl rfl ?_
          refine rp_iload_n (i := 3) d_mod_show_97 rfl rfl ?_
          refine rp_callV1 d_mod_show_98 q_mod_show_102 (Or.inl ⟨_, _, _, rfl, rfl⟩) (Nat.le_of_ble_eq_true rfl) (Nat.le_of_ble_eq_true rfl) ?_
          refine s_mod_kindOf hR V.1 rfl ?_
          refine rp_istore (i := 6) d_mod_show_101 rfl (Nat.le_of_ble_eq_true rfl) ?_
          refine rp_iload (i := 6) d_mod_show_103 rfl ?_
          refine rp_iconst (v := 2) d_mod_show_105 (by decide) ?_
          refine rp_icmp_ne (tgt := 120) d_mod_show_106 (by decide) (fun c106 => ?_) (fun c106 => ?_)
          · refine rp_iload (i := 6) d_mod_show_120 rfl ?_
            refine rp_if_ne (tgt := 144) d_mod_show_122 (by decide) (fun c122 => ?_) (fun c122 => ?_)
            · refine rp_lv [(0, .ref 19), (1, .long x), (3, .int (nI t)), (5, .int (cf_b (mns (anyC h1 m) t x)))] (by rw [emn]; rfl) ?_
              rcases W with ⟨q, _⟩ | ⟨q, _⟩ | ⟨q, r5⟩
              · exact absurd q c106
              · exact absurd q c122
              · exact t_mod_show144 hR f1 z15 z14 V hc hx q (hl _ r5) (fun h2 q1 q2 q3 => t_mod_show186 (x := x) q1 q2 q3 (fun h9 y1 y2 y3 y4 => ks _ h9 r5 y1 y2 y3 y4))
            · refine rp_lv [(0, .ref 19), (1, .long x), (3, .int (nI t)), (5, .int (cf_b (mns (anyC h1 m) t x)))] (by rw [emn]; rfl) ?_
              rcases W with ⟨q, _⟩ | ⟨q, r5⟩ | ⟨q, _⟩
              · exact absurd q c106
              · exact t_mod_show125 hR f1 z15 z14 V hc hx (hl _ r5) (fun h2 q1 q2 q3 => t_mod_show186 (x := x) q1 q2 q3 (fun h9 y1 y2 y3 y4 => ks _ h9 r5 y1 y2 y3 y4))
              · exact absurd (c122.symm.trans q) (by decide)
          · refine rp_lv [(0, .ref 19), (1, .long x), (3, .int (nI t))] rfl ?_
            rcases W with ⟨_, ⟨r1, r2⟩ | ⟨u, y, m9, dd, r1, r2, r3, r4, r5⟩⟩ | ⟨q, _⟩ | ⟨q, _⟩
            · exact t_mod_show109n hR f1 z15 z14 V hc hx r2 (kn r1 h1 f1 z15 z14)
            · exact t_mod_show109s hR f1 z15 z14 V hc hx r1 r2 r3 r4 (hl _ r5) (fun h2 q1 q2 q3 => t_mod_show186 (x := x) q1 q2 q3 (fun h9 y1 y2 y3 y4 => ks _ h9 r5 y1 y2 y3 y4))
            · exact absurd (c106.symm.trans q) (by decide)
            · exact absurd (c106.symm.trans q) (by decide)
        · refine rp_iload (i := 4) d_mod_show_84 rfl ?_
          refine rp_if_ne (tgt := 93) d_mod_show_86 (by decide) (fun c86 => ?_) (fun c86 => ?_)
          · exact absurd rfl c86
          · refine rp_iconst (v := 1) d_mod_show_89 (by decide) ?_
            refine rp_goto (tgt := 94) d_mod_show_90 (by decide) ?_
            have emn : cf_b (mns (anyC h1 m) t x) = 1 := by unfold mns; rw [decide_eq_true (Int64.not_le.mp (fun q => c81 ((lg_cmp_ge _ _).mpr q))), show anyC h1 m = true from cf_b_t c68]; rfl
            refine rp_istore (i := 5) d_mod_show_94 rfl (Nat.le_of_ble_eq_true rfl) ?_
            refine rp_aload_n (i := 0) d_mod_show_96 rfl rfl ?_
            refine rp_iload_n (i := 3) d_mod_show_97 rfl rfl ?_
            refine rp_callV1 d_mod_show_98 q_mod_show_102 (Or.inl ⟨_, _, _, rfl, rfl⟩) (Nat.le_of_ble_eq_true rfl) (Nat.le_of_ble_eq_true rfl) ?_
            refine s_mod_kindOf hR V.1 rfl ?_
            refine rp_istore (i := 6) d_mod_show_101 rfl (Nat.le_of_ble_eq_true rfl) ?_
            refine rp_iload (i := 6) d_mod_show_103 rfl ?_
            refine rp_iconst (v := 2) d_mod_show_105 (by decide) ?_
            refine rp_icmp_ne (tgt := 120) d_mod_show_106 (by decide) (fun c106 => ?_) (fun c106 => ?_)
            · refine rp_iload (i := 6) d_mod_show_120 rfl ?_
              refine rp_if_ne (tgt := 144) d_mod_show_122 (by decide) (fun c122 => ?_) (fun c122 => ?_)
              · refine rp_lv [(0, .ref 19), (1, .long x), (3, .int (nI t)), (5, .int (cf_b (mns (anyC h1 m) t x)))] (by rw [emn]; rfl) ?_
                rcases W with ⟨q, _⟩ | ⟨q, _⟩ | ⟨q, r5⟩
                · exact absurd q c106
                · exact absurd q c122
                · exact t_mod_show144 hR f1 z15 z14 V hc hx q (hl _ r5) (fun h2 q1 q2 q3 => t_mod_show186 (x := x) q1 q2 q3 (fun h9 y1 y2 y3 y4 => ks _ h9 r5 y1 y2 y3 y4))
              · refine rp_lv [(0, .ref 19), (1, .long x), (3, .int (nI t)), (5, .int (cf_b (mns (anyC h1 m) t x)))] (by rw [emn]; rfl) ?_
                rcases W with ⟨q, _⟩ | ⟨q, r5⟩ | ⟨q, _⟩
                · exact absurd q c106
                · exact t_mod_show125 hR f1 z15 z14 V hc hx (hl _ r5) (fun h2 q1 q2 q3 => t_mod_show186 (x := x) q1 q2 q3 (fun h9 y1 y2 y3 y4 => ks _ h9 r5 y1 y2 y3 y4))
                · exact absurd (c122.symm.trans q) (by decide)
            · refine rp_lv [(0, .ref 19), (1, .long x), (3, .int (nI t))] rfl ?_
              rcases W with ⟨_, ⟨r1, r2⟩ | ⟨u, y, m9, dd, r1, r2, r3, r4, r5⟩⟩ | ⟨q, _⟩ | ⟨q, _⟩
              · exact t_mod_show109n hR f1 z15 z14 V hc hx r2 (kn r1 h1 f1 z15 z14)
              · exact t_mod_show109s hR f1 z15 z14 V hc hx r1 r2 r3 r4 (hl _ r5) (fun h2 q1 q2 q3 => t_mod_show186 (x := x) q1 q2 q3 (fun h9 y1 y2 y3 y4 => ks _ h9 r5 y1 y2 y3 y4))
              · exact absurd (c106.symm.trans q) (by decide)
              · exact absurd (c106.symm.trans q) (by decide)
      · refine rp_iconst (v := 1) d_mod_show_71 (by decide) ?_
        refine rp_goto (tgt := 76) d_mod_show_72 (by decide) ?_
        refine rp_istore (i := 4) d_mod_show_76 rfl (Nat.le_of_ble_eq_true rfl) ?_
        refine rp_lload_n (i := 1) d_mod_show_78 rfl rfl ?_
        refine rp_lconst (v := 0) d_mod_show_79 (by decide) ?_
        refine rp_lcmp d_mod_show_80 ?_
        refine rp_if_ge (tgt := 93) d_mod_show_81 (by decide) (fun c81 => ?_) (fun c81 => ?_)
        · refine rp_iconst (v := 0) d_mod_show_93 (by decide) ?_
          have emn : cf_b (mns (anyC h1 m) t x) = 0 := by unfold mns; rw [decide_eq_false (Int64.not_lt.mpr ((lg_cmp_ge _ _).mp c81))]; rfl
          refine rp_istore (i := 5) d_mod_show_94 rfl (Nat.le_of_ble_eq_true rfl) ?_
          refine rp_aload_n (i := 0) d_mod_show_96 rfl rfl ?_
          refine rp_iload_n (i := 3) d_mod_show_97 rfl rfl ?_
          refine rp_callV1 d_mod_show_98 q_mod_show_102 (Or.inl ⟨_, _, _, rfl, rfl⟩) (Nat.le_of_ble_eq_true rfl) (Nat.le_of_ble_eq_true rfl) ?_
          refine s_mod_kindOf hR V.1 rfl ?_
          refine rp_istore (i := 6) d_mod_show_101 rfl (Nat.le_of_ble_eq_true rfl) ?_
          refine rp_iload (i := 6) d_mod_show_103 rfl ?_
          refine rp_iconst (v := 2) d_mod_show_105 (by decide) ?_
          refine rp_icmp_ne (tgt := 120) d_mod_show_106 (by decide) (fun c106 => ?_) (fun c106 => ?_)
          · refine rp_iload (i := 6) d_mod_show_120 rfl ?_
            refine rp_if_ne (tgt := 144) d_mod_show_122 (by decide) (fun c122 => ?_) (fun c122 => ?_)
            · refine rp_lv [(0, .ref 19), (1, .long x), (3, .int (nI t)), (5, .int (cf_b (mns (anyC h1 m) t x)))] (by rw [emn]; rfl) ?_
              rcases W with ⟨q, _⟩ | ⟨q, _⟩ | ⟨q, r5⟩
              · exact absurd q c106
              · exact absurd q c122
              · exact t_mod_show144 hR f1 z15 z14 V hc hx q (hl _ r5) (fun h2 q1 q2 q3 => t_mod_show186 (x := x) q1 q2 q3 (fun h9 y1 y2 y3 y4 => ks _ h9 r5 y1 y2 y3 y4))
            · refine rp_lv [(0, .ref 19), (1, .long x), (3, .int (nI t)), (5, .int (cf_b (mns (anyC h1 m) t x)))] (by rw [emn]; rfl) ?_
              rcases W with ⟨q, _⟩ | ⟨q, r5⟩ | ⟨q, _⟩
              · exact absurd q c106
              · exact t_mod_show125 hR f1 z15 z14 V hc hx (hl _ r5) (fun h2 q1 q2 q3 => t_mod_show186 (x := x) q1 q2 q3 (fun h9 y1 y2 y3 y4 => ks _ h9 r5 y1 y2 y3 y4))
              · exact absurd (c122.symm.trans q) (by decide)
          · refine rp_lv [(0, .ref 19), (1, .long x), (3, .int (nI t))] rfl ?_
            rcases W with ⟨_, ⟨r1, r2⟩ | ⟨u, y, m9, dd, r1, r2, r3, r4, r5⟩⟩ | ⟨q, _⟩ | ⟨q, _⟩
            · exact t_mod_show109n hR f1 z15 z14 V hc hx r2 (kn r1 h1 f1 z15 z14)
            · exact t_mod_show109s hR f1 z15 z14 V hc hx r1 r2 r3 r4 (hl _ r5) (fun h2 q1 q2 q3 => t_mod_show186 (x := x) q1 q2 q3 (fun h9 y1 y2 y3 y4 => ks _ h9 r5 y1 y2 y3 y4))
            · exact absurd (c106.symm.trans q) (by decide)
            · exact absurd (c106.symm.trans q) (by decide)
        · refine rp_iload (i := 4) d_mod_show_84 rfl ?_
          refine rp_if_ne (tgt := 93) d_mod_show_86 (by decide) (fun c86 => ?_) (fun c86 => ?_)
          · refine rp_iconst (v := 0) d_mod_show_93 (by decide) ?_
            have emn : cf_b (mns (anyC h1 m) t x) = 0 := by unfold mns; rw [decide_eq_true (Int64.not_le.mp (fun q => c81 ((lg_cmp_ge _ _).mpr q))), show anyC h1 m = false from cf_b_f c68, decide_eq_true (show t = 1 from (nI_eq (b := 1) (by omega) (by decide)).mp c61)]; rfl
            refine rp_istore (i := 5) d_mod_show_94 rfl (Nat.le_of_ble_eq_true rfl) ?_
            refine rp_aload_n (i := 0) d_mod_show_96 rfl rfl ?_
            refine rp_iload_n (i := 3) d_mod_show_97 rfl rfl ?_
            refine rp_callV1 d_mod_show_98 q_mod_show_102 (Or.inl ⟨_, _, _, rfl, rfl⟩) (Nat.le_of_ble_eq_true rfl) (Nat.le_of_ble_eq_true rfl) ?_
            refine s_mod_kindOf hR V.1 rfl ?_
            refine rp_istore (i := 6) d_mod_show_101 rfl (Nat.le_of_ble_eq_true rfl) ?_
            refine rp_iload (i := 6) d_mod_show_103 rfl ?_
            refine rp_iconst (v := 2) d_mod_show_105 (by decide) ?_
            refine rp_icmp_ne (tgt := 120) d_mod_show_106 (by decide) (fun c106 => ?_) (fun c106 => ?_)
            · refine rp_iload (i := 6) d_mod_show_120 rfl ?_
              refine rp_if_ne (tgt := 144) d_mod_show_122 (by decide) (fun c122 => ?_) (fun c122 => ?_)
              · refine rp_lv [(0, .ref 19), (1, .long x), (3, .int (nI t)), (5, .int (cf_b (mns (anyC h1 m) t x)))] (by rw [emn]; rfl) ?_
                rcases W with ⟨q, _⟩ | ⟨q, _⟩ | ⟨q, r5⟩
                · exact absurd q c106
                · exact absurd q c122
                · exact t_mod_show144 hR f1 z15 z14 V hc hx q (hl _ r5) (fun h2 q1 q2 q3 => t_mod_show186 (x := x) q1 q2 q3 (fun h9 y1 y2 y3 y4 => ks _ h9 r5 y1 y2 y3 y4))
              · refine rp_lv [(0, .ref 19), (1, .long x), (3, .int (nI t)), (5, .int (cf_b (mns (anyC h1 m) t x)))] (by rw [emn]; rfl) ?_
                rcases W with ⟨q, _⟩ | ⟨q, r5⟩ | ⟨q, _⟩
                · exact absurd q c106
                · exact t_mod_show125 hR f1 z15 z14 V hc hx (hl _ r5) (fun h2 q1 q2 q3 => t_mod_show186 (x := x) q1 q2 q3 (fun h9 y1 y2 y3 y4 => ks _ h9 r5 y1 y2 y3 y4))
                · exact absurd (c122.symm.trans q) (by decide)
            · refine rp_lv [(0, .ref 19), (1, .long x), (3, .int (nI t))] rfl ?_
              rcases W with ⟨_, ⟨r1, r2⟩ | ⟨u, y, m9, dd, r1, r2, r3, r4, r5⟩⟩ | ⟨q, _⟩ | ⟨q, _⟩
              · exact t_mod_show109n hR f1 z15 z14 V hc hx r2 (kn r1 h1 f1 z15 z14)
              · exact t_mod_show109s hR f1 z15 z14 V hc hx r1 r2 r3 r4 (hl _ r5) (fun h2 q1 q2 q3 => t_mod_show186 (x := x) q1 q2 q3 (fun h9 y1 y2 y3 y4 => ks _ h9 r5 y1 y2 y3 y4))
              · exact absurd (c106.symm.trans q) (by decide)
              · exact absurd (c106.symm.trans q) (by decide)
          · exact absurd c86 (by decide)
set_option maxHeartbeats 4000000 in
set_option maxRecDepth 100000 in
theorem s_mod_show {h : cf_H} {P : Option Value → cf_H → Prop} (hR : cf_ok h) {m n : Nat} {XS : List r_K} (hm : h.1 19 2 = nI m) (hm3 : m ≤ 3) (hS : ∀ t, t < m → ∃ A B off XS0, sV h t A B off XS XS0 n) {c : Bool} (hc : h.1 19 9 = cf_b c) {x : Int64} {r : Int32} {L : List Int32} {sb : Int32} (R : shR (h.2.2.2 22) (h.2.2.2 23) (h.2.2.2 24) (h.2.2.2 21) (h.2.2.2 25) c m x r L sb) (hl : L.length ≤ 256) (k : ∀ h', rF h h' → h'.1 19 15 = nI L.length → tx (h'.2.2.2 26) L → h'.1 19 14 = sb → P (some (.int r)) h') : RP k_mod_show 0 [(0, .ref 19), (1, .long x)] [] h P := by
  refine rp_aload_n (i := 0) d_mod_show_0 rfl rfl ?_
  refine rp_iconst (v := 0) d_mod_show_1 (by decide) ?_
  refine rp_putI d_mod_show_2 f_mod_129 rfl rfl rfl ?_
  refine rp_aload_n (i := 0) d_mod_show_5 rfl rfl ?_
  refine rp_iconst (v := (-1)) d_mod_show_6 (by decide) ?_
  refine rp_putI d_mod_show_7 f_mod_28 rfl rfl rfl ?_
  have f1 : rF h (cf_pI (cf_pI h 19 15 0) 19 14 (-1)) := (rF.pI (k := 15) ⟨fun _ _ _ => rfl, fun _ _ _ => rfl, rfl, fun _ _ => rfl⟩ (Or.inr rfl) 0).pI (Or.inl rfl) (-1)
  have z15 : (cf_pI (cf_pI h 19 15 0) 19 14 (-1)).1 19 15 = nI 0 := by rw [cf_pI_k (by decide), cf_pI_s]; rfl
  have z14 : (cf_pI (cf_pI h 19 15 0) 19 14 (-1)).1 19 14 = -1 := cf_pI_s
  have hm1 : (cf_pI (cf_pI h 19 15 0) 19 14 (-1)).1 19 2 = nI m := by rw [cf_pI_k (by decide), cf_pI_k (by decide)]; exact hm
  have hc1 : (cf_pI (cf_pI h 19 15 0) 19 14 (-1)).1 19 9 = cf_b c := by rw [cf_pI_k (by decide), cf_pI_k (by decide)]; exact hc
  have hR1 : cf_ok (cf_pI (cf_pI h 19 15 0) 19 14 (-1)) := hR
  have ga : (cf_pI (cf_pI h 19 15 0) 19 14 (-1)).2.2.2 = h.2.2.2 := rfl
  have hV : ∀ t, t < m → ∃ A B off XS0, sV (cf_pI (cf_pI h 19 15 0) 19 14 (-1)) t A B off XS XS0 n := fun t ht => by obtain ⟨A, B, off, XS0, V⟩ := hS t ht; exact ⟨A, B, off, XS0, V.fr (fun k => by rw [cf_pI_o (by omega), cf_pI_o (by omega)]) (fun k => rfl) (fun o _ _ => rfl)⟩
  rw [← ga] at R
  generalize (cf_pI (cf_pI h 19 15 0) 19 14 (-1)) = h1 at f1 z15 z14 hm1 hc1 hR1 hV R ⊢
  clear ga
  refine rp_aload_n (i := 0) d_mod_show_10 rfl rfl ?_
  refine rp_getI d_mod_show_11 f_mod_79 rfl ?_
  rw [hm1]
  refine rp_if_ne (tgt := 20) d_mod_show_14 (by decide) (fun c14 => ?_) (fun c14 => ?_)
  · refine rp_lload_n (i := 1) d_mod_show_20 rfl rfl ?_
    refine rp_ldc2 (v := (-1000000000000000)) d_mod_show_21 l_mod_243 ?_
    refine rp_lcmp d_mod_show_24 ?_
    refine rp_if_lt (tgt := 36) d_mod_show_25 (by decide) (fun c25 => ?_) (fun c25 => ?_)
    · refine rp_bipush (v := (-3)) d_mod_show_36 (by decide) ?_
      refine rp_ireturn (ty := .int) d_mod_show_38 rfl rfl ?_
      have nx : ¬ inR x := fun z => (inR_iff.mp z).1 ((lg_cmp_lt _ _).mp c25)
      rcases R with ⟨q, _⟩ | ⟨_, _, e1, e2, e3⟩ | ⟨_, q, _⟩ | ⟨_, q, _⟩
      · exact absurd (by rw [q]; rfl) c14
      · subst e1; subst e2; subst e3
        exact k h1 f1 z15 (fun j x hx => absurd hx (by simp)) z14
      · exact absurd q nx
      · exact absurd q nx
    · refine rp_lload_n (i := 1) d_mod_show_28 rfl rfl ?_
      refine rp_ldc2 (v := 1000000000000000) d_mod_show_29 l_mod_245 ?_
      refine rp_lcmp d_mod_show_32 ?_
      refine rp_if_le (tgt := 39) d_mod_show_33 (by decide) (fun c33 => ?_) (fun c33 => ?_)
      · refine rp_aload_n (i := 0) d_mod_show_39 rfl rfl ?_
        refine rp_lload_n (i := 1) d_mod_show_40 rfl rfl ?_
        refine rp_callV1 d_mod_show_41 q_mod_show_247 (Or.inl ⟨_, _, _, rfl, rfl⟩) (Nat.le_of_ble_eq_true rfl) (Nat.le_of_ble_eq_true rfl) ?_
        have m0 : ¬ m = 0 := fun z => c14 (by rw [z]; rfl)
        have hx : inR x := inR_iff.mpr ⟨fun z => c25 ((lg_cmp_lt _ _).mpr z), (lg_cmp_le _ _).mp c33⟩
        refine s_mod_sectionFor hR1 hm1 (by omega) hm3 (cd := cdF (h1.2.2.2 22) (h1.2.2.2 25)) (ad := adF (h1.2.2.2 22) (h1.2.2.2 23) (h1.2.2.2 24) (h1.2.2.2 25) x) (fun t ht => by obtain ⟨A, B, off, XS0, V⟩ := hV t ht; exact ⟨A, B, V.1, by unfold cdF; rw [V.1.A.1, V.1.A.2], by unfold adF; rw [V.1.A.1]⟩) ?_
        refine rp_istore_n (i := 3) d_mod_show_44 rfl rfl (Nat.le_of_ble_eq_true rfl) ?_
        refine rp_iload_n (i := 3) d_mod_show_45 rfl rfl ?_
        refine rp_if_ge (tgt := 51) d_mod_show_46 (by decide) (fun c46 => ?_) (fun c46 => ?_)
        · rcases R with ⟨q, _⟩ | ⟨_, q, _⟩ | ⟨_, _, es, _⟩ | ⟨_, _, t, t1, es, res, W, fin⟩
          · exact absurd q m0
          · exact absurd hx q
          · rw [es] at c46; exact absurd c46 (by decide)
          · obtain ⟨A, B, off, XS0, V⟩ := hV t t1
            rw [V.1.A.1, V.1.A.2] at W
            refine rp_lv [(0, .ref 19), (1, .long x), (3, .int (nI t))] (by rw [es]; rfl) ?_
            refine t_mod_show51 hR1 f1 z15 z14 t1 hm3 hm1 V hV hc1 hx W (fun L0 e => ?_) (fun e h2 y1 y2 y3 => ?_) (fun L0 h2 e y1 y2 y3 y4 => ?_)
            · rcases fin with ⟨q, _⟩ | ⟨q, _⟩
              · rw [e] at q; exact absurd q (by simp)
              · rw [e] at q; injection q with q; rw [q]; exact hl
            · rcases fin with ⟨q, e1, e2, e3⟩ | ⟨q, _⟩
              · subst e1; subst e2; subst e3; exact k h2 y1 y2 (fun j x hx => absurd hx (by simp)) y3
              · rw [e] at q; exact absurd q (by simp)
            · rcases fin with ⟨q, _⟩ | ⟨q, e1, e2⟩
              · rw [e] at q; exact absurd q (by simp)
              · rw [e] at q; injection q with q; subst q; subst e1; subst e2; exact k h2 y1 y2 y3 y4
        · refine rp_iconst (v := (-1)) d_mod_show_49 (by decide) ?_
          refine rp_ireturn (ty := .int) d_mod_show_50 rfl rfl ?_
          rcases R with ⟨q, _⟩ | ⟨_, q, _⟩ | ⟨_, _, _, e1, e2, e3⟩ | ⟨_, _, t, t1, es, _⟩
          · exact absurd q m0
          · exact absurd hx q
          · subst e1; subst e2; subst e3
            exact k h1 f1 z15 (fun j x hx => absurd hx (by simp)) z14
          · rw [es] at c46; exact absurd (Int32.not_lt.mp (cf_nneg (by omega))) c46
      · refine rp_bipush (v := (-3)) d_mod_show_36 (by decide) ?_
        refine rp_ireturn (ty := .int) d_mod_show_38 rfl rfl ?_
        have nx : ¬ inR x := fun z => c33 ((lg_cmp_le _ _).mpr z.2)
        rcases R with ⟨q, _⟩ | ⟨_, _, e1, e2, e3⟩ | ⟨_, q, _⟩ | ⟨_, q, _⟩
        · exact absurd (by rw [q]; rfl) c14
        · subst e1; subst e2; subst e3
          exact k h1 f1 z15 (fun j x hx => absurd hx (by simp)) z14
        · exact absurd q nx
        · exact absurd q nx
  · refine rp_bipush (v := (-2)) d_mod_show_17 (by decide) ?_
    refine rp_ireturn (ty := .int) d_mod_show_19 rfl rfl ?_
    have m0 : m = 0 := (z_eq (by omega)).mp c14
    rcases R with ⟨_, e1, e2, e3⟩ | ⟨q, _⟩ | ⟨q, _⟩ | ⟨q, _⟩
    · subst e1; subst e2; subst e3
      exact k h1 f1 z15 (fun j x hx => absurd hx (by simp)) z14
    · exact absurd m0 q
    · exact absurd m0 q
    · exact absurd m0 q
