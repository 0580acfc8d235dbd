/-! THE CLASS: NumberWriter's prepare, writePlace, write; writePlain -/
def fl (f : Nat → List Int32) : Nat → Nat → List Int32
  | _, 0 => []
  | i, n + 1 => f i ++ fl f (i + 1) n
/-- a place's text -/
def tkN (A : Nat) (pw : Int) (e : Nat) (gr : Bool) (ty va : Nat → Int32) (a b j : Nat) : List Int32 :=
  if j < r_ie ty a b then wI A pw (va j) (r_ct ty 2 (j + 1) (r_ie ty a b)) (decide (r_ct ty 2 a j = 0)) gr
  else if j < r_fd ty 6 a b then wF A pw (r_pl ty a b) (r_ct ty 2 (r_ie ty a b) (j + 1)) (va j)
  else wI e 0 (va j) (r_ct ty 2 (j + 1) b) (decide (r_ct ty 2 (r_fd ty 6 a b) j = 0)) false
/-- a token's text, the class's -/
def cTk (A : Nat) (pw : Int) (e : Nat) (neg gr : Bool) (ty va : Nat → Int32) (a b j : Nat) : List Int32 :=
  if ty j = 2 then tkN A pw e gr ty va a b j else if ty j = 6 then wM neg (va j) else if ty j = 1 ∨ ty j = 5 ∨ ty j = 3 then [va j] else []
/-- what writing a number changes -/
def nW (h0 : cf_H) (L : List Int32) (h : cf_H) : Prop := cf_ok h0 ∧ (∀ o k, ¬ (o = 13 ∧ k = 1) → ¬ (o = 15 ∧ (k = 4 ∨ k = 5 ∨ k = 6)) → h.1 o k = h0.1 o k) ∧ h.2.1 = h0.2.1 ∧ h.2.2.1 = h0.2.2.1 ∧ (∀ o, o ≠ 14 → h.2.2.2 o = h0.2.2.2 o) ∧ h.1 13 1 = nI L.length ∧ tx (h.2.2.2 14) L
theorem nW.ok {h0 h : cf_H} {L : List Int32} (w : nW h0 L h) : cf_ok h := fun o k q e => by rw [w.2.2.2.1]; exact w.1 o k q e
theorem nW.self {h0 h : cf_H} {L : List Int32} (w : nW h0 L h) : wT h L h := ⟨w.ok, w_fr.rf h, w.2.2.2.2.2.1, w.2.2.2.2.2.2⟩
theorem nW.w {h0 h h' : cf_H} {L L' : List Int32} (w : nW h0 L h) (v : wT h L' h') : nW h0 L' h' := by
  obtain ⟨r, f1, f2, f3, f4, _, _⟩ := w
  obtain ⟨_, ⟨g1, g2, g3, g4⟩, g5, g6⟩ := v
  exact ⟨r, fun o k e1 e2 => (g1 o k e1).trans (f1 o k e1 e2), g2.trans f2, g3.trans f3, fun o e => (g4 o e).trans (f4 o e), g5, g6⟩
theorem nW.pI {h0 h : cf_H} {L : List Int32} (w : nW h0 L h) {k : Nat} (hk : k = 4 ∨ k = 5 ∨ k = 6) (v : Int32) : nW h0 L (cf_pI h 15 k v) := by
  obtain ⟨r, f1, f2, f3, f4, g5, g6⟩ := w
  exact ⟨r, fun o j e1 e2 => by rw [g_I1, if_neg (fun z => e2 ⟨z.1, by rw [z.2]; exact hk⟩)]; exact f1 o j e1 e2, f2, f3, f4, by rw [g_I1, if_neg (by omega)]; exact g5, g6⟩
theorem nW.dD {h0 h : cf_H} {L : List Int32} (w : nW h0 L h) {o a : Nat} {pw : Int} (ho : o = 16 ∨ o = 17) (hD : cD h0 o a pw) : cD h o a pw := ⟨by rw [w.2.2.1]; exact hD.1, by rw [w.2.1 o 1 (by omega) (by omega)]; exact hD.2⟩
/-- the counters before token j -/
def nC (h : cf_H) (ty : Nat → Int32) (a b j : Nat) : Prop := h.1 15 4 = nI (r_ct ty 2 j (r_ie ty a b)) ∧ h.1 15 5 = nI (r_ct ty 2 (r_ie ty a b) (min j (r_fd ty 6 a b))) ∧ h.1 15 6 = nI (r_ct ty 2 (max j (r_fd ty 6 a b)) b)
theorem r_ct_ge {ty : Nat → Int32} {w : Int32} {i j : Nat} (h : j ≤ i) : r_ct ty w i j = 0 := by unfold r_ct; rw [show j - i = 0 by omega]; rfl
theorem r_ct_end {ty : Nat → Int32} {w : Int32} {i j : Nat} (h : i ≤ j) : r_ct ty w i (j + 1) = r_ct ty w i j + (if ty j = w then 1 else 0) := by
  rw [r_ct_sp h (Nat.le_succ j), r_ct_S (Nat.lt_succ_self j), r_ct_n]; rfl
theorem r_ie_fd {ty : Nat → Int32} {a b : Nat} (h : a ≤ b) : r_ie ty a b ≤ r_fd ty 6 a b := by
  unfold r_ie; split <;> omega
theorem nC.step {h h' : cf_H} {ty : Nat → Int32} {a b j : Nat} (c : nC h ty a b j) (hab : a ≤ b) (hj : j < b) (hn : ¬ ty j = 2) (g : ∀ k, h'.1 15 k = h.1 15 k) : nC h' ty a b (j + 1) := by
  obtain ⟨c1, c2, c3⟩ := c
  have i1 := r_ie_fd (ty := ty) hab
  have i2 := r_fd_le (ty := ty) (w := 6) hab
  have e1 : r_ct ty 2 (j + 1) (r_ie ty a b) = r_ct ty 2 j (r_ie ty a b) := by
    by_cases q : j < r_ie ty a b
    · rw [r_ct_S (i := j) q, if_neg hn, Nat.zero_add]
    · rw [r_ct_ge (by omega), r_ct_ge (by omega)]
  have e2 : r_ct ty 2 (r_ie ty a b) (min (j + 1) (r_fd ty 6 a b)) = r_ct ty 2 (r_ie ty a b) (min j (r_fd ty 6 a b)) := by
    by_cases q : r_fd ty 6 a b ≤ j
    · rw [Nat.min_eq_right (by omega), Nat.min_eq_right q]
    · rw [Nat.min_eq_left (by omega), Nat.min_eq_left (by omega)]
      by_cases q2 : r_ie ty a b ≤ j
      · rw [r_ct_end q2, if_neg hn]; rfl
      · rw [r_ct_ge (by omega), r_ct_ge (by omega)]
  have e3 : r_ct ty 2 (max (j + 1) (r_fd ty 6 a b)) b = r_ct ty 2 (max j (r_fd ty 6 a b)) b := by
    by_cases q : r_fd ty 6 a b ≤ j
    · rw [Nat.max_eq_left (by omega), Nat.max_eq_left q, r_ct_S (i := j) hj, if_neg hn, Nat.zero_add]
    · rw [Nat.max_eq_right (by omega), Nat.max_eq_right (by omega)]
  exact ⟨by rw [g, e1]; exact c1, by rw [g, e2]; exact c2, by rw [g, e3]; exact c3⟩
theorem n_fp_pl {ty : Nat → Int32} {a b : Nat} (h : a ≤ b) : n_fp ty a b = r_pl ty a b := by
  unfold n_fp r_pl n_ex
  rw [n_pt_ie h]
  unfold r_ie
  split
  · exact r_ct_n _ _ _
  · rfl

theorem nI_sub1 {n : Nat} : nI (n + 1) - 1 = nI n := by rw [← nI_1]; exact Int32.add_sub_cancel _ _
set_option maxHeartbeats 4000000 in
set_option maxRecDepth 100000 in
theorem s_num_writePlace {h0 h : cf_H} {P : Option Value → cf_H → Prop} {L : List Int32} (w : nW h0 L h) {o : Nat} (ho9 : 9 ≤ o ∧ o ≤ 11) {ty va : Nat → Int32} {a b j : Nat} {gr : Bool} {sc : Nat} (hs : s_num h0 o ty a b gr sc) {A e : Nat} {pw : Int} (hD : cD h0 16 A pw) (hE : cD h0 17 e 0) (hA : A < 10 ^ 16) (he : e < 10 ^ 16) (hpw : pw ≤ 100 ∧ -400 ≤ pw) (haj : a ≤ j) (hjb : j < b) (hb : b ≤ 40) (h2 : ty j = 2) (hC : nC h ty a b j) {x y : Int32} (hx : x = nI j) (hy : y = va j) (hl : L.length + (tkN A pw e gr ty va a b j).length ≤ 256) (k : ∀ h', nW h0 (L ++ tkN A pw e gr ty va a b j) h' → nC h' ty a b (j + 1) → P none h') : RP k_num_writePlace 0 [(0, .ref 15), (1, .ref o), (2, .int x), (3, .int y)] [] h P := by
  subst hx; subst hy
  obtain ⟨p1, p2, p3, p4, p5, p6, p7, p8⟩ := hs
  have ho := s_ho ho9
  have fo : ∀ k, h.1 o k = h0.1 o k := fun k => w.2.1 o k (by omega) (by omega)
  have i0 := r_ie_ge ty a b
  have hab : a ≤ b := by omega
  have i1 := r_ie_fd (ty := ty) hab
  have i2 := r_fd_le (ty := ty) (w := 6) hab
  have hpt := n_pt_ie (ty := ty) hab
  have hfp := n_fp_pl (ty := ty) hab
  obtain ⟨c1, c2, c3⟩ := id hC
  have f5 : h.1 o 5 = nI (r_ie ty a b) := by rw [fo, p1, hpt]
  have f6 : h.1 o 6 = nI (r_fd ty 6 a b) := by rw [fo, p2]; rfl
  have f7 : h.1 o 7 = nI (r_ct ty 2 a (r_ie ty a b)) := by rw [fo, p3, n_ip, hpt]
  have f8 : h.1 o 8 = nI (r_pl ty a b) := by rw [fo, p4, hfp]
  have f9 : h.1 o 9 = nI (r_ct ty 2 (r_fd ty 6 a b) b) := by rw [fo, p5]; rfl
  have f12 : h.1 o 12 = cf_b gr := by rw [fo, p7]
  have m1 := r_ct_le ty 2 j (r_ie ty a b)
  have m2 := r_ct_le ty 2 a (r_ie ty a b)
  have m3 := r_ct_le ty 2 (r_fd ty 6 a b) b
  have m4 := r_ct_le ty 2 (max j (r_fd ty 6 a b)) b
  have m5 := r_ct_le ty 2 (r_ie ty a b) (min j (r_fd ty 6 a b))
  have m6 := r_ct_le ty 2 (r_ie ty a b) (r_fd ty 6 a b)
  have hfp40 : r_pl ty a b ≤ 40 := by rw [← hfp]; unfold n_fp; rw [hpt]; unfold n_ex; omega
  refine rp_iload_n (i := 2) d_num_writePlace_0 rfl rfl ?_
  refine rp_aload_n (i := 1) d_num_writePlace_1 rfl rfl ?_
  refine rp_getI d_num_writePlace_2 f_num_112 ho ?_
  refine rp_icmp_ge (tgt := 58) d_num_writePlace_5 (by decide) (fun c5 => ?_) (fun c5 => ?_)
  · refine rp_iload_n (i := 2) d_num_writePlace_58 rfl rfl ?_
    refine rp_aload_n (i := 1) d_num_writePlace_59 rfl rfl ?_
    refine rp_getI d_num_writePlace_60 f_num_122 ho ?_
    refine rp_icmp_ge (tgt := 88) d_num_writePlace_63 (by decide) (fun c63 => ?_) (fun c63 => ?_)
    · replace c5 : r_ie ty a b ≤ j := (nI_leI (by omega) (by omega)).mp (by rw [f5] at c5; exact c5)
      replace c63 : r_fd ty 6 a b ≤ j := (nI_leI (by omega) (by omega)).mp (by rw [f6] at c63; exact c63)
      have x1 : r_ct ty 2 j b = 1 + r_ct ty 2 (j + 1) b := by rw [r_ct_S hjb, if_pos h2]
      have x2 : r_ct ty 2 (r_fd ty 6 a b) b = r_ct ty 2 (r_fd ty 6 a b) j + r_ct ty 2 j b := r_ct_sp c63 (by omega)
      have x3 : nI (r_ct ty 2 j b) - 1 = nI (r_ct ty 2 (j + 1) b) := by rw [x1, Nat.add_comm]; exact nI_sub1
      have m8 := r_ct_le ty 2 j b
      rw [tkN, if_neg (by omega), if_neg (by omega)] at hl k
      refine rp_aload_n (i := 0) d_num_writePlace_88 rfl rfl ?_
      refine rp_getI d_num_writePlace_89 f_num_109 rfl ?_
      refine rp_aload_n (i := 1) d_num_writePlace_92 rfl rfl ?_
      refine rp_getI d_num_writePlace_93 f_num_106 ho ?_
      refine rp_icmp_ne (tgt := 103) d_num_writePlace_96 (by decide) (fun c96 => ?_) (fun c96 => ?_)
      · rw [c3, f9, Nat.max_eq_left c63, nI_eq (by omega) (by omega)] at c96
        refine rp_iconst (v := 0) d_num_writePlace_103 (by decide) ?_
        refine rp_istore (i := 4) d_num_writePlace_104 rfl (Nat.le_of_ble_eq_true rfl) ?_
        refine rp_aload_n (i := 0) d_num_writePlace_106 rfl rfl ?_
        refine rp_dup d_num_writePlace_107 rfl ?_
        refine rp_getI d_num_writePlace_108 f_num_109 rfl ?_
        refine rp_iconst (v := 1) d_num_writePlace_111 (by decide) ?_
        refine rp_isub d_num_writePlace_112 ?_
        refine rp_putI d_num_writePlace_113 f_num_109 rfl rfl rfl ?_
        have g6 : h.1 15 6 - 1 = nI (r_ct ty 2 (j + 1) b) := by rw [c3, Nat.max_eq_left (by omega), x3]
        have w1 := w.pI (k := 6) (Or.inr (Or.inr rfl)) (h.1 15 6 - 1)
        have n1 : nC (cf_pI h 15 6 (h.1 15 6 - 1)) ty a b (j + 1) := by
          refine ⟨?_, ?_, by rw [cf_pI_s, g6, Nat.max_eq_left (by omega)]⟩
          · rw [cf_pI_k (by decide), c1, r_ct_ge (by omega), r_ct_ge (by omega)]
          · rw [cf_pI_k (by decide), c2, Nat.min_eq_right (by omega), Nat.min_eq_right (by omega)]
        have d1 := w1.dD (Or.inr rfl) hE
        have q4 : (cf_pI h 15 6 (h.1 15 6 - 1)).1 15 6 = nI (r_ct ty 2 (j + 1) b) := by rw [cf_pI_s, g6]
        have r1 : cf_ok (cf_pI h 15 6 (h.1 15 6 - 1)) := w1.ok
        generalize cf_pI h 15 6 (h.1 15 6 - 1) = h1 at w1 n1 d1 q4 r1 ⊢
        refine rp_aload_n (i := 0) d_num_writePlace_116 rfl rfl ?_
        refine rp_aload_n (i := 0) d_num_writePlace_117 rfl rfl ?_
        refine rp_getR d_num_writePlace_118 f_num_22 rfl (r1 _ _ _ rfl) ?_
        refine rp_iload_n (i := 3) d_num_writePlace_121 rfl rfl ?_
        refine rp_aload_n (i := 0) d_num_writePlace_122 rfl rfl ?_
        refine rp_getI d_num_writePlace_123 f_num_109 rfl ?_
        refine rp_iload (i := 4) d_num_writePlace_126 rfl ?_
        refine rp_iconst (v := 0) d_num_writePlace_128 (by decide) ?_
        refine rp_callV5 d_num_writePlace_129 q_num_writePlace_118 (Or.inl ⟨_, _, _, rfl, rfl⟩) (Nat.le_of_ble_eq_true rfl) (Nat.le_of_ble_eq_true rfl) ?_
        have efi : decide (r_ct ty 2 (r_fd ty 6 a b) j = 0) = false := decide_eq_false (by omega)
        rw [efi] at hl k
        refine s_num_writeIntegerPlace (h0 := h1) w1.self rfl (by decide) d1 he (by omega) (by omega) (by omega) q4 rfl rfl hl (fun h2 v => ?_)
        refine rp_return d_num_writePlace_132 rfl ?_
        refine k h2 (w1.w v) ⟨(v.2.1.1 15 4 (by decide)).trans n1.1, (v.2.1.1 15 5 (by decide)).trans n1.2.1, (v.2.1.1 15 6 (by decide)).trans n1.2.2⟩
      · rw [c3, f9, Nat.max_eq_left c63, nI_eq (by omega) (by omega)] at c96
        refine rp_iconst (v := 1) d_num_writePlace_99 (by decide) ?_
        refine rp_goto (tgt := 104) d_num_writePlace_100 (by decide) ?_
        refine rp_istore (i := 4) d_num_writePlace_104 rfl (Nat.le_of_ble_eq_true rfl) ?_
        refine rp_aload_n (i := 0) d_num_writePlace_106 rfl rfl ?_
        refine rp_dup d_num_writePlace_107 rfl ?_
        refine rp_getI d_num_writePlace_108 f_num_109 rfl ?_
        refine rp_iconst (v := 1) d_num_writePlace_111 (by decide) ?_
        refine rp_isub d_num_writePlace_112 ?_
        refine rp_putI d_num_writePlace_113 f_num_109 rfl rfl rfl ?_
        have g6 : h.1 15 6 - 1 = nI (r_ct ty 2 (j + 1) b) := by rw [c3, Nat.max_eq_left (by omega), x3]
        have w1 := w.pI (k := 6) (Or.inr (Or.inr rfl)) (h.1 15 6 - 1)
        have n1 : nC (cf_pI h 15 6 (h.1 15 6 - 1)) ty a b (j + 1) := by
          refine ⟨?_, ?_, by rw [cf_pI_s, g6, Nat.max_eq_left (by omega)]⟩
          · rw [cf_pI_k (by decide), c1, r_ct_ge (by omega), r_ct_ge (by omega)]
          · rw [cf_pI_k (by decide), c2, Nat.min_eq_right (by omega), Nat.min_eq_right (by omega)]
        have d1 := w1.dD (Or.inr rfl) hE
        have q4 : (cf_pI h 15 6 (h.1 15 6 - 1)).1 15 6 = nI (r_ct ty 2 (j + 1) b) := by rw [cf_pI_s, g6]
        have r1 : cf_ok (cf_pI h 15 6 (h.1 15 6 - 1)) := w1.ok
        generalize cf_pI h 15 6 (h.1 15 6 - 1) = h1 at w1 n1 d1 q4 r1 ⊢
        refine rp_aload_n (i := 0) d_num_writePlace_116 rfl rfl ?_
        refine rp_aload_n (i := 0) d_num_writePlace_117 rfl rfl ?_
        refine rp_getR d_num_writePlace_118 f_num_22 rfl (r1 _ _ _ rfl) ?_
        refine rp_iload_n (i := 3) d_num_writePlace_121 rfl rfl ?_
        refine rp_aload_n (i := 0) d_num_writePlace_122 rfl rfl ?_
        refine rp_getI d_num_writePlace_123 f_num_109 rfl ?_
        refine rp_iload (i := 4) d_num_writePlace_126 rfl ?_
        refine rp_iconst (v := 0) d_num_writePlace_128 (by decide) ?_
        refine rp_callV5 d_num_writePlace_129 q_num_writePlace_118 (Or.inl ⟨_, _, _, rfl, rfl⟩) (Nat.le_of_ble_eq_true rfl) (Nat.le_of_ble_eq_true rfl) ?_
        have efi : decide (r_ct ty 2 (r_fd ty 6 a b) j = 0) = true := decide_eq_true (by omega)
        rw [efi] at hl k
        refine s_num_writeIntegerPlace (h0 := h1) w1.self rfl (by decide) d1 he (by omega) (by omega) (by omega) q4 rfl rfl hl (fun h2 v => ?_)
        refine rp_return d_num_writePlace_132 rfl ?_
        refine k h2 (w1.w v) ⟨(v.2.1.1 15 4 (by decide)).trans n1.1, (v.2.1.1 15 5 (by decide)).trans n1.2.1, (v.2.1.1 15 6 (by decide)).trans n1.2.2⟩
    · replace c5 : r_ie ty a b ≤ j := (nI_leI (by omega) (by omega)).mp (by rw [f5] at c5; exact c5)
      replace c63 : j < r_fd ty 6 a b := Nat.not_le.mp (fun z => c63 (by rw [f6]; exact (nI_leI (by omega) (by omega)).mpr z))
      rw [tkN, if_neg (by omega), if_pos c63] at hl k
      refine rp_aload_n (i := 0) d_num_writePlace_66 rfl rfl ?_
      refine rp_dup d_num_writePlace_67 rfl ?_
      refine rp_getI d_num_writePlace_68 f_num_103 rfl ?_
      refine rp_iconst (v := 1) d_num_writePlace_71 (by decide) ?_
      refine rp_iadd d_num_writePlace_72 ?_
      refine rp_putI d_num_writePlace_73 f_num_103 rfl rfl rfl ?_
      have g5 : h.1 15 5 + 1 = nI (r_ct ty 2 (r_ie ty a b) (j + 1)) := by rw [c2, Nat.min_eq_left (by omega), nI_1, r_ct_end c5, if_pos h2]
      have w1 := w.pI (k := 5) (Or.inr (Or.inl rfl)) (h.1 15 5 + 1)
      have n1 : nC (cf_pI h 15 5 (h.1 15 5 + 1)) ty a b (j + 1) := by
        refine ⟨?_, by rw [cf_pI_s, g5, Nat.min_eq_left (by omega)], ?_⟩
        · rw [cf_pI_k (by decide), c1, r_ct_ge (by omega), r_ct_ge (by omega)]
        · rw [cf_pI_k (by decide), c3, Nat.max_eq_right (by omega), Nat.max_eq_right (by omega)]
      have d1 := w1.dD (Or.inl rfl) hD
      have q5 : (cf_pI h 15 5 (h.1 15 5 + 1)).1 15 5 = nI (r_ct ty 2 (r_ie ty a b) (j + 1)) := by rw [cf_pI_s, g5]
      have q8 : (cf_pI h 15 5 (h.1 15 5 + 1)).1 o 8 = nI (r_pl ty a b) := by rw [cf_pI_o (by omega)]; exact f8
      have r1 : cf_ok (cf_pI h 15 5 (h.1 15 5 + 1)) := w1.ok
      generalize cf_pI h 15 5 (h.1 15 5 + 1) = h1 at w1 n1 d1 q5 q8 r1 ⊢
      refine rp_aload_n (i := 0) d_num_writePlace_76 rfl rfl ?_
      refine rp_iload_n (i := 3) d_num_writePlace_77 rfl rfl ?_
      refine rp_aload_n (i := 1) d_num_writePlace_78 rfl rfl ?_
      refine rp_getI d_num_writePlace_79 f_num_81 ho ?_
      refine rp_callV2 d_num_writePlace_82 q_num_writePlace_125 (Or.inl ⟨_, _, _, rfl, rfl⟩) (Nat.le_of_ble_eq_true rfl) (Nat.le_of_ble_eq_true rfl) ?_
      have m7 : r_ct ty 2 (r_ie ty a b) (j + 1) ≤ r_pl ty a b := by
        rw [← hfp]; unfold n_fp; rw [hpt]; unfold n_ex
        rw [r_ct_sp (i := r_ie ty a b) (j := j + 1) (k := r_fd ty 6 a b) (by omega) (by omega)]; omega
      refine s_num_writeFractionPlace (h0 := h1) w1.self d1 hA (by omega) hfp40 (by omega) q5 q8 hl (fun h2 v => ?_)
      refine rp_goto (tgt := 132) d_num_writePlace_85 (by decide) ?_
      refine rp_return d_num_writePlace_132 rfl ?_
      refine k h2 (w1.w v) ⟨(v.2.1.1 15 4 (by decide)).trans n1.1, (v.2.1.1 15 5 (by decide)).trans n1.2.1, (v.2.1.1 15 6 (by decide)).trans n1.2.2⟩
  · replace c5 : j < r_ie ty a b := Nat.not_le.mp (fun z => c5 (by rw [f5]; exact (nI_leI (by omega) (by omega)).mpr z))
    have x1 : r_ct ty 2 j (r_ie ty a b) = 1 + r_ct ty 2 (j + 1) (r_ie ty a b) := by rw [r_ct_S c5, if_pos h2]
    have x2 : r_ct ty 2 a (r_ie ty a b) = r_ct ty 2 a j + r_ct ty 2 j (r_ie ty a b) := r_ct_sp haj (by omega)
    have x3 : nI (r_ct ty 2 j (r_ie ty a b)) - 1 = nI (r_ct ty 2 (j + 1) (r_ie ty a b)) := by rw [x1, Nat.add_comm]; exact nI_sub1
    rw [tkN, if_pos c5] at hl k
    refine rp_aload_n (i := 0) d_num_writePlace_8 rfl rfl ?_
    refine rp_getI d_num_writePlace_9 f_num_100 rfl ?_
    refine rp_aload_n (i := 1) d_num_writePlace_12 rfl rfl ?_
    refine rp_getI d_num_writePlace_13 f_num_78 ho ?_
    refine rp_icmp_ne (tgt := 23) d_num_writePlace_16 (by decide) (fun c16 => ?_) (fun c16 => ?_)
    · refine rp_iconst (v := 0) d_num_writePlace_23 (by decide) ?_
      refine rp_istore (i := 4) d_num_writePlace_24 rfl (Nat.le_of_ble_eq_true rfl) ?_
      refine rp_aload_n (i := 0) d_num_writePlace_26 rfl rfl ?_
      refine rp_dup d_num_writePlace_27 rfl ?_
      refine rp_getI d_num_writePlace_28 f_num_100 rfl ?_
      refine rp_iconst (v := 1) d_num_writePlace_31 (by decide) ?_
      refine rp_isub d_num_writePlace_32 ?_
      refine rp_putI d_num_writePlace_33 f_num_100 rfl rfl rfl ?_
      have g4 : h.1 15 4 - 1 = nI (r_ct ty 2 (j + 1) (r_ie ty a b)) := by rw [c1, x3]
      have w1 := w.pI (k := 4) (Or.inl rfl) (h.1 15 4 - 1)
      have n1 : nC (cf_pI h 15 4 (h.1 15 4 - 1)) ty a b (j + 1) := by
        refine ⟨by rw [cf_pI_s, g4], ?_, ?_⟩
        · rw [cf_pI_k (by decide), c2, r_ct_ge (by omega), r_ct_ge (by omega)]
        · rw [cf_pI_k (by decide), c3, Nat.max_eq_right (by omega), Nat.max_eq_right (by omega)]
      have d1 := w1.dD (Or.inl rfl) hD
      have q4 : (cf_pI h 15 4 (h.1 15 4 - 1)).1 15 4 = nI (r_ct ty 2 (j + 1) (r_ie ty a b)) := by rw [cf_pI_s, g4]
      have q12 : (cf_pI h 15 4 (h.1 15 4 - 1)).1 o 12 = cf_b gr := by rw [cf_pI_o (by omega)]; exact f12
      have r1 : cf_ok (cf_pI h 15 4 (h.1 15 4 - 1)) := w1.ok
      generalize cf_pI h 15 4 (h.1 15 4 - 1) = h1 at w1 n1 d1 q4 q12 r1 ⊢
      refine rp_aload_n (i := 0) d_num_writePlace_36 rfl rfl ?_
      refine rp_aload_n (i := 0) d_num_writePlace_37 rfl rfl ?_
      refine rp_getR d_num_writePlace_38 f_num_18 rfl (r1 _ _ _ rfl) ?_
      refine rp_iload_n (i := 3) d_num_writePlace_41 rfl rfl ?_
      refine rp_aload_n (i := 0) d_num_writePlace_42 rfl rfl ?_
      refine rp_getI d_num_writePlace_43 f_num_100 rfl ?_
      refine rp_iload (i := 4) d_num_writePlace_46 rfl ?_
      refine rp_aload_n (i := 1) d_num_writePlace_48 rfl rfl ?_
      refine rp_getI d_num_writePlace_49 f_num_115 ho ?_
      refine rp_callV5 d_num_writePlace_52 q_num_writePlace_118 (Or.inl ⟨_, _, _, rfl, rfl⟩) (Nat.le_of_ble_eq_true rfl) (Nat.le_of_ble_eq_true rfl) ?_
      rw [c1, f7, nI_eq (by omega) (by omega)] at c16
      have efi : decide (r_ct ty 2 a j = 0) = false := decide_eq_false (by omega)
      rw [efi] at hl k
      refine s_num_writeIntegerPlace (h0 := h1) w1.self rfl (by decide) d1 hA (by omega) (by omega) hpw q4 rfl q12 hl (fun h2 v => ?_)
      refine rp_goto (tgt := 132) d_num_writePlace_55 (by decide) ?_
      refine rp_return d_num_writePlace_132 rfl ?_
      refine k h2 (w1.w v) ⟨(v.2.1.1 15 4 (by decide)).trans n1.1, (v.2.1.1 15 5 (by decide)).trans n1.2.1, (v.2.1.1 15 6 (by decide)).trans n1.2.2⟩
    · refine rp_iconst (v := 1) d_num_writePlace_19 (by decide) ?_
      refine rp_goto (tgt := 24) d_num_writePlace_20 (by decide) ?_
      refine rp_istore (i := 4) d_num_writePlace_24 rfl (Nat.le_of_ble_eq_true rfl) ?_
      refine rp_aload_n (i := 0) d_num_writePlace_26 rfl rfl ?_
      refine rp_dup d_num_writePlace_27 rfl ?_
      refine rp_getI d_num_writePlace_28 f_num_100 rfl ?_
      refine rp_iconst (v := 1) d_num_writePlace_31 (by decide) ?_
      refine rp_isub d_num_writePlace_32 ?_
      refine rp_putI d_num_writePlace_33 f_num_100 rfl rfl rfl ?_
      have g4 : h.1 15 4 - 1 = nI (r_ct ty 2 (j + 1) (r_ie ty a b)) := by rw [c1, x3]
      have w1 := w.pI (k := 4) (Or.inl rfl) (h.1 15 4 - 1)
      have n1 : nC (cf_pI h 15 4 (h.1 15 4 - 1)) ty a b (j + 1) := by
        refine ⟨by rw [cf_pI_s, g4], ?_, ?_⟩
        · rw [cf_pI_k (by decide), c2, r_ct_ge (by omega), r_ct_ge (by omega)]
        · rw [cf_pI_k (by decide), c3, Nat.max_eq_right (by omega), Nat.max_eq_right (by omega)]
      have d1 := w1.dD (Or.inl rfl) hD
      have q4 : (cf_pI h 15 4 (h.1 15 4 - 1)).1 15 4 = nI (r_ct ty 2 (j + 1) (r_ie ty a b)) := by rw [cf_pI_s, g4]
      have q12 : (cf_pI h 15 4 (h.1 15 4 - 1)).1 o 12 = cf_b gr := by rw [cf_pI_o (by omega)]; exact f12
      have r1 : cf_ok (cf_pI h 15 4 (h.1 15 4 - 1)) := w1.ok
      generalize cf_pI h 15 4 (h.1 15 4 - 1) = h1 at w1 n1 d1 q4 q12 r1 ⊢
      refine rp_aload_n (i := 0) d_num_writePlace_36 rfl rfl ?_
      refine rp_aload_n (i := 0) d_num_writePlace_37 rfl rfl ?_
      refine rp_getR d_num_writePlace_38 f_num_18 rfl (r1 _ _ _ rfl) ?_
      refine rp_iload_n (i := 3) d_num_writePlace_41 rfl rfl ?_
      refine rp_aload_n (i := 0) d_num_writePlace_42 rfl rfl ?_
      refine rp_getI d_num_writePlace_43 f_num_100 rfl ?_
      refine rp_iload (i := 4) d_num_writePlace_46 rfl ?_
      refine rp_aload_n (i := 1) d_num_writePlace_48 rfl rfl ?_
      refine rp_getI d_num_writePlace_49 f_num_115 ho ?_
      refine rp_callV5 d_num_writePlace_52 q_num_writePlace_118 (Or.inl ⟨_, _, _, rfl, rfl⟩) (Nat.le_of_ble_eq_true rfl) (Nat.le_of_ble_eq_true rfl) ?_
      rw [c1, f7, nI_eq (by omega) (by omega)] at c16
      have efi : decide (r_ct ty 2 a j = 0) = true := decide_eq_true (by omega)
      rw [efi] at hl k
      refine s_num_writeIntegerPlace (h0 := h1) w1.self rfl (by decide) d1 hA (by omega) (by omega) hpw q4 rfl q12 hl (fun h2 v => ?_)
      refine rp_goto (tgt := 132) d_num_writePlace_55 (by decide) ?_
      refine rp_return d_num_writePlace_132 rfl ?_
      refine k h2 (w1.w v) ⟨(v.2.1.1 15 4 (by decide)).trans n1.1, (v.2.1.1 15 5 (by decide)).trans n1.2.1, (v.2.1.1 15 6 (by decide)).trans n1.2.2⟩
