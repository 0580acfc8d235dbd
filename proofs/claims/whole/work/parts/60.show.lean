/-! SHOW on both sides -/
def sA (st : Nat → Int32) (t : Nat) : Nat := (st t).toNatClampNeg
def cdF (ty st : Nat → Int32) (t : Nat) : Bool := decide (sA st t < sA st (t + 1) ∧ ty (sA st t) = 7)
def adF (ty fi se st : Nat → Int32) (x : Int64) (t : Nat) : Bool := !cdF ty st t || hld (fi (sA st t)) x ((se (sA st t)).toInt64 * 1000000)
theorem r_sec.A {h : cf_H} {t A B : Nat} (hs : r_sec h t A B) : sA (h.2.2.2 25) t = A ∧ sA (h.2.2.2 25) (t + 1) = B := by
  obtain ⟨s1, s2, s3, s4, s5⟩ := hs
  unfold sA
  rw [s1, s2, nI_clamp (by omega), nI_clamp (by omega)]; exact ⟨rfl, rfl⟩
theorem r_sec.inj {h : cf_H} {t A B A' B' : Nat} (h1 : r_sec h t A B) (h2 : r_sec h t A' B') : A = A' ∧ B = B' := ⟨h1.A.1.symm.trans h2.A.1, h1.A.2.symm.trans h2.A.2⟩
theorem sV.cond {h : cf_H} {t A B n : Nat} {off : Nat → Nat} {XS XS0 : List r_K} (V : sV h t A B off XS XS0 n) (x : Int64) : adO h (9 + t) x (adF (h.2.2.2 22) (h.2.2.2 23) (h.2.2.2 24) (h.2.2.2 25) x t) ∧ fl6 h t = cdF (h.2.2.2 22) (h.2.2.2 25) t := by
  obtain ⟨v1, v2, v3, v4, v4', v5, v6, v7, v8, v9, v10⟩ := V
  obtain ⟨s1, s2, s3, s4, s5⟩ := id v1
  obtain ⟨⟨g0, g1, g2, g3, g4⟩, w1, w2⟩ := v7
  have I := v2.isT
  have e7 : r_ct (x_ty XS0) 7 (off A) (off B) = r_ct (h.2.2.2 22) 7 A B := I.ct sOk7 (Nat.le_refl _) s3 (Nat.le_refl _)
  have l7 := r_ct_le (h.2.2.2 22) 7 A B
  unfold adF fl6 cdF
  rw [v1.A.1, v1.A.2]
  unfold c_tst2 at g3
  unfold c_bnd at g4
  rw [e7] at g3 g4
  by_cases c : r_ct (h.2.2.2 22) 7 A B = 0
  · rw [if_pos c] at g3 g4
    have nc : ¬ (A < B ∧ h.2.2.2 22 A = 7) := fun z => r_ct_0.mp c A (Nat.le_refl _) z.1 z.2
    rw [decide_eq_false nc, g3]
    exact ⟨Or.inl ⟨g3, rfl⟩, by decide⟩
  · rw [if_neg c] at g3 g4
    have hAB : A < B := by apply Nat.lt_of_le_of_ne s3; intro z; rw [z, r_ct_n] at c; exact c rfl
    unfold r_wm at v8
    split at v8
    · exact absurd v8 (by decide)
    · rename_i h1
      have c1 : r_ct (h.2.2.2 22) 7 A B = 1 := by
        apply Classical.byContradiction; intro z
        exact h1 (Or.inl ((nI_ltI (a := 1) (by decide) (by omega)).mpr (by omega)))
      have ty7 : h.2.2.2 22 A = 7 := by
        apply Classical.byContradiction; intro z
        exact h1 (Or.inr ⟨by rw [c1]; rfl, z⟩)
      obtain ⟨it, hk, e1, e2, e3, ho, hX⟩ := v2 A (Nat.le_refl _) hAB
      rcases hk with ⟨x, y, hxy, hyn, h1', _, _, h4⟩ | h' | ⟨v, h'⟩ | h' | h' | h' | ⟨v, h'⟩ | ⟨w, v, hw, h'⟩ | ⟨v, _, h'⟩ | ⟨v, m, hl, h'⟩ | h'
      · rw [h1'] at e1; dsimp only at e1; rw [e1] at ty7; exact absurd ty7 (by decide)
      all_goals (subst h'; dsimp only at e1 e2 e3 hX)
      case inr.inr.inr.inr.inr.inr.inr.inl =>
        have hx := hX 0 _ rfl
        rw [Nat.add_zero] at hx
        obtain ⟨t1, t2, t3⟩ := x_ty_of hx
        rw [t3] at g3; rw [t2] at g4
        have g3 : h.1 (9 + t) 3 = c_tst w := g3
        have g4 : h.2.1 (9 + t) 4 = v.toInt64 * 1000000 := g4
        rw [decide_eq_true ⟨hAB, ty7⟩, e2, e3, ← g4]
        refine ⟨Or.inr ⟨w, hw, g3, rfl⟩, ?_⟩
        rw [g3, decide_eq_false (tst0 hw)]; rfl
      all_goals (rw [e1] at ty7; exact absurd ty7 (by decide))
theorem sV.fr {h h' : cf_H} {t A B n : Nat} {off : Nat → Nat} {XS XS0 : List r_K} (V : sV h t A B off XS XS0 n) (g1 : ∀ k, h'.1 (9 + t) k = h.1 (9 + t) k) (g2 : ∀ k, h'.2.1 (9 + t) k = h.2.1 (9 + t) k) (g3 : ∀ o, 21 ≤ o → o ≤ 25 → h'.2.2.2 o = h.2.2.2 o) : sV h' t A B off XS XS0 n := by
  unfold sV r_sec at *
  rw [g3 21 (by decide) (by decide), g3 22 (by decide) (by decide), g3 23 (by decide) (by decide), g3 24 (by decide) (by decide), g3 25 (by decide) (by decide)]
  obtain ⟨v1, v2, v3, v4, v4', v5, v6, v7, v8, v9, v10⟩ := V
  exact ⟨v1, v2, v3, v4, v4', v5, v6, v7.fr (o' := 0) g1 g2, v8, v9, v10⟩
theorem x_B.fr {h h' : cf_H} {XS : List r_K} (B : x_B h XS) (hR : cf_ok h') (g1 : h'.1 2 3 = h.1 2 3) (g3 : ∀ o, 3 ≤ o → o ≤ 5 → h'.2.2.2 o = h.2.2.2 o) : x_B h' XS := by
  refine ⟨hR, ⟨by rw [g1]; exact B.2.1.1, ?_⟩, B.2.2⟩
  rw [g3 3 (by decide) (by decide), g3 4 (by decide) (by decide), g3 5 (by decide) (by decide)]; exact B.2.1.2
theorem sel_c {m : Nat} {any : Bool} {ad : Nat → Bool} {x : Int64} (h1 : 1 ≤ m) (h3 : m ≤ 3) : sel m any ad x = -1 ∨ ∃ t, t < m ∧ sel m any ad x = nI t := by
  unfold sel
  cases any with
  | true =>
    show (if cf_fst ad 0 m < m then nI (cf_fst ad 0 m) else -1) = -1 ∨ ∃ t, t < m ∧ (if cf_fst ad 0 m < m then nI (cf_fst ad 0 m) else -1) = nI t
    split
    · rename_i z; exact Or.inr ⟨_, z, rfl⟩
    · exact Or.inl rfl
  | false =>
    right
    show ∃ t, t < m ∧ (if m = 1 ∨ 0 < x then (0 : Int32) else if x < 0 then 1 else if m = 3 then 2 else 0) = nI t
    split
    · exact ⟨0, by omega, rfl⟩
    · rename_i z
      split
      · exact ⟨1, by have : ¬ m = 1 := fun q => z (Or.inl q); omega, rfl⟩
      · split
        · exact ⟨2, by omega, rfl⟩
        · exact ⟨0, by omega, rfl⟩
/-- what show answers, with the text and the section that shows -/
def shR (ty fi se tx st : Nat → Int32) (c : Bool) (m : Nat) (x : Int64) (r : Int32) (L : List Int32) (sb : Int32) : Prop :=
  (m = 0 ∧ r = -2 ∧ L = [] ∧ sb = -1)
  ∨ (¬ m = 0 ∧ ¬ inR x ∧ r = -3 ∧ L = [] ∧ sb = -1)
  ∨ (¬ m = 0 ∧ inR x ∧ sel m (x_any (cdF ty st) 0 m) (adF ty fi se st x) x = -1 ∧ r = -1 ∧ L = [] ∧ sb = -1)
  ∨ (¬ m = 0 ∧ inR x ∧ ∃ t, t < m ∧ sel m (x_any (cdF ty st) 0 m) (adF ty fi se st x) x = nI t ∧ ∃ res, wr ty fi se tx c (x_any (cdF ty st) 0 m) t (sA st t) (sA st (t + 1)) x res ∧ ((res = none ∧ r = -1 ∧ L = [] ∧ sb = -1) ∨ (res = some L ∧ r = nI L.length ∧ sb = nI t)))
def shF (h0 h : cf_H) : Prop := (∀ o k, ¬ (o = 0 ∧ k = 9) → ¬ (o = 13 ∧ k = 1) → ¬ (15 ≤ o ∧ o ≤ 17) → ¬ (o = 18 ∧ k = 3) → ¬ (o = 12 ∧ (k = 1 ∨ k = 2 ∨ k = 3 ∨ k = 4)) → h.1 o k = h0.1 o k) ∧ (∀ o k, ¬ (16 ≤ o ∧ o ≤ 17) → ¬ (o = 18 ∧ k = 2) → h.2.1 o k = h0.2.1 o k) ∧ h.2.2.1 = h0.2.2.1 ∧ (∀ o, o ≠ 14 → h.2.2.2 o = h0.2.2.2 o)
theorem inR_iff {x : Int64} : inR x ↔ (¬ x < -1000000000000000 ∧ x ≤ 1000000000000000) := by
  unfold inR
  exact ⟨fun z => ⟨Int64.not_lt.mpr z.1, z.2⟩, fun z => ⟨Int64.not_lt.mp z.1, z.2⟩⟩

set_option maxHeartbeats 4000000 in
set_option maxRecDepth 100000 in
theorem s_fmt_show {h : cf_H} {P : Option Value → cf_H → Prop} (hR : cf_ok h) {m n : Nat} {XS : List r_K} (hm : h.1 0 5 = nI m) (hm3 : m ≤ 3) (hS : ∀ t, t < m → ∃ A B off XS0, sV h t A B off XS XS0 n) (hB : ¬ m = 0 → x_B h XS) {c : Bool} (hc : h.1 12 0 = cf_b c) (h6 : ¬ m = 0 → h.1 0 6 = cf_b (x_any (cdF (h.2.2.2 22) (h.2.2.2 25)) 0 m)) {x : Int64} (k : ∀ h' r L sb, shR (h.2.2.2 22) (h.2.2.2 23) (h.2.2.2 24) (h.2.2.2 21) (h.2.2.2 25) c m x r L sb → L.length ≤ 256 → h'.1 13 1 = nI L.length → tx (h'.2.2.2 14) L → h'.1 0 9 = (if sb < 0 then -3 else sb) → shF h h' → P (some (.int r)) h') : RP k_fmt_show 0 [(0, .ref 0), (1, .long x)] [] h P := by
  refine rp_aload_n (i := 0) d_fmt_show_0 rfl rfl ?_
  refine rp_getR d_fmt_show_1 f_fmt_57 rfl (hR _ _ _ rfl) ?_
  refine rp_callV0 d_fmt_show_4 q_fmt_show_103 (Or.inl ⟨_, _, _, rfl, rfl⟩) (Nat.le_of_ble_eq_true rfl) (Nat.le_of_ble_eq_true rfl) ?_
  refine s_txt_clear hR ?_
  refine rp_aload_n (i := 0) d_fmt_show_7 rfl rfl ?_
  refine rp_bipush (v := (-3)) d_fmt_show_8 (by decide) ?_
  refine rp_putI d_fmt_show_10 f_fmt_61 rfl rfl rfl ?_
  have f2 : shF h (cf_pI (cf_pI h 13 1 0) 0 9 (-3)) := ⟨fun o j z1 z2 z3 z4 z5 => by rw [g_I1, if_neg z1, g_I1, if_neg z2], fun _ _ _ _ => rfl, rfl, fun _ _ => rfl⟩
  have e13 : (cf_pI (cf_pI h 13 1 0) 0 9 (-3)).1 13 1 = nI 0 := by rw [cf_pI_o (by decide), cf_pI_s]; rfl
  have e9 : (cf_pI (cf_pI h 13 1 0) 0 9 (-3)).1 0 9 = -3 := cf_pI_s
  have e5 : (cf_pI (cf_pI h 13 1 0) 0 9 (-3)).1 0 5 = nI m := by rw [cf_pI_k (by decide), cf_pI_o (by decide)]; exact hm
  have hR2 : cf_ok (cf_pI (cf_pI h 13 1 0) 0 9 (-3)) := hR
  have t0 : tx ((cf_pI (cf_pI h 13 1 0) 0 9 (-3)).2.2.2 14) [] := fun j x hx => absurd hx (by simp)
  generalize (cf_pI (cf_pI h 13 1 0) 0 9 (-3)) = h2 at f2 e13 e9 e5 hR2 t0 ⊢
  refine rp_aload_n (i := 0) d_fmt_show_13 rfl rfl ?_
  refine rp_getI d_fmt_show_14 f_fmt_40 rfl ?_
  rw [e5]
  refine rp_if_ne (tgt := 23) d_fmt_show_17 (by decide) (fun c17 => ?_) (fun c17 => ?_)
  · refine rp_lload_n (i := 1) d_fmt_show_23 rfl rfl ?_
    refine rp_ldc2 (v := (-1000000000000000)) d_fmt_show_24 l_fmt_106 ?_
    refine rp_lcmp d_fmt_show_27 ?_
    refine rp_if_lt (tgt := 39) d_fmt_show_28 (by decide) (fun c28 => ?_) (fun c28 => ?_)
    · refine rp_bipush (v := (-3)) d_fmt_show_39 (by decide) ?_
      refine rp_ireturn (ty := .int) d_fmt_show_41 rfl rfl ?_
      refine k h2 (-3) [] (-1) (Or.inr (Or.inl ⟨(fun z => c17 (by rw [z]; rfl)), fun z => (inR_iff.mp z).1 ((lg_cmp_lt _ _).mp c28), rfl, rfl, rfl⟩)) (by decide) e13 t0 e9 f2
    · refine rp_lload_n (i := 1) d_fmt_show_31 rfl rfl ?_
      refine rp_ldc2 (v := 1000000000000000) d_fmt_show_32 l_fmt_108 ?_
      refine rp_lcmp d_fmt_show_35 ?_
      refine rp_if_le (tgt := 42) d_fmt_show_36 (by decide) (fun c36 => ?_) (fun c36 => ?_)
      · refine rp_aload_n (i := 0) d_fmt_show_42 rfl rfl ?_
        refine rp_lload_n (i := 1) d_fmt_show_43 rfl rfl ?_
        refine rp_callV1 d_fmt_show_44 q_fmt_show_110 (Or.inl ⟨_, _, _, rfl, rfl⟩) (Nat.le_of_ble_eq_true rfl) (Nat.le_of_ble_eq_true rfl) ?_
        have m0 : ¬ m = 0 := fun z => c17 (by rw [z]; rfl)
        have hx : inR x := inR_iff.mpr ⟨fun z => c28 ((lg_cmp_lt _ _).mpr z), (lg_cmp_le _ _).mp c36⟩
        have ga : ∀ o, o ≠ 14 → h2.2.2.2 o = h.2.2.2 o := f2.2.2.2
        have gS : ∀ t, t < m → ∃ A B off XS0, sV h2 t A B off XS XS0 n := fun t ht => by obtain ⟨A, B, off, XS0, V⟩ := hS t ht; exact ⟨A, B, off, XS0, V.fr (fun k => f2.1 _ _ (by omega) (by omega) (by omega) (by omega) (by omega)) (fun k => f2.2.1 _ _ (by omega) (by omega)) (fun o o1 o2 => ga o (by omega))⟩
        refine s_fmt_choosePart hR2 e5 hm3 (any := x_any (cdF (h.2.2.2 22) (h.2.2.2 25)) 0 m) ((f2.1 0 6 (by decide) (by decide) (by decide) (by decide) (by decide)).trans (h6 m0)) (x := x) (ad := adF (h.2.2.2 22) (h.2.2.2 23) (h.2.2.2 24) (h.2.2.2 25) x) (fun t ht => ?_) ?_
        · obtain ⟨A, B, off, XS0, V⟩ := gS t ht
          have := (V.cond x).1
          rw [ga 22 (by decide), ga 23 (by decide), ga 24 (by decide), ga 25 (by decide)] at this
          exact this
        refine rp_istore_n (i := 3) d_fmt_show_47 rfl rfl (Nat.le_of_ble_eq_true rfl) ?_
        refine rp_iload_n (i := 3) d_fmt_show_48 rfl rfl ?_
        refine rp_if_lt (tgt := 61) d_fmt_show_49 (by decide) (fun c49 => ?_) (fun c49 => ?_)
        · refine rp_iconst (v := (-1)) d_fmt_show_61 (by decide) ?_
          refine rp_ireturn (ty := .int) d_fmt_show_62 rfl rfl ?_
          have es : (sel m (x_any (cdF (h.2.2.2 22) (h.2.2.2 25)) 0 m) (adF (h.2.2.2 22) (h.2.2.2 23) (h.2.2.2 24) (h.2.2.2 25) x) x) = -1 := by
            rcases sel_c (m := m) (any := x_any (cdF (h.2.2.2 22) (h.2.2.2 25)) 0 m) (ad := adF (h.2.2.2 22) (h.2.2.2 23) (h.2.2.2 24) (h.2.2.2 25) x) (x := x) (by omega) hm3 with z | ⟨t, t1, z⟩
            · exact z
            · rw [z] at c49; exact absurd c49 (cf_nneg (by omega))
          refine k h2 (-1) [] (-1) (Or.inr (Or.inr (Or.inl ⟨m0, hx, es, rfl, rfl, rfl⟩))) (by decide) e13 t0 e9 f2
        · refine rp_aload_n (i := 0) d_fmt_show_52 rfl rfl ?_
          refine rp_iload_n (i := 3) d_fmt_show_53 rfl rfl ?_
          refine rp_lload_n (i := 1) d_fmt_show_54 rfl rfl ?_
          refine rp_callV2 d_fmt_show_55 q_fmt_show_114 (Or.inl ⟨_, _, _, rfl, rfl⟩) (Nat.le_of_ble_eq_true rfl) (Nat.le_of_ble_eq_true rfl) ?_
          obtain ⟨t, ht, es⟩ : ∃ t, t < m ∧ (sel m (x_any (cdF (h.2.2.2 22) (h.2.2.2 25)) 0 m) (adF (h.2.2.2 22) (h.2.2.2 23) (h.2.2.2 24) (h.2.2.2 25) x) x) = nI t := by
            rcases sel_c (m := m) (any := x_any (cdF (h.2.2.2 22) (h.2.2.2 25)) 0 m) (ad := adF (h.2.2.2 22) (h.2.2.2 23) (h.2.2.2 24) (h.2.2.2 25) x) (x := x) (by omega) hm3 with z | z
            · exact absurd (by rw [z]; decide) c49
            · exact z
          obtain ⟨A, B, off, XS0, V⟩ := gS t ht
          have hA := V.1.A
          rw [ga 25 (by decide)] at hA
          have mk : ∀ res, wr (h2.2.2.2 22) (h2.2.2.2 23) (h2.2.2.2 24) (h2.2.2.2 21) c (x_any (cdF (h.2.2.2 22) (h.2.2.2 25)) 0 m) t A B x res → wr (h.2.2.2 22) (h.2.2.2 23) (h.2.2.2 24) (h.2.2.2 21) c (x_any (cdF (h.2.2.2 22) (h.2.2.2 25)) 0 m) t (sA (h.2.2.2 25) t) (sA (h.2.2.2 25) (t + 1)) x res := fun res z => by rw [ga 21 (by decide), ga 22 (by decide), ga 23 (by decide), ga 24 (by decide)] at z; rw [hA.1, hA.2]; exact z
          rw [es]
          refine s_fmt_writeBy (h := h) hR2 V ((hB m0).fr hR2 (f2.1 2 3 (by decide) (by decide) (by decide) (by decide) (by decide)) (fun o o1 o2 => ga o (by omega))) (c := c) (any := x_any (cdF (h.2.2.2 22) (h.2.2.2 25)) 0 m) ((f2.1 12 0 (by decide) (by decide) (by decide) (by decide) (by decide)).trans hc) ((f2.1 0 6 (by decide) (by decide) (by decide) (by decide) (by decide)).trans (h6 m0)) e13 hx rfl (fun h3 q1 q2 q3 => ?_) (fun h3 L q1 q2 q3 q4 q5 => ?_)
          · have f3 : shF h h3 := ⟨fun o j z1 z2 z3 z4 z5 => (q2.1 o j z2 z3 z4 z5).trans (f2.1 o j z1 z2 z3 z4 z5), fun o j z1 z2 => (q2.2.1 o j z1 z2).trans (f2.2.1 o j z1 z2), q2.2.2.1.trans f2.2.2.1, fun o e => (q2.2.2.2 o e).trans (f2.2.2.2 o e)⟩
            refine rp_if_ne (tgt := 63) d_fmt_show_58 (by decide) (fun c58 => ?_) (fun c58 => ?_)
            · exact absurd rfl c58
            · refine rp_iconst (v := (-1)) d_fmt_show_61 (by decide) ?_
              refine rp_ireturn (ty := .int) d_fmt_show_62 rfl rfl ?_
              exact k h3 (-1) [] (-1) (Or.inr (Or.inr (Or.inr ⟨m0, hx, t, ht, es, none, mk _ q1, Or.inl ⟨rfl, rfl, rfl, rfl⟩⟩))) (by decide) q3 (fun j x hx => absurd hx (by simp)) ((q2.1 0 9 (by decide) (by decide) (by decide) (by decide)).trans e9) f3
          · have f3 : shF h h3 := ⟨fun o j z1 z2 z3 z4 z5 => (q3.1 o j z2 z3 z4 z5).trans (f2.1 o j z1 z2 z3 z4 z5), fun o j z1 z2 => (q3.2.1 o j z1 z2).trans (f2.2.1 o j z1 z2), q3.2.2.1.trans f2.2.2.1, fun o e => (q3.2.2.2 o e).trans (f2.2.2.2 o e)⟩
            have hR3 : cf_ok h3 := fun o k q e => by rw [f3.2.2.1]; exact hR o k q e
            refine rp_if_ne (tgt := 63) d_fmt_show_58 (by decide) (fun c58 => ?_) (fun c58 => ?_)
            · refine rp_aload_n (i := 0) d_fmt_show_63 rfl rfl ?_
              refine rp_iload_n (i := 3) d_fmt_show_64 rfl rfl ?_
              refine rp_putI d_fmt_show_65 f_fmt_61 rfl rfl rfl ?_
              refine rp_aload_n (i := 0) d_fmt_show_68 rfl rfl ?_
              refine rp_getR d_fmt_show_69 f_fmt_57 rfl (hR3 _ _ _ rfl) ?_
              refine rp_getI d_fmt_show_72 f_fmt_118 rfl ?_
              rw [show (cf_pI h3 0 9 (nI t)).1 13 1 = nI L.length from by rw [cf_pI_o (by decide)]; exact q4]
              refine rp_ireturn (ty := .int) d_fmt_show_75 rfl rfl ?_
              exact k (cf_pI h3 0 9 (nI t)) (nI L.length) L (nI t) (Or.inr (Or.inr (Or.inr ⟨m0, hx, t, ht, es, some L, mk _ q1, Or.inr ⟨rfl, rfl, rfl⟩⟩))) q2 (by rw [cf_pI_o (by decide)]; exact q4) q5 (by rw [cf_pI_s, if_neg (cf_nneg (by omega))]) ⟨fun o j z1 z2 z3 z4 z5 => by rw [g_I1, if_neg z1]; exact f3.1 o j z1 z2 z3 z4 z5, f3.2.1, f3.2.2.1, f3.2.2.2⟩
            · exact absurd c58 (by decide)
      · refine rp_bipush (v := (-3)) d_fmt_show_39 (by decide) ?_
        refine rp_ireturn (ty := .int) d_fmt_show_41 rfl rfl ?_
        refine k h2 (-3) [] (-1) (Or.inr (Or.inl ⟨(fun z => c17 (by rw [z]; rfl)), fun z => c36 ((lg_cmp_le _ _).mpr z.2), rfl, rfl, rfl⟩)) (by decide) e13 t0 e9 f2
  · refine rp_bipush (v := (-2)) d_fmt_show_20 (by decide) ?_
    refine rp_ireturn (ty := .int) d_fmt_show_22 rfl rfl ?_
    refine k h2 (-2) [] (-1) (Or.inl ⟨(z_eq (by omega)).mp c17, rfl, rfl, rfl⟩) (by decide) e13 t0 e9 f2
