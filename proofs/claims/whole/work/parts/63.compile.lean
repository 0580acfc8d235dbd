/-! KIND and COMPILE on both sides -/
theorem sV.kd {h : cf_H} {t A B n : Nat} {off : Nat → Nat} {XS XS0 : List r_K} (V : sV h t A B off XS XS0 n) : h.1 (9 + t) 2 = r_kd (h.2.2.2 22) A B := by
  obtain ⟨v1, v2, v3, v4, v4', v5, v6, v7, v8, v9, v10⟩ := V
  obtain ⟨s1, s2, s3, s4, s5⟩ := id v1
  have I := v2.isT
  have hab := (I.mono (Nat.le_refl A) s3 s3 (Nat.le_refl B)).mpr s3
  rw [v7.1.2.2.1, kd_eq hab (by omega), I.kd s3]

set_option maxHeartbeats 4000000 in
set_option maxRecDepth 100000 in
theorem s_fmt_kind {h : cf_H} {P : Option Value → cf_H → Prop} (hR : cf_ok h) {m : Nat} (hm : h.1 0 5 = nI m) (hm3 : m ≤ 3) {x : Int32} (k0 : (x < 0 ∨ nI m ≤ x) → P (some (.int (-3))) h) (k1 : ∀ t, x = nI t → t < m → P (some (.int (h.1 (9 + t) 2))) h) : RP k_fmt_kind 0 [(0, .ref 0), (1, .int x)] [] h P := by
  refine rp_iload_n (i := 1) d_fmt_kind_0 rfl rfl ?_
  refine rp_if_lt (tgt := 24) d_fmt_kind_1 (by decide) (fun c1 => ?_) (fun c1 => ?_)
  · refine rp_bipush (v := (-3)) d_fmt_kind_24 (by decide) ?_
    refine rp_ireturn (ty := .int) d_fmt_kind_26 rfl rfl ?_
    exact k0 (Or.inl c1)
  · refine rp_iload_n (i := 1) d_fmt_kind_4 rfl rfl ?_
    refine rp_aload_n (i := 0) d_fmt_kind_5 rfl rfl ?_
    refine rp_getI d_fmt_kind_6 f_fmt_40 rfl ?_
    rw [hm]
    refine rp_icmp_ge (tgt := 24) d_fmt_kind_9 (by decide) (fun c9 => ?_) (fun c9 => ?_)
    · refine rp_bipush (v := (-3)) d_fmt_kind_24 (by decide) ?_
      refine rp_ireturn (ty := .int) d_fmt_kind_26 rfl rfl ?_
      exact k0 (Or.inr c9)
    · refine rp_aload_n (i := 0) d_fmt_kind_12 rfl rfl ?_
      refine rp_getR d_fmt_kind_13 f_fmt_35 rfl (hR _ _ _ rfl) ?_
      refine rp_iload_n (i := 1) d_fmt_kind_16 rfl rfl ?_
      obtain ⟨t, ht0, rfl⟩ := nI_of c1
      have ht : t < m := Nat.not_le.mp (fun z => c9 (nI_le z ht0))
      have hRA : cf_RA (nI t).toNatClampNeg = some (9 + t) := by
        rw [nI_clamp (by omega)]
        have : t = 0 ∨ t = 1 ∨ t = 2 := by omega
        rcases this with z | z | z <;> rw [z] <;> rfl
      have ho := s_ho (o := 9 + t) (by omega)
      refine rp_aaload d_fmt_kind_17 rfl (vp_in_nI (by omega) (by decide)) hRA ?_
      refine rp_getI d_fmt_kind_18 f_fmt_97 ho ?_
      refine rp_goto (tgt := 26) d_fmt_kind_21 (by decide) ?_
      refine rp_ireturn (ty := .int) d_fmt_kind_26 rfl rfl ?_
      exact k1 t rfl ht
set_option maxHeartbeats 4000000 in
set_option maxRecDepth 100000 in
theorem s_mod_kind {h : cf_H} {P : Option Value → cf_H → Prop} (hR : cf_ok h) {m : Nat} (hm : h.1 19 2 = nI m) (hm3 : m ≤ 3) (hs : ∀ t, t < m → ∃ a b, r_sec h t a b) {x : Int32} (k0 : (x < 0 ∨ nI m ≤ x) → P (some (.int (-3))) h) (k1 : ∀ t a b, x = nI t → t < m → r_sec h t a b → P (some (.int (r_kd (h.2.2.2 22) a b))) h) : RP k_mod_kind 0 [(0, .ref 19), (1, .int x)] [] h P := by
  refine rp_iload_n (i := 1) d_mod_kind_0 rfl rfl ?_
  refine rp_if_lt (tgt := 12) d_mod_kind_1 (by decide) (fun c1 => ?_) (fun c1 => ?_)
  · refine rp_bipush (v := (-3)) d_mod_kind_12 (by decide) ?_
    refine rp_goto (tgt := 22) d_mod_kind_14 (by decide) ?_
    refine rp_ireturn (ty := .int) d_mod_kind_22 rfl rfl ?_
    exact k0 (Or.inl c1)
  · refine rp_iload_n (i := 1) d_mod_kind_4 rfl rfl ?_
    refine rp_aload_n (i := 0) d_mod_kind_5 rfl rfl ?_
    refine rp_getI d_mod_kind_6 f_mod_79 rfl ?_
    rw [hm]
    refine rp_icmp_lt (tgt := 17) d_mod_kind_9 (by decide) (fun c9 => ?_) (fun c9 => ?_)
    · refine rp_aload_n (i := 0) d_mod_kind_17 rfl rfl ?_
      refine rp_iload_n (i := 1) d_mod_kind_18 rfl rfl ?_
      refine rp_callV1 d_mod_kind_19 q_mod_kind_102 (Or.inl ⟨_, _, _, rfl, rfl⟩) (Nat.le_of_ble_eq_true rfl) (Nat.le_of_ble_eq_true rfl) ?_
      obtain ⟨t, ht0, rfl⟩ := nI_of c1
      have ht : t < m := (nI_ltI ht0 (by omega)).mp c9
      obtain ⟨a, b, hs1⟩ := hs t ht
      refine s_mod_kindOf hR hs1 rfl ?_
      refine rp_ireturn (ty := .int) d_mod_kind_22 rfl rfl ?_
      exact k1 t a b rfl ht hs1
    · refine rp_bipush (v := (-3)) d_mod_kind_12 (by decide) ?_
      refine rp_goto (tgt := 22) d_mod_kind_14 (by decide) ?_
      refine rp_ireturn (ty := .int) d_mod_kind_22 rfl rfl ?_
      exact k0 (Or.inr (Int32.not_lt.mp c9))
theorem J_kind {h : cf_H} (j : J h) (x : Int32) : PI2 k_fmt_kind k_mod_kind [(0, .ref 0), (1, .int x)] [(0, .ref 19), (1, .int x)] h := by
  obtain ⟨hR, n, c, m, XS, n2, L, sb, a1, a2, a3, a4, a5⟩ := id j
  obtain ⟨b1, b2, b3, b4, b5, b6⟩ := id a3
  have hs : ∀ t, t < m → ∃ a b, r_sec h t a b := fun t ht => by obtain ⟨A, B, off, XS0, V⟩ := b4 t ht; exact ⟨A, B, V.1⟩
  have no : ∀ t, (x < 0 ∨ nI m ≤ x) → x = nI t → t < m → False := by
    intro t q e1 e2
    rcases q with z | z
    · rw [e1] at z; exact cf_nneg (by omega) z
    · rw [e1] at z; exact absurd ((nI_leI (by omega) (by omega)).mp z) (by omega)
  refine s_fmt_kind hR b2 b1 (fun q => ⟨_, rfl, ?_⟩) (fun t e1 e2 => ⟨_, rfl, ?_⟩)
  · exact s_mod_kind hR b3 b1 hs (fun _ => ⟨rfl, j⟩) (fun t a b y1 y2 _ => (no t q y1 y2).elim)
  · refine s_mod_kind hR b3 b1 hs (fun q => (no t q e1 e2).elim) (fun t' a b y1 y2 y3 => ⟨?_, j⟩)
    have et : t = t' := (nI_eq (by omega) (by omega)).mp (e1.symm.trans y1)
    subst et
    obtain ⟨A, B, off, XS0, V⟩ := b4 t e2
    have := V.1.inj y3
    rw [V.kd, this.1, this.2]
theorem iK_congr {c d : Nat → Int32} {n : Nat} (h : ∀ j, j < n → c j = d j) {it : i_It} (hk : iK c n it) : iK d n it := by
  rcases hk with ⟨x, y, hxy, hyn, h1, h2, h3, h4⟩ | hk
  · exact Or.inl ⟨x, y, hxy, hyn, h1, h2, h3, by rw [h4]; exact cTxt_congr _ _ (fun j j1 j2 => h j (by omega))⟩
  · exact Or.inr hk
theorem sV_of {h : cf_H} {D : List (List i_It)} {C : List i_It} {XS : List r_K} {n t : Nat} {S : List i_It} (hS : (D ++ [C])[t]? = some S) (hl3 : D.length + 1 ≤ 3) (hn : n ≤ 40) (hK : iKs (h.2.2.2 21) n S) (hT : r_hold (h.2.2.2 22) (h.2.2.2 23) (h.2.2.2 24) (i_T D C)) (hB : r_holdS (h.2.2.2 25) (i_st D 0 ++ [(i_T D C).length])) (hT40 : (i_T D C).length ≤ 40) (hX40 : XS.length ≤ 40) (hXl : XS.length = (i_X D C).length) (hw : wX XS ≤ 40) (hd : dn (i_T D C) XS h (D ++ [C]) t S) : ∃ A B off XS0, sV h t A B off XS XS0 n := by
  have ht : t < D.length + 1 := by
    apply Classical.byContradiction; intro z
    rw [List.getElem?_eq_none (by simp; omega)] at hS; exact absurd hS (by simp)
  obtain ⟨XS0, d1, d2, d3, d4, d5, d6⟩ := hd
  obtain ⟨_, w2, w3, _, _⟩ := sec_of hS
  have V := vw_of d1 hK hT
  have I := V.isT
  have I0 := d1.isT hK
  refine ⟨pR (D ++ [C]) t, pR (D ++ [C]) t + S.length, oF S (pR (D ++ [C]) t) (pC (D ++ [C]) t), XS0, ⟨?_, ?_, by omega, by omega, by omega⟩, V, hn, ?_, hX40, hw, d6, ?_, ?_, ?_, by omega⟩
  · exact hB t _ (bs_get (by omega))
  · have := bs_get (D := D) (C := C) (s := t + 1) (by omega)
    rw [pR_S hS] at this
    exact hB (t + 1) _ this
  · rw [oF_B]; omega
  · rw [oF_A, oF_B]; exact d2
  · have e1 := I.wm (by omega) (by omega) (by rw [oF_B]; omega)
    have e0 := I0.wm (by omega) (by omega) (by rw [oF_B]; omega)
    rw [← e1, e0]; exact d3
  · rw [oF_A, oF_B]; exact d5
theorem dn.fr {TS XS : List r_K} {h h' : cf_H} {L : List (List i_It)} {s : Nat} {S : List i_It} (d : dn TS XS h L s S) (g1 : ∀ k, h'.1 (9 + s) k = h.1 (9 + s) k) (g2 : ∀ k, h'.2.1 (9 + s) k = h.2.1 (9 + s) k) : dn TS XS h' L s S := by
  obtain ⟨X0, d1, d2, d3, d4, d5, d6⟩ := d
  exact ⟨X0, d1, d2.fr (o' := 0) g1 g2, d3, d4, d5, d6⟩
theorem J_compile {h : cf_H} (j : J h) : PI2 k_fmt_compile k_mod_compile [(0, .ref 0)] [(0, .ref 19)] h := by
  obtain ⟨hR, n, c, m, XS, n2, L, sb, a1, a2, a3, a4, a5⟩ := id j
  obtain ⟨b1, b2, b3, b4, b5⟩ := id a1
  have key : ∀ h1, pg h h1 → (h1.1 19 0 = nI n ∧ r_g h1 n = r_at (h.2.2.2 1) n) := by
    intro h1 f
    refine ⟨(f.1 19 0 (by decide) (by decide) (by decide) (by decide)).trans b3, ?_⟩
    funext i
    show r_at (h1.2.2.2 20) n i = _
    rw [f.2.2.2 20 (by decide)]
    unfold r_at
    split
    · rename_i z; exact (b4 i z).symm
    · rfl
  have rest : ∀ h1 h2 v, pg h h1 → r_fr (cf_pI h1 19 2 v) h2 → cf_ok h2 ∧ JC h2 n ∧ JK h2 c ∧ JT h2 L ∧ JB h2 sb := by
    intro h1 h2 v f g
    have hR2 : cf_ok h2 := fun o k q e => by rw [g.2.2.1]; exact f.ok hR o k q e
    have gi : ∀ o k, ¬ (o = 19 ∧ (k = 2 ∨ k = 4 ∨ k = 10 ∨ k = 11 ∨ k = 12 ∨ k = 13)) → ¬ (o = 2 ∧ k = 3) → ¬ (9 ≤ o ∧ o ≤ 11) → ¬ (o = 0 ∧ (k = 5 ∨ k = 6)) → ¬ (o = 6 ∧ k = 2) → h2.1 o k = h.1 o k := by
      intro o k z0 z1 z2 z3 z4
      rw [g.1 o k (by omega), g_I1, if_neg (by omega)]
      exact f.1 o k z1 z2 z3 z4
    have ga : ∀ o, ¬ (o = 21 ∨ o = 22 ∨ o = 23 ∨ o = 24 ∨ o = 25) → ¬ (o = 3 ∨ o = 4 ∨ o = 5) → h2.2.2.2 o = h.2.2.2 o := fun o z1 z2 => (g.2.2.2 o z1).trans (f.2.2.2 o z2)
    exact ⟨hR2, a1.fr (gi _ _ (by decide) (by decide) (by decide) (by decide) (by decide)) (gi _ _ (by decide) (by decide) (by decide) (by decide) (by decide)) (ga _ (by decide) (by decide)) (ga _ (by decide) (by decide)), a2.fr (gi _ _ (by decide) (by decide) (by decide) (by decide) (by decide)) (gi _ _ (by decide) (by decide) (by decide) (by decide) (by decide)), a4.fr (gi _ _ (by decide) (by decide) (by decide) (by decide) (by decide)) (gi _ _ (by decide) (by decide) (by decide) (by decide) (by decide)) (ga _ (by decide) (by decide)) (ga _ (by decide) (by decide)), a5.fr (gi _ _ (by decide) (by decide) (by decide) (by decide) (by decide)) (gi _ _ (by decide) (by decide) (by decide) (by decide) (by decide))⟩
  refine s_fmt_compile hR b2 b1 b5 (fun h1 D C X1 er hK hw hl3 hB hty hlen hdn h6 h5 f => ⟨_, rfl, ?_⟩) (fun h1 er h5 f => ⟨_, rfl, ?_⟩)
  · obtain ⟨k1, k2⟩ := key h1 f
    refine s_mod_compile (f.ok hR) k1 b1 (fun h2 TS BS e1 e2 e3 e4 e5 e6 g e7 e8 e9 => ⟨?_, ?_⟩) (fun h2 e1 g => ?_)
    · rw [k2, er] at e1
      injection e1 with e1 _
      rw [e1]
    · rw [k2, er] at e1
      injection e1 with e1 e1'
      injection e1' with e1'
      injection e1' with eT eB
      subst eT; subst eB
      have eBl : (i_st D 0 ++ [(i_T D C).length]).length - 1 = D.length + 1 := by rw [List.length_append, i_st_len]; rfl
      rw [eBl] at g
      obtain ⟨hR2, r1, r2, r3, r4⟩ := rest h1 h2 _ f g
      have gi : ∀ o k, ¬ o = 19 → h2.1 o k = h1.1 o k := fun o k z => by rw [g.1 o k (by omega), cf_pI_o z]
      have gl : h2.2.1 = h1.2.1 := g.2.1
      have ga : ∀ o, ¬ (o = 21 ∨ o = 22 ∨ o = 23 ∨ o = 24 ∨ o = 25) → h2.2.2.2 o = h1.2.2.2 o := fun o z => g.2.2.2 o z
      have h21 : ∀ i, i < n → h.2.2.2 1 i = h2.2.2.2 21 i := fun i hi => by rw [e9 i hi, f.2.2.2 20 (by decide)]; exact b4 i hi
      have hw2 : wX X1 ≤ 40 := by
        have : wX X1 = wX (i_X D C) := by rw [wX_ct9, wX_ct9, hlen, show x_ty X1 = x_ty (i_X D C) from funext hty]
        omega
      have hX2 : x_B h2 X1 := hB.fr hR2 (gi _ _ (by decide)) (fun o o1 o2 => ga o (by omega))
      have hsv : ∀ t, t < D.length + 1 → ∃ A B off XS0, sV h2 t A B off X1 XS0 n := by
        intro t ht
        have hsl : t < (D ++ [C]).length := by simp; omega
        obtain ⟨S, hS⟩ : ∃ S, (D ++ [C])[t]? = some S := ⟨_, List.getElem?_eq_getElem hsl⟩
        have hmem : S ∈ D ++ [C] := List.mem_of_getElem? hS
        exact sV_of hS hl3 b1 (fun it hi => iK_congr h21 (hK S hmem it hi)) e7 e8 e4 hB.2.2 hlen hw2 ((hdn t S hS).fr (fun k => gi _ _ (by omega)) (fun k => by rw [gl]))
      refine ⟨hR2, n, c, D.length + 1, X1, n, L, sb, r1, r2, ⟨hl3, (gi _ _ (by decide)).trans h5, ?_, hsv, fun _ => hX2, fun _ => ?_⟩, r3, r4⟩
      · rw [g.1 19 2 (by decide)]; exact cf_pI_s
      · rw [gi _ _ (by decide), h6]
        congr 1
        apply x_any_cg
        intro t _ ht
        obtain ⟨A, B, off, XS0, V⟩ := hsv t (by omega)
        rw [← (V.cond 0).2]
        unfold fl6
        rw [gi _ _ (by omega)]
    · rw [k2, er] at e1; exact absurd e1 (by simp)
  · obtain ⟨k1, k2⟩ := key h1 f
    refine s_mod_compile (f.ok hR) k1 b1 (fun h2 TS BS e1 e2 e3 e4 e5 e6 g e7 e8 e9 => ?_) (fun h2 e1 g => ⟨by rw [k2], ?_⟩)
    · rw [k2] at e1; rw [e1] at er; exact absurd er (by simp)
    · obtain ⟨hR2, r1, r2, r3, r4⟩ := rest h1 h2 _ f g
      refine ⟨hR2, n, c, 0, XS, n2, L, sb, r1, r2, ⟨by omega, ?_, ?_, fun t ht => absurd ht (by omega), fun z => absurd rfl z, fun z => absurd rfl z⟩, r3, r4⟩
      · rw [g.1 0 5 (by decide), cf_pI_o (by decide)]; exact h5
      · rw [g.1 19 2 (by decide)]; exact cf_pI_s

