/-! A COMPILED SECTION on both sides; the class's writeBy -/
def sV (h : cf_H) (t A B : Nat) (off : Nat → Nat) (XS XS0 : List r_K) (n : Nat) : Prop :=
  r_sec h t A B ∧ vw (h.2.2.2 22) (h.2.2.2 23) (h.2.2.2 24) XS0 off A B (h.2.2.2 21) n ∧ n ≤ 40 ∧ off B ≤ XS.length ∧ XS.length ≤ 40 ∧ wX XS ≤ 40 ∧ (∀ j, x_ty XS0 j = x_ty XS j) ∧ s_W h (9 + t) XS0 (off A) (off B) ∧ r_wm (h.2.2.2 22) A B = true ∧ (∀ j, off A ≤ j → j < off B → XS[j]? = (x_rd XS0 (off A) (off B))[j]?) ∧ t < 3
def inR (x : Int64) : Prop := (-1000000000000000 : Int64) ≤ x ∧ x ≤ 1000000000000000
def ab (x : Int64) : Nat := x.toInt.natAbs
theorem ab_s {x : Int64} (h : inR x) : (if 0 ≤ lg_cmp x 0 then x else -x) = lN (ab x) ∧ ab x ≤ 10 ^ 15 := by
  obtain ⟨h1, h2⟩ := h
  rw [Int64.le_iff_toInt_le] at h1 h2
  have e1 : (-1000000000000000 : Int64).toInt = -1000000000000000 := by decide
  have e2 : (1000000000000000 : Int64).toInt = 1000000000000000 := by decide
  rw [e1] at h1; rw [e2] at h2
  have hle : ab x ≤ 10 ^ 15 := by unfold ab; omega
  refine ⟨?_, hle⟩
  have hti : (lN (ab x)).toInt = (ab x : Int) := Int64.toInt_ofNat_of_lt (by omega)
  by_cases c : (0 : Int64) ≤ x
  · rw [if_pos ((lg_cmp_ge _ _).mpr c)]
    rw [Int64.le_iff_toInt_le] at c
    have c : (0 : Int) ≤ x.toInt := c
    apply Int64.toInt_inj.mp
    rw [hti]; unfold ab; omega
  · rw [if_neg (fun z => c ((lg_cmp_ge _ _).mp z))]
    rw [Int64.le_iff_toInt_le] at c
    have c : ¬ (0 : Int) ≤ x.toInt := c
    apply Int64.toInt_inj.mp
    rw [hti, Int64.toInt_neg, Int.bmod_eq_of_le (by omega) (by omega)]
    unfold ab; omega
def mns (any : Bool) (t : Nat) (x : Int64) : Bool := decide (x < 0) && !(!any && decide (t = 1))
/-- what a section writes, or none -/
def wr (ty fi se tx : Nat → Int32) (c any : Bool) (t A B : Nat) (x : Int64) (res : Option (List Int32)) : Prop :=
  (r_kd ty A B = 2 ∧ ((res = none ∧ (x < 0 ∨ ∃ u, x = lN u ∧ u ≤ 10 ^ 15 ∧ (k_hi c < mDy u ∨ (x_any (rDy ty fi se A B) A (B - A) = true ∧ mDy u < k_lo c))))
    ∨ ∃ u y m dd, x = lN u ∧ u ≤ 10 ^ 15 ∧ mDy u ≤ k_hi c ∧ (x_any (rDy ty fi se A B) A (B - A) = true → k_lo c ≤ mDy u ∧ q_day c (mDy u) y m dd) ∧ res = some (fl (rMt (mDy u) (mSe u) y m dd (k_wd c (mDy u)) ty fi se tx A B) A (B - A))))
  ∨ (r_kd ty A B = 0 ∧ res = some ((if mns any t x = true then [45] else []) ++ fl (rTp ty fi se tx) A (B - A)))
  ∨ (r_kd ty A B = 1 ∧ res = some ((if mns any t x = true ∧ ¬ (mN (ab x) (r_sk ty A B A (B - A)) ty A B).1 = 0 then [45] else []) ++ fl (rTk (mN (ab x) (r_sk ty A B A (B - A)) ty A B).1 (mN (ab x) (r_sk ty A B A (B - A)) ty A B).2.1 (mN (ab x) (r_sk ty A B A (B - A)) ty A B).2.2.natAbs (decide ((mN (ab x) (r_sk ty A B A (B - A)) ty A B).2.2 < 0)) (x_any (r_ag2 ty A B) A (B - A)) ty fi se tx A B) A (B - A)))
theorem fl_congr {f g : Nat → List Int32} : ∀ n a, (∀ j, a ≤ j → j < a + n → f j = g j) → fl f a n = fl g a n := by
  intro n
  induction n with
  | zero => intro a _; rfl
  | succ n ih => intro a h; rw [fl_S, fl_S, h a (by omega) (by omega), ih (a + 1) (fun j h1 h2 => h j (by omega) (by omega))]
theorem wm_num {ty : Nat → Int32} {A B : Nat} (h : r_wm ty A B = true) (hk : r_kd ty A B = 1) : r_w3 ty A B = true := by
  unfold r_wm at h
  split at h
  · exact absurd h (by decide)
  · unfold r_w2 at h
    rw [hk, if_neg (by decide), if_neg (by decide)] at h
    exact h
theorem w3_facts {ty : Nat → Int32} {A B : Nat} (h : r_w3 ty A B = true) (hAB : A ≤ B) (hB : B ≤ 40) : r_ct ty 5 A B ≤ 2 ∧ (¬ r_fd ty 6 A B = B → 1 ≤ r_ip ty A B ∧ r_sk ty A B A (B - A) = 0) := by
  have l3 := r_ct_le ty 3 A B
  have l6 := r_ct_le ty 6 A B
  have l5 := r_ct_le ty 5 A B
  have l4 := r_ct_le ty 4 A B
  have i1 := r_ie_le (ty := ty) hAB
  have l8 := r_ct_le ty 2 A (r_ie ty A B)
  unfold r_w3 at h
  split at h
  · exact absurd h (by decide)
  · rename_i h1
    split at h
    · exact absurd h (by decide)
    · rename_i h2
      refine ⟨?_, fun hx => ?_⟩
      · apply Classical.byContradiction; intro z
        exact h1 (Or.inr (Or.inr (fun q => z ((nI_leI (b := 2) (by omega) (by decide)).mp q))))
      · have e6 : ¬ r_ct ty 6 A B = 0 := fun z => hx ((r_fd_ct hAB).mpr z)
        have e61 : r_ct ty 6 A B = 1 := by
          apply Classical.byContradiction; intro z
          exact h1 (Or.inr (Or.inl ((nI_ltI (a := 1) (by decide) (by omega)).mpr (by omega))))
        have n6 : nI (r_ct ty 6 A B) = 1 := by rw [e61]; rfl
        have e4 : r_ct ty 4 A B = 0 := by
          apply Classical.byContradiction; intro z
          exact h2 ⟨n6, Or.inr (Or.inr (Or.inl ((nI_ltI (a := 0) (by decide) (by omega)).mpr (by omega))))⟩
        refine ⟨?_, ?_⟩
        · apply Nat.pos_of_ne_zero; intro z
          exact h2 ⟨n6, Or.inr (Or.inr (Or.inr ((z_eq (by omega)).mpr z)))⟩
        · exact (cmz_none (B - A) A (by rw [show A + (B - A) = B by omega]; exact e4)).2.2
/-- what writing changes -/
def wFr (h0 h : cf_H) : Prop := (∀ o k, ¬ (o = 13 ∧ k = 1) → ¬ (15 ≤ o ∧ o ≤ 17) → ¬ (o = 18 ∧ k = 3) → ¬ (o = 12 ∧ (k = 1 ∨ k = 2 ∨ k = 3 ∨ k = 4)) → h.1 o k = h0.1 o k) ∧ (∀ o k, ¬ (16 ≤ o ∧ o ≤ 17) → ¬ (o = 18 ∧ k = 2) → h.2.1 o k = h0.2.1 o k) ∧ h.2.2.1 = h0.2.2.1 ∧ (∀ o, o ≠ 14 → h.2.2.2 o = h0.2.2.2 o)
theorem isT.mN {tyR tyC : Nat → Int32} {off : Nat → Nat} {A B : Nat} (I : isT tyR tyC off A B) (hAB : A ≤ B) (n sc : Nat) : mN n sc tyC (off A) (off B) = mN n sc tyR A B := by
  unfold _root_.Jvm.Pilot.CCellFormatterLaw_law_r6748_642b05.mN
  have e : decide (r_fd tyC 6 (off A) (off B) = off B) = decide (r_fd tyR 6 A B = B) := by
    apply decide_eq_decide.mpr
    rw [show r_fd tyC 6 (off A) (off B) = off (r_fd tyR 6 A B) from I.fdAB hAB sOk6]
    have k1 := r_fd_ge tyR 6 A B
    have k2 := r_fd_le (ty := tyR) (w := 6) hAB
    have m1 := I.mono (i := B) (j := r_fd tyR 6 A B) hAB (Nat.le_refl _) k1 k2
    have m2 := I.mono (i := r_fd tyR 6 A B) (j := B) k1 k2 hAB (Nat.le_refl _)
    omega
  rw [e, show r_ct tyC 5 (off A) (off B) = r_ct tyR 5 A B from I.ct sOk5 (Nat.le_refl _) hAB (Nat.le_refl _), I.ip hAB, I.pl hAB]

set_option maxHeartbeats 4000000 in
set_option maxRecDepth 100000 in
theorem s_fmt_writeBy {h h1 : cf_H} {P : Option Value → cf_H → Prop} (hR : cf_ok h1) {t A B n : Nat} {off : Nat → Nat} {XS XS0 : List r_K} (V : sV h1 t A B off XS XS0 n) (hB : x_B h1 XS) {c any : Bool} (hc : h1.1 12 0 = cf_b c) (h6 : h1.1 0 6 = cf_b any) (hL : h1.1 13 1 = nI 0) {x : Int64} (hx : inR x) {z : Int32} (hz : z = nI t) (k0 : ∀ h', (wr (h1.2.2.2 22) (h1.2.2.2 23) (h1.2.2.2 24) (h1.2.2.2 21) c any t A B x none) → wFr h1 h' → h'.1 13 1 = nI 0 → P (some (.int 0)) h') (k1 : ∀ h' L, (wr (h1.2.2.2 22) (h1.2.2.2 23) (h1.2.2.2 24) (h1.2.2.2 21) c any t A B x (some L)) → L.length ≤ 256 → wFr h1 h' → h'.1 13 1 = nI L.length → tx (h'.2.2.2 14) L → P (some (.int 1)) h') : RP k_fmt_writeBy 0 [(0, .ref 0), (1, .int z), (2, .long x)] [] h1 P := by
  subst hz
  obtain ⟨v1, v2, v3, v4, v4', v5, v6, v7, v8, v9, v10⟩ := V
  obtain ⟨s1, s2, s3, s4, s5⟩ := id v1
  obtain ⟨⟨g0, g1, g2, g3, g4⟩, w1, w2⟩ := v7
  have I := v2.isT
  have hab := (I.mono (Nat.le_refl A) s3 s3 (Nat.le_refl B)).mpr s3
  have b40 : off B ≤ 40 := by omega
  have ho9 : 9 ≤ 9 + t ∧ 9 + t ≤ 11 := by omega
  have ho := s_ho ho9
  have ety : x_ty XS0 = x_ty XS := funext v6
  have hkd : c_kd XS0 (off A) (off B) = r_kd (h1.2.2.2 22) A B := by rw [kd_eq hab b40, I.kd s3]
  have hRA : cf_RA (nI t).toNatClampNeg = some (9 + t) := by rw [nI_clamp (by omega)]; have : t = 0 ∨ t = 1 ∨ t = 2 := by omega
                                                             rcases this with z | z | z <;> rw [z] <;> rfl
  have t0 : tx (h1.2.2.2 14) [] := fun j x hx => absurd hx (by simp)
  refine rp_aload_n (i := 0) d_fmt_writeBy_0 rfl rfl ?_
  refine rp_getR d_fmt_writeBy_1 f_fmt_35 rfl (hR _ _ _ rfl) ?_
  refine rp_iload_n (i := 1) d_fmt_writeBy_4 rfl rfl ?_
  refine rp_aaload d_fmt_writeBy_5 rfl (vp_in_nI (by omega) (by decide)) hRA ?_
  refine rp_astore (i := 4) d_fmt_writeBy_6 rfl (Nat.le_of_ble_eq_true rfl) ?_
  refine rp_aload (i := 4) d_fmt_writeBy_8 rfl ?_
  refine rp_getI d_fmt_writeBy_10 f_fmt_97 ho ?_
  rw [g2, hkd]
  refine rp_iconst (v := 2) d_fmt_writeBy_13 (by decide) ?_
  refine rp_icmp_ne (tgt := 32) d_fmt_writeBy_14 (by decide) (fun c14 => ?_) (fun c14 => ?_)
  · refine rp_aload_n (i := 0) d_fmt_writeBy_32 rfl rfl ?_
    refine rp_getI d_fmt_writeBy_33 f_fmt_43 rfl ?_
    rw [h6]
    refine rp_if_ne (tgt := 48) d_fmt_writeBy_36 (by decide) (fun c36 => ?_) (fun c36 => ?_)
    · refine rp_iconst (v := 0) d_fmt_writeBy_48 (by decide) ?_
      refine rp_istore (i := 5) d_fmt_writeBy_49 rfl (Nat.le_of_ble_eq_true rfl) ?_
      refine rp_lload_n (i := 2) d_fmt_writeBy_51 rfl rfl ?_
      refine rp_lconst (v := 0) d_fmt_writeBy_52 (by decide) ?_
      refine rp_lcmp d_fmt_writeBy_53 ?_
      refine rp_if_ge (tgt := 66) d_fmt_writeBy_54 (by decide) (fun c54 => ?_) (fun c54 => ?_)
      · refine rp_iconst (v := 0) d_fmt_writeBy_66 (by decide) ?_
        have emn : cf_b (mns any t x) = 0 := by unfold mns; rw [decide_eq_false (Int64.not_lt.mpr ((lg_cmp_ge _ _).mp c54))]; rfl
        refine rp_istore (i := 6) d_fmt_writeBy_67 rfl (Nat.le_of_ble_eq_true rfl) ?_
        refine rp_aload (i := 4) d_fmt_writeBy_69 rfl ?_
        refine rp_getI d_fmt_writeBy_71 f_fmt_97 ho ?_
        rw [g2, hkd]
        refine rp_iconst (v := 1) d_fmt_writeBy_74 (by decide) ?_
        refine rp_icmp_ne (tgt := 100) d_fmt_writeBy_75 (by decide) (fun c75 => ?_) (fun c75 => ?_)
        · refine rp_aload_n (i := 0) d_fmt_writeBy_100 rfl rfl ?_
          refine rp_aload (i := 4) d_fmt_writeBy_101 rfl ?_
          refine rp_iload (i := 6) d_fmt_writeBy_103 rfl ?_
          refine rp_callV2 d_fmt_writeBy_105 q_fmt_writeBy_175 (Or.inl ⟨_, _, _, rfl, rfl⟩) (Nat.le_of_ble_eq_true rfl) (Nat.le_of_ble_eq_true rfl) ?_
          have hk0 : r_kd (h1.2.2.2 22) A B = 0 := by rcases kd_cases (h1.2.2.2 22) A B with q | q | q; exact q; exact absurd q c75; exact absurd q c14
          have hk1 : ¬ c_kd XS0 (off A) (off B) = 1 := by rw [hkd, hk0]; decide
          have hX : mnX XS XS0 (off A) (off B) := fun j j1 j2 => by rw [v9 j j1 j2, x_rd, if_neg hk1]
          have hpl := pln_le (ty := x_ty XS) (va := x_va XS) hab
          have ep : fl (cTp (x_ty XS) (x_va XS)) (off A) (off B - off A) = fl (rTp (h1.2.2.2 22) (h1.2.2.2 23) (h1.2.2.2 24) (h1.2.2.2 21)) A (B - A) := by
            rw [← pln_same v2 v3 (tx := h1.2.2.2 21) (fun j _ => rfl) s3]
            apply fl_congr
            intro j j1 j2
            obtain ⟨u1, u2, u3⟩ := hX.at j1 (show j < off B by omega)
            unfold cTp
            rw [u1]
            split
            · rename_i q; rw [u3, mi_8 (by rw [q]; decide)]; rfl
            · rfl
          refine s_fmt_writePlain (h0 := h1) ho9 hB g1 b40 g0 hab (L := []) ⟨hR, w_fr.rf h1, hL, t0⟩ emn.symm (by show 0 + 1 + _ ≤ 256; omega) (fun h3 q2 => ?_)
          rw [List.nil_append, ep] at q2
          rw [ep] at hpl
          have hw : wFr h1 h3 := ⟨fun o k z1 z2 z3 z4 => q2.2.1.1 o k z1, fun o k z1 z2 => by rw [q2.2.1.2.1], q2.2.1.2.2.1, q2.2.1.2.2.2⟩
          refine rp_iconst (v := 1) d_fmt_writeBy_108 (by decide) ?_
          refine rp_ireturn (ty := .boolean) d_fmt_writeBy_109 rfl (by first | rfl | decide | assumption) ?_
          exact k1 h3 _ (Or.inr (Or.inl ⟨hk0, rfl⟩)) (by rw [List.length_append]; have : (if mns any t x = true then [45] else ([] : List Int32)).length ≤ 1 := (by split <;> simp); omega) hw q2.2.2.1 q2.2.2.2
        · refine rp_aload_n (i := 0) d_fmt_writeBy_78 rfl rfl ?_
          refine rp_getR d_fmt_writeBy_79 f_fmt_69 rfl (hR _ _ _ rfl) ?_
          refine rp_aload_n (i := 0) d_fmt_writeBy_82 rfl rfl ?_
          refine rp_getR d_fmt_writeBy_83 f_fmt_20 rfl (hR _ _ _ rfl) ?_
          refine rp_aload (i := 4) d_fmt_writeBy_86 rfl ?_
          refine rp_lload_n (i := 2) d_fmt_writeBy_88 rfl rfl ?_
          refine rp_callS1 d_fmt_writeBy_89 q_fmt_writeBy_166 (Nat.le_of_ble_eq_true rfl) (Nat.le_of_ble_eq_true rfl) ?_
          refine s_math_abs_J ?_
          rw [(ab_s hx).1]
          refine rp_iload (i := 6) d_fmt_writeBy_92 rfl ?_
          refine rp_callV4 d_fmt_writeBy_94 q_fmt_writeBy_172 (Or.inl ⟨_, _, _, rfl, rfl⟩) (Nat.le_of_ble_eq_true rfl) (Nat.le_of_ble_eq_true rfl) ?_
          have hk1 : r_kd (h1.2.2.2 22) A B = 1 := c75
          have hkc : c_kd XS0 (off A) (off B) = 1 := by rw [hkd, hk1]
          obtain ⟨gr, sc, n1, n2⟩ := w1 hkc
          have hw3 := wm_num v8 hk1
          obtain ⟨hpc, hex⟩ := w3_facts hw3 s3 s4
          have hw3c : r_w3 (x_ty XS0) (off A) (off B) = true := by
            cases q : r_w3 (x_ty XS0) (off A) (off B) with
            | true => rfl
            | false => rw [c_num_eq hab b40, q] at n1; exact absurd n1 (by simp)
          rw [c_num_eq hab b40, hw3c, if_pos rfl] at n1
          obtain ⟨egr, esc⟩ : x_any (r_ag2 (x_ty XS0) (off A) (off B)) (off A) (off B - off A) = gr ∧ r_sk (x_ty XS0) (off A) (off B) (off A) (off B - off A) = sc := by injection n1 with n1; injection n1 with n3 n4; exact ⟨n3, n4⟩
          rw [I.ag s3] at egr; rw [I.sk s3] at esc
          have V2 : vw (h1.2.2.2 22) (h1.2.2.2 23) (h1.2.2.2 24) XS off A B (h1.2.2.2 21) n := v2.keep (fun j j1 j2 => by rw [v9 j j1 j2, x_rd, if_pos hkc])
          have I2 := V2.isT
          rw [ety] at n2
          have hpcC : r_ct (x_ty XS) 5 (off A) (off B) ≤ 2 := by rw [show r_ct (x_ty XS) 5 (off A) (off B) = r_ct (h1.2.2.2 22) 5 A B from I2.ct sOk5 (Nat.le_refl _) s3 (Nat.le_refl _)]; exact hpc
          have hipC : ¬ r_fd (x_ty XS) 6 (off A) (off B) = off B → 1 ≤ r_ip (x_ty XS) (off A) (off B) := fun z => by rw [I2.ip s3]; exact (hex (fun q => z (by rw [show r_fd (x_ty XS) 6 (off A) (off B) = off (r_fd (h1.2.2.2 22) 6 A B) from I2.fdAB s3 sOk6, q]))).1
          have hsc40 : sc ≤ 40 := by rw [← esc]; have : r_sk (h1.2.2.2 22) A B A (B - A) ≤ B - A := cf_cnt_le _ _ _; omega
          obtain ⟨ea, el⟩ := ab_s hx
          have h1516 : (10 : Nat) ^ 15 < 10 ^ 16 := by decide
          have hbd := mN_E (n := ab x) (sc := sc) (ty := x_ty XS) (a := off A) (b := off B) (by omega) hpcC hsc40 hipC b40 hab
          have hnl := num_le (N := (mN (ab x) sc (x_ty XS) (off A) (off B)).1) (pw := (mN (ab x) sc (x_ty XS) (off A) (off B)).2.1) (e := (mN (ab x) sc (x_ty XS) (off A) (off B)).2.2.natAbs) (neg := decide ((mN (ab x) sc (x_ty XS) (off A) (off B)).2.2 < 0)) (gr := gr) (ty := x_ty XS) (va := x_va XS) hab (by omega) (mN_tp (by omega) hpcC) (by omega)
          refine s_num_write hR (L := []) ⟨hL, t0⟩ ho9 hB n2 g0 g1 hab b40 (n := ab x) (by omega) hpcC hsc40 hipC rfl emn.symm (by show 0 + 1 + _ ≤ 256; omega) (fun h3 h2 q1 q2 => ?_)
          rw [List.nil_append, I2.mN s3, num_same V2 v3 (tx := h1.2.2.2 21) (fun j _ => rfl) s3, ← egr, ← esc] at q2
          rw [I2.mN s3, num_same V2 v3 (tx := h1.2.2.2 21) (fun j _ => rfl) s3, ← egr, ← esc] at hnl
          have hw : wFr h1 h3 := ⟨fun o k z1 z2 z3 z4 => (q2.2.1 o k z1 (by omega)).trans (q1.1 o k z2), fun o k z1 z2 => by rw [q2.2.2.1]; exact q1.2.1 o k z1, by rw [q2.2.2.2.1, q1.2.2], fun o e => by rw [q2.2.2.2.2.1 o e, q1.2.2]⟩
          refine rp_goto (tgt := 108) d_fmt_writeBy_97 (by decide) ?_
          refine rp_iconst (v := 1) d_fmt_writeBy_108 (by decide) ?_
          refine rp_ireturn (ty := .boolean) d_fmt_writeBy_109 rfl (by first | rfl | decide | assumption) ?_
          exact k1 h3 _ (Or.inr (Or.inr ⟨hk1, rfl⟩)) (by rw [List.length_append]; have : (if mns any t x = true ∧ ¬ (mN (ab x) (r_sk (h1.2.2.2 22) A B A (B - A)) (h1.2.2.2 22) A B).1 = 0 then [45] else ([] : List Int32)).length ≤ 1 := (by split <;> simp); omega) hw q2.2.2.2.2.2.1 q2.2.2.2.2.2.2
      · refine rp_iload (i := 5) d_fmt_writeBy_57 rfl ?_
        refine rp_if_ne (tgt := 66) d_fmt_writeBy_59 (by decide) (fun c59 => ?_) (fun c59 => ?_)
        · exact absurd rfl c59
        · refine rp_iconst (v := 1) d_fmt_writeBy_62 (by decide) ?_
          refine rp_goto (tgt := 67) d_fmt_writeBy_63 (by decide) ?_
          have emn : cf_b (mns any t x) = 1 := by unfold mns; rw [decide_eq_true (Int64.not_le.mp (fun q => c54 ((lg_cmp_ge _ _).mpr q))), cf_b_t c36]; rfl
          refine rp_istore (i := 6) d_fmt_writeBy_67 rfl (Nat.le_of_ble_eq_true rfl) ?_
          refine rp_aload (i := 4) d_fmt_writeBy_69 rfl ?_
          refine rp_getI d_fmt_writeBy_71 f_fmt_97 ho ?_
          rw [g2, hkd]
          refine rp_iconst (v := 1) d_fmt_writeBy_74 (by decide) ?_
          refine rp_icmp_ne (tgt := 100) d_fmt_writeBy_75 (by decide) (fun c75 => ?_) (fun c75 => ?_)
          · refine rp_aload_n (i := 0) d_fmt_writeBy_100 rfl rfl ?_
            refine rp_aload (i := 4) d_fmt_writeBy_101 rfl ?_
            refine rp_iload (i := 6) d_fmt_writeBy_103 rfl ?_
            refine rp_callV2 d_fmt_writeBy_105 q_fmt_writeBy_175 (Or.inl ⟨_, _, _, rfl, rfl⟩) (Nat.le_of_ble_eq_true rfl) (Nat.le_of_ble_eq_true rfl) ?_
            have hk0 : r_kd (h1.2.2.2 22) A B = 0 := by rcases kd_cases (h1.2.2.2 22) A B with q | q | q; exact q; exact absurd q c75; exact absurd q c14
            have hk1 : ¬ c_kd XS0 (off A) (off B) = 1 := by rw [hkd, hk0]; decide
            have hX : mnX XS XS0 (off A) (off B) := fun j j1 j2 => by rw [v9 j j1 j2, x_rd, if_neg hk1]
            have hpl := pln_le (ty := x_ty XS) (va := x_va XS) hab
            have ep : fl (cTp (x_ty XS) (x_va XS)) (off A) (off B - off A) = fl (rTp (h1.2.2.2 22) (h1.2.2.2 23) (h1.2.2.2 24) (h1.2.2.2 21)) A (B - A) := by
              rw [← pln_same v2 v3 (tx := h1.2.2.2 21) (fun j _ => rfl) s3]
              apply fl_congr
              intro j j1 j2
              obtain ⟨u1, u2, u3⟩ := hX.at j1 (show j < off B by omega)
              unfold cTp
              rw [u1]
              split
              · rename_i q; rw [u3, mi_8 (by rw [q]; decide)]; rfl
              · rfl
            refine s_fmt_writePlain (h0 := h1) ho9 hB g1 b40 g0 hab (L := []) ⟨hR, w_fr.rf h1, hL, t0⟩ emn.symm (by show 0 + 1 + _ ≤ 256; omega) (fun h3 q2 => ?_)
            rw [List.nil_append, ep] at q2
            rw [ep] at hpl
            have hw : wFr h1 h3 := ⟨fun o k z1 z2 z3 z4 => q2.2.1.1 o k z1, fun o k z1 z2 => by rw [q2.2.1.2.1], q2.2.1.2.2.1, q2.2.1.2.2.2⟩
            refine rp_iconst (v := 1) d_fmt_writeBy_108 (by decide) ?_
            refine rp_ireturn (ty := .boolean) d_fmt_writeBy_109 rfl (by first | rfl | decide | assumption) ?_
            exact k1 h3 _ (Or.inr (Or.inl ⟨hk0, rfl⟩)) (by rw [List.length_append]; have : (if mns any t x = true then [45] else ([] : List Int32)).length ≤ 1 := (by split <;> simp); omega) hw q2.2.2.1 q2.2.2.2
          · refine rp_aload_n (i := 0) d_fmt_writeBy_78 rfl rfl ?_
            refine rp_getR d_fmt_writeBy_79 f_fmt_69 rfl (hR _ _ _ rfl) ?_
            refine rp_aload_n (i := 0) d_fmt_writeBy_82 rfl rfl ?_
            refine rp_getR d_fmt_writeBy_83 f_fmt_20 rfl (hR _ _ _ rfl) ?_
            refine rp_aload (i := 4) d_fmt_writeBy_86 rfl ?_
            refine rp_lload_n (i := 2) d_fmt_writeBy_88 rfl rfl ?_
            refine rp_callS1 d_fmt_writeBy_89 q_fmt_writeBy_166 (Nat.le_of_ble_eq_true rfl) (Nat.le_of_ble_eq_true rfl) ?_
            refine s_math_abs_J ?_
            rw [(ab_s hx).1]
            refine rp_iload (i := 6) d_fmt_writeBy_92 rfl ?_
            refine rp_callV4 d_fmt_writeBy_94 q_fmt_writeBy_172 (Or.inl ⟨_, _, _, rfl, rfl⟩) (Nat.le_of_ble_eq_true rfl) (Nat.le_of_ble_eq_true rfl) ?_
            have hk1 : r_kd (h1.2.2.2 22) A B = 1 := c75
            have hkc : c_kd XS0 (off A) (off B) = 1 := by rw [hkd, hk1]
            obtain ⟨gr, sc, n1, n2⟩ := w1 hkc
            have hw3 := wm_num v8 hk1
            obtain ⟨hpc, hex⟩ := w3_facts hw3 s3 s4
            have hw3c : r_w3 (x_ty XS0) (off A) (off B) = true := by
              cases q : r_w3 (x_ty XS0) (off A) (off B) with
              | true => rfl
              | false => rw [c_num_eq hab b40, q] at n1; exact absurd n1 (by simp)
            rw [c_num_eq hab b40, hw3c, if_pos rfl] at n1
            obtain ⟨egr, esc⟩ : x_any (r_ag2 (x_ty XS0) (off A) (off B)) (off A) (off B - off A) = gr ∧ r_sk (x_ty XS0) (off A) (off B) (off A) (off B - off A) = sc := by injection n1 with n1; injection n1 with n3 n4; exact ⟨n3, n4⟩
            rw [I.ag s3] at egr; rw [I.sk s3] at esc
            have V2 : vw (h1.2.2.2 22) (h1.2.2.2 23) (h1.2.2.2 24) XS off A B (h1.2.2.2 21) n := v2.keep (fun j j1 j2 => by rw [v9 j j1 j2, x_rd, if_pos hkc])
            have I2 := V2.isT
            rw [ety] at n2
            have hpcC : r_ct (x_ty XS) 5 (off A) (off B) ≤ 2 := by rw [show r_ct (x_ty XS) 5 (off A) (off B) = r_ct (h1.2.2.2 22) 5 A B from I2.ct sOk5 (Nat.le_refl _) s3 (Nat.le_refl _)]; exact hpc
            have hipC : ¬ r_fd (x_ty XS) 6 (off A) (off B) = off B → 1 ≤ r_ip (x_ty XS) (off A) (off B) := fun z => by rw [I2.ip s3]; exact (hex (fun q => z (by rw [show r_fd (x_ty XS) 6 (off A) (off B) = off (r_fd (h1.2.2.2 22) 6 A B) from I2.fdAB s3 sOk6, q]))).1
            have hsc40 : sc ≤ 40 := by rw [← esc]; have : r_sk (h1.2.2.2 22) A B A (B - A) ≤ B - A := cf_cnt_le _ _ _; omega
            obtain ⟨ea, el⟩ := ab_s hx
            have h1516 : (10 : Nat) ^ 15 < 10 ^ 16 := by decide
            have hbd := mN_E (n := ab x) (sc := sc) (ty := x_ty XS) (a := off A) (b := off B) (by omega) hpcC hsc40 hipC b40 hab
            have hnl := num_le (N := (mN (ab x) sc (x_ty XS) (off A) (off B)).1) (pw := (mN (ab x) sc (x_ty XS) (off A) (off B)).2.1) (e := (mN (ab x) sc (x_ty XS) (off A) (off B)).2.2.natAbs) (neg := decide ((mN (ab x) sc (x_ty XS) (off A) (off B)).2.2 < 0)) (gr := gr) (ty := x_ty XS) (va := x_va XS) hab (by omega) (mN_tp (by omega) hpcC) (by omega)
            refine s_num_write hR (L := []) ⟨hL, t0⟩ ho9 hB n2 g0 g1 hab b40 (n := ab x) (by omega) hpcC hsc40 hipC rfl emn.symm (by show 0 + 1 + _ ≤ 256; omega) (fun h3 h2 q1 q2 => ?_)
            rw [List.nil_append, I2.mN s3, num_same V2 v3 (tx := h1.2.2.2 21) (fun j _ => rfl) s3, ← egr, ← esc] at q2
            rw [I2.mN s3, num_same V2 v3 (tx := h1.2.2.2 21) (fun j _ => rfl) s3, ← egr, ← esc] at hnl
            have hw : wFr h1 h3 := ⟨fun o k z1 z2 z3 z4 => (q2.2.1 o k z1 (by omega)).trans (q1.1 o k z2), fun o k z1 z2 => by rw [q2.2.2.1]; exact q1.2.1 o k z1, by rw [q2.2.2.2.1, q1.2.2], fun o e => by rw [q2.2.2.2.2.1 o e, q1.2.2]⟩
            refine rp_goto (tgt := 108) d_fmt_writeBy_97 (by decide) ?_
            refine rp_iconst (v := 1) d_fmt_writeBy_108 (by decide) ?_
            refine rp_ireturn (ty := .boolean) d_fmt_writeBy_109 rfl (by first | rfl | decide | assumption) ?_
            exact k1 h3 _ (Or.inr (Or.inr ⟨hk1, rfl⟩)) (by rw [List.length_append]; have : (if mns any t x = true ∧ ¬ (mN (ab x) (r_sk (h1.2.2.2 22) A B A (B - A)) (h1.2.2.2 22) A B).1 = 0 then [45] else ([] : List Int32)).length ≤ 1 := (by split <;> simp); omega) hw q2.2.2.2.2.2.1 q2.2.2.2.2.2.2
    · refine rp_iload_n (i := 1) d_fmt_writeBy_39 rfl rfl ?_
      refine rp_iconst (v := 1) d_fmt_writeBy_40 (by decide) ?_
      refine rp_icmp_ne (tgt := 48) d_fmt_writeBy_41 (by decide) (fun c41 => ?_) (fun c41 => ?_)
      · refine rp_iconst (v := 0) d_fmt_writeBy_48 (by decide) ?_
        refine rp_istore (i := 5) d_fmt_writeBy_49 rfl (Nat.le_of_ble_eq_true rfl) ?_
        refine rp_lload_n (i := 2) d_fmt_writeBy_51 rfl rfl ?_
        refine rp_lconst (v := 0) d_fmt_writeBy_52 (by decide) ?_
        refine rp_lcmp d_fmt_writeBy_53 ?_
        refine rp_if_ge (tgt := 66) d_fmt_writeBy_54 (by decide) (fun c54 => ?_) (fun c54 => ?_)
        · refine rp_iconst (v := 0) d_fmt_writeBy_66 (by decide) ?_
          have emn : cf_b (mns any t x) = 0 := by unfold mns; rw [decide_eq_false (Int64.not_lt.mpr ((lg_cmp_ge _ _).mp c54))]; rfl
          refine rp_istore (i := 6) d_fmt_writeBy_67 rfl (Nat.le_of_ble_eq_true rfl) ?_
          refine rp_aload (i := 4) d_fmt_writeBy_69 rfl ?_
          refine rp_getI d_fmt_writeBy_71 f_fmt_97 ho ?_
          rw [g2, hkd]
          refine rp_iconst (v := 1) d_fmt_writeBy_74 (by decide) ?_
          refine rp_icmp_ne (tgt := 100) d_fmt_writeBy_75 (by decide) (fun c75 => ?_) (fun c75 => ?_)
          · refine rp_aload_n (i := 0) d_fmt_writeBy_100 rfl rfl ?_
            refine rp_aload (i := 4) d_fmt_writeBy_101 rfl ?_
            refine rp_iload (i := 6) d_fmt_writeBy_103 rfl ?_
            refine rp_callV2 d_fmt_writeBy_105 q_fmt_writeBy_175 (Or.inl ⟨_, _, _, rfl, rfl⟩) (Nat.le_of_ble_eq_true rfl) (Nat.le_of_ble_eq_true rfl) ?_
            have hk0 : r_kd (h1.2.2.2 22) A B = 0 := by rcases kd_cases (h1.2.2.2 22) A B with q | q | q; exact q; exact absurd q c75; exact absurd q c14
            have hk1 : ¬ c_kd XS0 (off A) (off B) = 1 := by rw [hkd, hk0]; decide
            have hX : mnX XS XS0 (off A) (off B) := fun j j1 j2 => by rw [v9 j j1 j2, x_rd, if_neg hk1]
            have hpl := pln_le (ty := x_ty XS) (va := x_va XS) hab
            have ep : fl (cTp (x_ty XS) (x_va XS)) (off A) (off B - off A) = fl (rTp (h1.2.2.2 22) (h1.2.2.2 23) (h1.2.2.2 24) (h1.2.2.2 21)) A (B - A) := by
              rw [← pln_same v2 v3 (tx := h1.2.2.2 21) (fun j _ => rfl) s3]
              apply fl_congr
              intro j j1 j2
              obtain ⟨u1, u2, u3⟩ := hX.at j1 (show j < off B by omega)
              unfold cTp
              rw [u1]
              split
              · rename_i q; rw [u3, mi_8 (by rw [q]; decide)]; rfl
              · rfl
            refine s_fmt_writePlain (h0 := h1) ho9 hB g1 b40 g0 hab (L := []) ⟨hR, w_fr.rf h1, hL, t0⟩ emn.symm (by show 0 + 1 + _ ≤ 256; omega) (fun h3 q2 => ?_)
            rw [List.nil_append, ep] at q2
            rw [ep] at hpl
            have hw : wFr h1 h3 := ⟨fun o k z1 z2 z3 z4 => q2.2.1.1 o k z1, fun o k z1 z2 => by rw [q2.2.1.2.1], q2.2.1.2.2.1, q2.2.1.2.2.2⟩
            refine rp_iconst (v := 1) d_fmt_writeBy_108 (by decide) ?_
            refine rp_ireturn (ty := .boolean) d_fmt_writeBy_109 rfl (by first | rfl | decide | assumption) ?_
            exact k1 h3 _ (Or.inr (Or.inl ⟨hk0, rfl⟩)) (by rw [List.length_append]; have : (if mns any t x = true then [45] else ([] : List Int32)).length ≤ 1 := (by split <;> simp); omega) hw q2.2.2.1 q2.2.2.2
          · refine rp_aload_n (i := 0) d_fmt_writeBy_78 rfl rfl ?_
            refine rp_getR d_fmt_writeBy_79 f_fmt_69 rfl (hR _ _ _ rfl) ?_
            refine rp_aload_n (i := 0) d_fmt_writeBy_82 rfl rfl ?_
            refine rp_getR d_fmt_writeBy_83 f_fmt_20 rfl (hR _ _ _ rfl) ?_
            refine rp_aload (i := 4) d_fmt_writeBy_86 rfl ?_
            refine rp_lload_n (i := 2) d_fmt_writeBy_88 rfl rfl ?_
            refine rp_callS1 d_fmt_writeBy_89 q_fmt_writeBy_166 (Nat.le_of_ble_eq_true rfl) (Nat.le_of_ble_eq_true rfl) ?_
            refine s_math_abs_J ?_
            rw [(ab_s hx).1]
            refine rp_iload (i := 6) d_fmt_writeBy_92 rfl ?_
            refine rp_callV4 d_fmt_writeBy_94 q_fmt_writeBy_172 (Or.inl ⟨_, _, _, rfl, rfl⟩) (Nat.le_of_ble_eq_true rfl) (Nat.le_of_ble_eq_true rfl) ?_
            have hk1 : r_kd (h1.2.2.2 22) A B = 1 := c75
            have hkc : c_kd XS0 (off A) (off B) = 1 := by rw [hkd, hk1]
            obtain ⟨gr, sc, n1, n2⟩ := w1 hkc
            have hw3 := wm_num v8 hk1
            obtain ⟨hpc, hex⟩ := w3_facts hw3 s3 s4
            have hw3c : r_w3 (x_ty XS0) (off A) (off B) = true := by
              cases q : r_w3 (x_ty XS0) (off A) (off B) with
              | true => rfl
              | false => rw [c_num_eq hab b40, q] at n1; exact absurd n1 (by simp)
            rw [c_num_eq hab b40, hw3c, if_pos rfl] at n1
            obtain ⟨egr, esc⟩ : x_any (r_ag2 (x_ty XS0) (off A) (off B)) (off A) (off B - off A) = gr ∧ r_sk (x_ty XS0) (off A) (off B) (off A) (off B - off A) = sc := by injection n1 with n1; injection n1 with n3 n4; exact ⟨n3, n4⟩
            rw [I.ag s3] at egr; rw [I.sk s3] at esc
            have V2 : vw (h1.2.2.2 22) (h1.2.2.2 23) (h1.2.2.2 24) XS off A B (h1.2.2.2 21) n := v2.keep (fun j j1 j2 => by rw [v9 j j1 j2, x_rd, if_pos hkc])
            have I2 := V2.isT
            rw [ety] at n2
            have hpcC : r_ct (x_ty XS) 5 (off A) (off B) ≤ 2 := by rw [show r_ct (x_ty XS) 5 (off A) (off B) = r_ct (h1.2.2.2 22) 5 A B from I2.ct sOk5 (Nat.le_refl _) s3 (Nat.le_refl _)]; exact hpc
            have hipC : ¬ r_fd (x_ty XS) 6 (off A) (off B) = off B → 1 ≤ r_ip (x_ty XS) (off A) (off B) := fun z => by rw [I2.ip s3]; exact (hex (fun q => z (by rw [show r_fd (x_ty XS) 6 (off A) (off B) = off (r_fd (h1.2.2.2 22) 6 A B) from I2.fdAB s3 sOk6, q]))).1
            have hsc40 : sc ≤ 40 := by rw [← esc]; have : r_sk (h1.2.2.2 22) A B A (B - A) ≤ B - A := cf_cnt_le _ _ _; omega
            obtain ⟨ea, el⟩ := ab_s hx
            have h1516 : (10 : Nat) ^ 15 < 10 ^ 16 := by decide
            have hbd := mN_E (n := ab x) (sc := sc) (ty := x_ty XS) (a := off A) (b := off B) (by omega) hpcC hsc40 hipC b40 hab
            have hnl := num_le (N := (mN (ab x) sc (x_ty XS) (off A) (off B)).1) (pw := (mN (ab x) sc (x_ty XS) (off A) (off B)).2.1) (e := (mN (ab x) sc (x_ty XS) (off A) (off B)).2.2.natAbs) (neg := decide ((mN (ab x) sc (x_ty XS) (off A) (off B)).2.2 < 0)) (gr := gr) (ty := x_ty XS) (va := x_va XS) hab (by omega) (mN_tp (by omega) hpcC) (by omega)
            refine s_num_write hR (L := []) ⟨hL, t0⟩ ho9 hB n2 g0 g1 hab b40 (n := ab x) (by omega) hpcC hsc40 hipC rfl emn.symm (by show 0 + 1 + _ ≤ 256; omega) (fun h3 h2 q1 q2 => ?_)
            rw [List.nil_append, I2.mN s3, num_same V2 v3 (tx := h1.2.2.2 21) (fun j _ => rfl) s3, ← egr, ← esc] at q2
            rw [I2.mN s3, num_same V2 v3 (tx := h1.2.2.2 21) (fun j _ => rfl) s3, ← egr, ← esc] at hnl
            have hw : wFr h1 h3 := ⟨fun o k z1 z2 z3 z4 => (q2.2.1 o k z1 (by omega)).trans (q1.1 o k z2), fun o k z1 z2 => by rw [q2.2.2.1]; exact q1.2.1 o k z1, by rw [q2.2.2.2.1, q1.2.2], fun o e => by rw [q2.2.2.2.2.1 o e, q1.2.2]⟩
            refine rp_goto (tgt := 108) d_fmt_writeBy_97 (by decide) ?_
            refine rp_iconst (v := 1) d_fmt_writeBy_108 (by decide) ?_
            refine rp_ireturn (ty := .boolean) d_fmt_writeBy_109 rfl (by first | rfl | decide | assumption) ?_
            exact k1 h3 _ (Or.inr (Or.inr ⟨hk1, rfl⟩)) (by rw [List.length_append]; have : (if mns any t x = true ∧ ¬ (mN (ab x) (r_sk (h1.2.2.2 22) A B A (B - A)) (h1.2.2.2 22) A B).1 = 0 then [45] else ([] : List Int32)).length ≤ 1 := (by split <;> simp); omega) hw q2.2.2.2.2.2.1 q2.2.2.2.2.2.2
        · refine rp_iload (i := 5) d_fmt_writeBy_57 rfl ?_
          refine rp_if_ne (tgt := 66) d_fmt_writeBy_59 (by decide) (fun c59 => ?_) (fun c59 => ?_)
          · exact absurd rfl c59
          · refine rp_iconst (v := 1) d_fmt_writeBy_62 (by decide) ?_
            refine rp_goto (tgt := 67) d_fmt_writeBy_63 (by decide) ?_
            have emn : cf_b (mns any t x) = 1 := by unfold mns; rw [decide_eq_true (Int64.not_le.mp (fun q => c54 ((lg_cmp_ge _ _).mpr q))), cf_b_f c36, decide_eq_false (fun q => c41 (by rw [q]; rfl))]; rfl
            refine rp_istore (i := 6) d_fmt_writeBy_67 rfl (Nat.le_of_ble_eq_true rfl) ?_
            refine rp_aload (i := 4) d_fmt_writeBy_69 rfl ?_
            refine rp_getI d_fmt_writeBy_71 f_fmt_97 ho ?_
            rw [g2, hkd]
            refine rp_iconst (v := 1) d_fmt_writeBy_74 (by decide) ?_
            refine rp_icmp_ne (tgt := 100) d_fmt_writeBy_75 (by decide) (fun c75 => ?_) (fun c75 => ?_)
            · refine rp_aload_n (i := 0) d_fmt_writeBy_100 rfl rfl ?_
              refine rp_aload (i := 4) d_fmt_writeBy_101 rfl ?_
              refine rp_iload (i := 6) d_fmt_writeBy_103 rfl ?_
              refine rp_callV2 d_fmt_writeBy_105 q_fmt_writeBy_175 (Or.inl ⟨_, _, _, rfl, rfl⟩) (Nat.le_of_ble_eq_true rfl) (Nat.le_of_ble_eq_true rfl) ?_
              have hk0 : r_kd (h1.2.2.2 22) A B = 0 := by rcases kd_cases (h1.2.2.2 22) A B with q | q | q; exact q; exact absurd q c75; exact absurd q c14
              have hk1 : ¬ c_kd XS0 (off A) (off B) = 1 := by rw [hkd, hk0]; decide
              have hX : mnX XS XS0 (off A) (off B) := fun j j1 j2 => by rw [v9 j j1 j2, x_rd, if_neg hk1]
              have hpl := pln_le (ty := x_ty XS) (va := x_va XS) hab
              have ep : fl (cTp (x_ty XS) (x_va XS)) (off A) (off B - off A) = fl (rTp (h1.2.2.2 22) (h1.2.2.2 23) (h1.2.2.2 24) (h1.2.2.2 21)) A (B - A) := by
                rw [← pln_same v2 v3 (tx := h1.2.2.2 21) (fun j _ => rfl) s3]
                apply fl_congr
                intro j j1 j2
                obtain ⟨u1, u2, u3⟩ := hX.at j1 (show j < off B by omega)
                unfold cTp
                rw [u1]
                split
                · rename_i q; rw [u3, mi_8 (by rw [q]; decide)]; rfl
                · rfl
              refine s_fmt_writePlain (h0 := h1) ho9 hB g1 b40 g0 hab (L := []) ⟨hR, w_fr.rf h1, hL, t0⟩ emn.symm (by show 0 + 1 + _ ≤ 256; omega) (fun h3 q2 => ?_)
              rw [List.nil_append, ep] at q2
              rw [ep] at hpl
              have hw : wFr h1 h3 := ⟨fun o k z1 z2 z3 z4 => q2.2.1.1 o k z1, fun o k z1 z2 => by rw [q2.2.1.2.1], q2.2.1.2.2.1, q2.2.1.2.2.2⟩
              refine rp_iconst (v := 1) d_fmt_writeBy_108 (by decide) ?_
              refine rp_ireturn (ty := .boolean) d_fmt_writeBy_109 rfl (by first | rfl | decide | assumption) ?_
              exact k1 h3 _ (Or.inr (Or.inl ⟨hk0, rfl⟩)) (by rw [List.length_append]; have : (if mns any t x = true then [45] else ([] : List Int32)).length ≤ 1 := (by split <;> simp); omega) hw q2.2.2.1 q2.2.2.2
            · refine rp_aload_n (i := 0) d_fmt_writeBy_78 rfl rfl ?_
              refine rp_getR d_fmt_writeBy_79 f_fmt_69 rfl (hR _ _ _ rfl) ?_
              refine rp_aload_n (i := 0) d_fmt_writeBy_82 rfl rfl ?_
              refine rp_getR d_fmt_writeBy_83 f_fmt_20 rfl (hR _ _ _ rfl) ?_
              refine rp_aload (i := 4) d_fmt_writeBy_86 rfl ?_
              refine rp_lload_n (i := 2) d_fmt_writeBy_88 rfl rfl ?_
              refine rp_callS1 d_fmt_writeBy_89 q_fmt_writeBy_166 (Nat.le_of_ble_eq_true rfl) (Nat.le_of_ble_eq_true rfl) ?_
              refine s_math_abs_J ?_
              rw [(ab_s hx).1]
              refine rp_iload (i := 6) d_fmt_writeBy_92 rfl ?_
              refine rp_callV4 d_fmt_writeBy_94 q_fmt_writeBy_172 (Or.inl ⟨_, _, _, rfl, rfl⟩) (Nat.le_of_ble_eq_true rfl) (Nat.le_of_ble_eq_true rfl) ?_
              have hk1 : r_kd (h1.2.2.2 22) A B = 1 := c75
              have hkc : c_kd XS0 (off A) (off B) = 1 := by rw [hkd, hk1]
              obtain ⟨gr, sc, n1, n2⟩ := w1 hkc
              have hw3 := wm_num v8 hk1
              obtain ⟨hpc, hex⟩ := w3_facts hw3 s3 s4
              have hw3c : r_w3 (x_ty XS0) (off A) (off B) = true := by
                cases q : r_w3 (x_ty XS0) (off A) (off B) with
                | true => rfl
                | false => rw [c_num_eq hab b40, q] at n1; exact absurd n1 (by simp)
              rw [c_num_eq hab b40, hw3c, if_pos rfl] at n1
              obtain ⟨egr, esc⟩ : x_any (r_ag2 (x_ty XS0) (off A) (off B)) (off A) (off B - off A) = gr ∧ r_sk (x_ty XS0) (off A) (off B) (off A) (off B - off A) = sc := by injection n1 with n1; injection n1 with n3 n4; exact ⟨n3, n4⟩
              rw [I.ag s3] at egr; rw [I.sk s3] at esc
              have V2 : vw (h1.2.2.2 22) (h1.2.2.2 23) (h1.2.2.2 24) XS off A B (h1.2.2.2 21) n := v2.keep (fun j j1 j2 => by rw [v9 j j1 j2, x_rd, if_pos hkc])
              have I2 := V2.isT
              rw [ety] at n2
              have hpcC : r_ct (x_ty XS) 5 (off A) (off B) ≤ 2 := by rw [show r_ct (x_ty XS) 5 (off A) (off B) = r_ct (h1.2.2.2 22) 5 A B from I2.ct sOk5 (Nat.le_refl _) s3 (Nat.le_refl _)]; exact hpc
              have hipC : ¬ r_fd (x_ty XS) 6 (off A) (off B) = off B → 1 ≤ r_ip (x_ty XS) (off A) (off B) := fun z => by rw [I2.ip s3]; exact (hex (fun q => z (by rw [show r_fd (x_ty XS) 6 (off A) (off B) = off (r_fd (h1.2.2.2 22) 6 A B) from I2.fdAB s3 sOk6, q]))).1
              have hsc40 : sc ≤ 40 := by rw [← esc]; have : r_sk (h1.2.2.2 22) A B A (B - A) ≤ B - A := cf_cnt_le _ _ _; omega
              obtain ⟨ea, el⟩ := ab_s hx
              have h1516 : (10 : Nat) ^ 15 < 10 ^ 16 := by decide
              have hbd := mN_E (n := ab x) (sc := sc) (ty := x_ty XS) (a := off A) (b := off B) (by omega) hpcC hsc40 hipC b40 hab
              have hnl := num_le (N := (mN (ab x) sc (x_ty XS) (off A) (off B)).1) (pw := (mN (ab x) sc (x_ty XS) (off A) (off B)).2.1) (e := (mN (ab x) sc (x_ty XS) (off A) (off B)).2.2.natAbs) (neg := decide ((mN (ab x) sc (x_ty XS) (off A) (off B)).2.2 < 0)) (gr := gr) (ty := x_ty XS) (va := x_va XS) hab (by omega) (mN_tp (by omega) hpcC) (by omega)
              refine s_num_write hR (L := []) ⟨hL, t0⟩ ho9 hB n2 g0 g1 hab b40 (n := ab x) (by omega) hpcC hsc40 hipC rfl emn.symm (by show 0 + 1 + _ ≤ 256; omega) (fun h3 h2 q1 q2 => ?_)
              rw [List.nil_append, I2.mN s3, num_same V2 v3 (tx := h1.2.2.2 21) (fun j _ => rfl) s3, ← egr, ← esc] at q2
              rw [I2.mN s3, num_same V2 v3 (tx := h1.2.2.2 21) (fun j _ => rfl) s3, ← egr, ← esc] at hnl
              have hw : wFr h1 h3 := ⟨fun o k z1 z2 z3 z4 => (q2.2.1 o k z1 (by omega)).trans (q1.1 o k z2), fun o k z1 z2 => by rw [q2.2.2.1]; exact q1.2.1 o k z1, by rw [q2.2.2.2.1, q1.2.2], fun o e => by rw [q2.2.2.2.2.1 o e, q1.2.2]⟩
              refine rp_goto (tgt := 108) d_fmt_writeBy_97 (by decide) ?_
              refine rp_iconst (v := 1) d_fmt_writeBy_108 (by decide) ?_
              refine rp_ireturn (ty := .boolean) d_fmt_writeBy_109 rfl (by first | rfl | decide | assumption) ?_
              exact k1 h3 _ (Or.inr (Or.inr ⟨hk1, rfl⟩)) (by rw [List.length_append]; have : (if mns any t x = true ∧ ¬ (mN (ab x) (r_sk (h1.2.2.2 22) A B A (B - A)) (h1.2.2.2 22) A B).1 = 0 then [45] else ([] : List Int32)).length ≤ 1 := (by split <;> simp); omega) hw q2.2.2.2.2.2.1 q2.2.2.2.2.2.2
      · refine rp_iconst (v := 1) d_fmt_writeBy_44 (by decide) ?_
        refine rp_goto (tgt := 49) d_fmt_writeBy_45 (by decide) ?_
        refine rp_istore (i := 5) d_fmt_writeBy_49 rfl (Nat.le_of_ble_eq_true rfl) ?_
        refine rp_lload_n (i := 2) d_fmt_writeBy_51 rfl rfl ?_
        refine rp_lconst (v := 0) d_fmt_writeBy_52 (by decide) ?_
        refine rp_lcmp d_fmt_writeBy_53 ?_
        refine rp_if_ge (tgt := 66) d_fmt_writeBy_54 (by decide) (fun c54 => ?_) (fun c54 => ?_)
        · refine rp_iconst (v := 0) d_fmt_writeBy_66 (by decide) ?_
          have emn : cf_b (mns any t x) = 0 := by unfold mns; rw [decide_eq_false (Int64.not_lt.mpr ((lg_cmp_ge _ _).mp c54))]; rfl
          refine rp_istore (i := 6) d_fmt_writeBy_67 rfl (Nat.le_of_ble_eq_true rfl) ?_
          refine rp_aload (i := 4) d_fmt_writeBy_69 rfl ?_
          refine rp_getI d_fmt_writeBy_71 f_fmt_97 ho ?_
          rw [g2, hkd]
          refine rp_iconst (v := 1) d_fmt_writeBy_74 (by decide) ?_
          refine rp_icmp_ne (tgt := 100) d_fmt_writeBy_75 (by decide) (fun c75 => ?_) (fun c75 => ?_)
          · refine rp_aload_n (i := 0) d_fmt_writeBy_100 rfl rfl ?_
            refine rp_aload (i := 4) d_fmt_writeBy_101 rfl ?_
            refine rp_iload (i := 6) d_fmt_writeBy_103 rfl ?_
            refine rp_callV2 d_fmt_writeBy_105 q_fmt_writeBy_175 (Or.inl ⟨_, _, _, rfl, rfl⟩) (Nat.le_of_ble_eq_true rfl) (Nat.le_of_ble_eq_true rfl) ?_
            have hk0 : r_kd (h1.2.2.2 22) A B = 0 := by rcases kd_cases (h1.2.2.2 22) A B with q | q | q; exact q; exact absurd q c75; exact absurd q c14
            have hk1 : ¬ c_kd XS0 (off A) (off B) = 1 := by rw [hkd, hk0]; decide
            have hX : mnX XS XS0 (off A) (off B) := fun j j1 j2 => by rw [v9 j j1 j2, x_rd, if_neg hk1]
            have hpl := pln_le (ty := x_ty XS) (va := x_va XS) hab
            have ep : fl (cTp (x_ty XS) (x_va XS)) (off A) (off B - off A) = fl (rTp (h1.2.2.2 22) (h1.2.2.2 23) (h1.2.2.2 24) (h1.2.2.2 21)) A (B - A) := by
              rw [← pln_same v2 v3 (tx := h1.2.2.2 21) (fun j _ => rfl) s3]
              apply fl_congr
              intro j j1 j2
              obtain ⟨u1, u2, u3⟩ := hX.at j1 (show j < off B by omega)
              unfold cTp
              rw [u1]
              split
              · rename_i q; rw [u3, mi_8 (by rw [q]; decide)]; rfl
              · rfl
            refine s_fmt_writePlain (h0 := h1) ho9 hB g1 b40 g0 hab (L := []) ⟨hR, w_fr.rf h1, hL, t0⟩ emn.symm (by show 0 + 1 + _ ≤ 256; omega) (fun h3 q2 => ?_)
            rw [List.nil_append, ep] at q2
            rw [ep] at hpl
            have hw : wFr h1 h3 := ⟨fun o k z1 z2 z3 z4 => q2.2.1.1 o k z1, fun o k z1 z2 => by rw [q2.2.1.2.1], q2.2.1.2.2.1, q2.2.1.2.2.2⟩
            refine rp_iconst (v := 1) d_fmt_writeBy_108 (by decide) ?_
            refine rp_ireturn (ty := .boolean) d_fmt_writeBy_109 rfl (by first | rfl | decide | assumption) ?_
            exact k1 h3 _ (Or.inr (Or.inl ⟨hk0, rfl⟩)) (by rw [List.length_append]; have : (if mns any t x = true then [45] else ([] : List Int32)).length ≤ 1 := (by split <;> simp); omega) hw q2.2.2.1 q2.2.2.2
          · refine rp_aload_n (i := 0) d_fmt_writeBy_78 rfl rfl ?_
            refine rp_getR d_fmt_writeBy_79 f_fmt_69 rfl (hR _ _ _ rfl) ?_
            refine rp_aload_n (i := 0) d_fmt_writeBy_82 rfl rfl ?_
            refine rp_getR d_fmt_writeBy_83 f_fmt_20 rfl (hR _ _ _ rfl) ?_
            refine rp_aload (i := 4) d_fmt_writeBy_86 rfl ?_
            refine rp_lload_n (i := 2) d_fmt_writeBy_88 rfl rfl ?_
            refine rp_callS1 d_fmt_writeBy_89 q_fmt_writeBy_166 (Nat.le_of_ble_eq_true rfl) (Nat.le_of_ble_eq_true rfl) ?_
            refine s_math_abs_J ?_
            rw [(ab_s hx).1]
            refine rp_iload (i := 6) d_fmt_writeBy_92 rfl ?_
            refine rp_callV4 d_fmt_writeBy_94 q_fmt_writeBy_172 (Or.inl ⟨_, _, _, rfl, rfl⟩) (Nat.le_of_ble_eq_true rfl) (Nat.le_of_ble_eq_true rfl) ?_
            have hk1 : r_kd (h1.2.2.2 22) A B = 1 := c75
            have hkc : c_kd XS0 (off A) (off B) = 1 := by rw [hkd, hk1]
            obtain ⟨gr, sc, n1, n2⟩ := w1 hkc
            have hw3 := wm_num v8 hk1
            obtain ⟨hpc, hex⟩ := w3_facts hw3 s3 s4
            have hw3c : r_w3 (x_ty XS0) (off A) (off B) = true := by
              cases q : r_w3 (x_ty XS0) (off A) (off B) with
              | true => rfl
              | false => rw [c_num_eq hab b40, q] at n1; exact absurd n1 (by simp)
            rw [c_num_eq hab b40, hw3c, if_pos rfl] at n1
            obtain ⟨egr, esc⟩ : x_any (r_ag2 (x_ty XS0) (off A) (off B)) (off A) (off B - off A) = gr ∧ r_sk (x_ty XS0) (off A) (off B) (off A) (off B - off A) = sc := by injection n1 with n1; injection n1 with n3 n4; exact ⟨n3, n4⟩
            rw [I.ag s3] at egr; rw [I.sk s3] at esc
            have V2 : vw (h1.2.2.2 22) (h1.2.2.2 23) (h1.2.2.2 24) XS off A B (h1.2.2.2 21) n := v2.keep (fun j j1 j2 => by rw [v9 j j1 j2, x_rd, if_pos hkc])
            have I2 := V2.isT
            rw [ety] at n2
            have hpcC : r_ct (x_ty XS) 5 (off A) (off B) ≤ 2 := by rw [show r_ct (x_ty XS) 5 (off A) (off B) = r_ct (h1.2.2.2 22) 5 A B from I2.ct sOk5 (Nat.le_refl _) s3 (Nat.le_refl _)]; exact hpc
            have hipC : ¬ r_fd (x_ty XS) 6 (off A) (off B) = off B → 1 ≤ r_ip (x_ty XS) (off A) (off B) := fun z => by rw [I2.ip s3]; exact (hex (fun q => z (by rw [show r_fd (x_ty XS) 6 (off A) (off B) = off (r_fd (h1.2.2.2 22) 6 A B) from I2.fdAB s3 sOk6, q]))).1
            have hsc40 : sc ≤ 40 := by rw [← esc]; have : r_sk (h1.2.2.2 22) A B A (B - A) ≤ B - A := cf_cnt_le _ _ _; omega
            obtain ⟨ea, el⟩ := ab_s hx
            have h1516 : (10 : Nat) ^ 15 < 10 ^ 16 := by decide
            have hbd := mN_E (n := ab x) (sc := sc) (ty := x_ty XS) (a := off A) (b := off B) (by omega) hpcC hsc40 hipC b40 hab
            have hnl := num_le (N := (mN (ab x) sc (x_ty XS) (off A) (off B)).1) (pw := (mN (ab x) sc (x_ty XS) (off A) (off B)).2.1) (e := (mN (ab x) sc (x_ty XS) (off A) (off B)).2.2.natAbs) (neg := decide ((mN (ab x) sc (x_ty XS) (off A) (off B)).2.2 < 0)) (gr := gr) (ty := x_ty XS) (va := x_va XS) hab (by omega) (mN_tp (by omega) hpcC) (by omega)
            refine s_num_write hR (L := []) ⟨hL, t0⟩ ho9 hB n2 g0 g1 hab b40 (n := ab x) (by omega) hpcC hsc40 hipC rfl emn.symm (by show 0 + 1 + _ ≤ 256; omega) (fun h3 h2 q1 q2 => ?_)
            rw [List.nil_append, I2.mN s3, num_same V2 v3 (tx := h1.2.2.2 21) (fun j _ => rfl) s3, ← egr, ← esc] at q2
            rw [I2.mN s3, num_same V2 v3 (tx := h1.2.2.2 21) (fun j _ => rfl) s3, ← egr, ← esc] at hnl
            have hw : wFr h1 h3 := ⟨fun o k z1 z2 z3 z4 => (q2.2.1 o k z1 (by omega)).trans (q1.1 o k z2), fun o k z1 z2 => by rw [q2.2.2.1]; exact q1.2.1 o k z1, by rw [q2.2.2.2.1, q1.2.2], fun o e => by rw [q2.2.2.2.2.1 o e, q1.2.2]⟩
            refine rp_goto (tgt := 108) d_fmt_writeBy_97 (by decide) ?_
            refine rp_iconst (v := 1) d_fmt_writeBy_108 (by decide) ?_
            refine rp_ireturn (ty := .boolean) d_fmt_writeBy_109 rfl (by first | rfl | decide | assumption) ?_
            exact k1 h3 _ (Or.inr (Or.inr ⟨hk1, rfl⟩)) (by rw [List.length_append]; have : (if mns any t x = true ∧ ¬ (mN (ab x) (r_sk (h1.2.2.2 22) A B A (B - A)) (h1.2.2.2 22) A B).1 = 0 then [45] else ([] : List Int32)).length ≤ 1 := (by split <;> simp); omega) hw q2.2.2.2.2.2.1 q2.2.2.2.2.2.2
        · refine rp_iload (i := 5) d_fmt_writeBy_57 rfl ?_
          refine rp_if_ne (tgt := 66) d_fmt_writeBy_59 (by decide) (fun c59 => ?_) (fun c59 => ?_)
          · refine rp_iconst (v := 0) d_fmt_writeBy_66 (by decide) ?_
            have emn : cf_b (mns any t x) = 0 := by unfold mns; rw [decide_eq_true (Int64.not_le.mp (fun q => c54 ((lg_cmp_ge _ _).mpr q))), cf_b_f c36, decide_eq_true ((nI_eq (b := 1) (by omega) (by decide)).mp c41)]; rfl
            refine rp_istore (i := 6) d_fmt_writeBy_67 rfl (Nat.le_of_ble_eq_true rfl) ?_
            refine rp_aload (i := 4) d_fmt_writeBy_69 rfl ?_
            refine rp_getI d_fmt_writeBy_71 f_fmt_97 ho ?_
            rw [g2, hkd]
            refine rp_iconst (v := 1) d_fmt_writeBy_74 (by decide) ?_
            refine rp_icmp_ne (tgt := 100) d_fmt_writeBy_75 (by decide) (fun c75 => ?_) (fun c75 => ?_)
            · refine rp_aload_n (i := 0) d_fmt_writeBy_100 rfl rfl ?_
              refine rp_aload (i := 4) d_fmt_writeBy_101 rfl ?_
              refine rp_iload (i := 6) d_fmt_writeBy_103 rfl ?_
              refine rp_callV2 d_fmt_writeBy_105 q_fmt_writeBy_175 (Or.inl ⟨_, _, _, rfl, rfl⟩) (Nat.le_of_ble_eq_true rfl) (Nat.le_of_ble_eq_true rfl) ?_
              have hk0 : r_kd (h1.2.2.2 22) A B = 0 := by rcases kd_cases (h1.2.2.2 22) A B with q | q | q; exact q; exact absurd q c75; exact absurd q c14
              have hk1 : ¬ c_kd XS0 (off A) (off B) = 1 := by rw [hkd, hk0]; decide
              have hX : mnX XS XS0 (off A) (off B) := fun j j1 j2 => by rw [v9 j j1 j2, x_rd, if_neg hk1]
              have hpl := pln_le (ty := x_ty XS) (va := x_va XS) hab
              have ep : fl (cTp (x_ty XS) (x_va XS)) (off A) (off B - off A) = fl (rTp (h1.2.2.2 22) (h1.2.2.2 23) (h1.2.2.2 24) (h1.2.2.2 21)) A (B - A) := by
                rw [← pln_same v2 v3 (tx := h1.2.2.2 21) (fun j _ => rfl) s3]
                apply fl_congr
                intro j j1 j2
                obtain ⟨u1, u2, u3⟩ := hX.at j1 (show j < off B by omega)
                unfold cTp
                rw [u1]
                split
                · rename_i q; rw [u3, mi_8 (by rw [q]; decide)]; rfl
                · rfl
              refine s_fmt_writePlain (h0 := h1) ho9 hB g1 b40 g0 hab (L := []) ⟨hR, w_fr.rf h1, hL, t0⟩ emn.symm (by show 0 + 1 + _ ≤ 256; omega) (fun h3 q2 => ?_)
              rw [List.nil_append, ep] at q2
              rw [ep] at hpl
              have hw : wFr h1 h3 := ⟨fun o k z1 z2 z3 z4 => q2.2.1.1 o k z1, fun o k z1 z2 => by rw [q2.2.1.2.1], q2.2.1.2.2.1, q2.2.1.2.2.2⟩
              refine rp_iconst (v := 1) d_fmt_writeBy_108 (by decide) ?_
              refine rp_ireturn (ty := .boolean) d_fmt_writeBy_109 rfl (by first | rfl | decide | assumption) ?_
              exact k1 h3 _ (Or.inr (Or.inl ⟨hk0, rfl⟩)) (by rw [List.length_append]; have : (if mns any t x = true then [45] else ([] : List Int32)).length ≤ 1 := (by split <;> simp); omega) hw q2.2.2.1 q2.2.2.2
            · refine rp_aload_n (i := 0) d_fmt_writeBy_78 rfl rfl ?_
              refine rp_getR d_fmt_writeBy_79 f_fmt_69 rfl (hR _ _ _ rfl) ?_
              refine rp_aload_n (i := 0) d_fmt_writeBy_82 rfl rfl ?_
              refine rp_getR d_fmt_writeBy_83 f_fmt_20 rfl (hR _ _ _ rfl) ?_
              refine rp_aload (i := 4) d_fmt_writeBy_86 rfl ?_
              refine rp_lload_n (i := 2) d_fmt_writeBy_88 rfl rfl ?_
              refine rp_callS1 d_fmt_writeBy_89 q_fmt_writeBy_166 (Nat.le_of_ble_eq_true rfl) (Nat.le_of_ble_eq_true rfl) ?_
              refine s_math_abs_J ?_
              rw [(ab_s hx).1]
              refine rp_iload (i := 6) d_fmt_writeBy_92 rfl ?_
              refine rp_callV4 d_fmt_writeBy_94 q_fmt_writeBy_172 (Or.inl ⟨_, _, _, rfl, rfl⟩) (Nat.le_of_ble_eq_true rfl) (Nat.le_of_ble_eq_true rfl) ?_
              have hk1 : r_kd (h1.2.2.2 22) A B = 1 := c75
              have hkc : c_kd XS0 (off A) (off B) = 1 := by rw [hkd, hk1]
              obtain ⟨gr, sc, n1, n2⟩ := w1 hkc
              have hw3 := wm_num v8 hk1
              obtain ⟨hpc, hex⟩ := w3_facts hw3 s3 s4
              have hw3c : r_w3 (x_ty XS0) (off A) (off B) = true := by
                cases q : r_w3 (x_ty XS0) (off A) (off B) with
                | true => rfl
                | false => rw [c_num_eq hab b40, q] at n1; exact absurd n1 (by simp)
              rw [c_num_eq hab b40, hw3c, if_pos rfl] at n1
              obtain ⟨egr, esc⟩ : x_any (r_ag2 (x_ty XS0) (off A) (off B)) (off A) (off B - off A) = gr ∧ r_sk (x_ty XS0) (off A) (off B) (off A) (off B - off A) = sc := by injection n1 with n1; injection n1 with n3 n4; exact ⟨n3, n4⟩
              rw [I.ag s3] at egr; rw [I.sk s3] at esc
              have V2 : vw (h1.2.2.2 22) (h1.2.2.2 23) (h1.2.2.2 24) XS off A B (h1.2.2.2 21) n := v2.keep (fun j j1 j2 => by rw [v9 j j1 j2, x_rd, if_pos hkc])
              have I2 := V2.isT
              rw [ety] at n2
              have hpcC : r_ct (x_ty XS) 5 (off A) (off B) ≤ 2 := by rw [show r_ct (x_ty XS) 5 (off A) (off B) = r_ct (h1.2.2.2 22) 5 A B from I2.ct sOk5 (Nat.le_refl _) s3 (Nat.le_refl _)]; exact hpc
              have hipC : ¬ r_fd (x_ty XS) 6 (off A) (off B) = off B → 1 ≤ r_ip (x_ty XS) (off A) (off B) := fun z => by rw [I2.ip s3]; exact (hex (fun q => z (by rw [show r_fd (x_ty XS) 6 (off A) (off B) = off (r_fd (h1.2.2.2 22) 6 A B) from I2.fdAB s3 sOk6, q]))).1
              have hsc40 : sc ≤ 40 := by rw [← esc]; have : r_sk (h1.2.2.2 22) A B A (B - A) ≤ B - A := cf_cnt_le _ _ _; omega
              obtain ⟨ea, el⟩ := ab_s hx
              have h1516 : (10 : Nat) ^ 15 < 10 ^ 16 := by decide
              have hbd := mN_E (n := ab x) (sc := sc) (ty := x_ty XS) (a := off A) (b := off B) (by omega) hpcC hsc40 hipC b40 hab
              have hnl := num_le (N := (mN (ab x) sc (x_ty XS) (off A) (off B)).1) (pw := (mN (ab x) sc (x_ty XS) (off A) (off B)).2.1) (e := (mN (ab x) sc (x_ty XS) (off A) (off B)).2.2.natAbs) (neg := decide ((mN (ab x) sc (x_ty XS) (off A) (off B)).2.2 < 0)) (gr := gr) (ty := x_ty XS) (va := x_va XS) hab (by omega) (mN_tp (by omega) hpcC) (by omega)
              refine s_num_write hR (L := []) ⟨hL, t0⟩ ho9 hB n2 g0 g1 hab b40 (n := ab x) (by omega) hpcC hsc40 hipC rfl emn.symm (by show 0 + 1 + _ ≤ 256; omega) (fun h3 h2 q1 q2 => ?_)
              rw [List.nil_append, I2.mN s3, num_same V2 v3 (tx := h1.2.2.2 21) (fun j _ => rfl) s3, ← egr, ← esc] at q2
              rw [I2.mN s3, num_same V2 v3 (tx := h1.2.2.2 21) (fun j _ => rfl) s3, ← egr, ← esc] at hnl
              have hw : wFr h1 h3 := ⟨fun o k z1 z2 z3 z4 => (q2.2.1 o k z1 (by omega)).trans (q1.1 o k z2), fun o k z1 z2 => by rw [q2.2.2.1]; exact q1.2.1 o k z1, by rw [q2.2.2.2.1, q1.2.2], fun o e => by rw [q2.2.2.2.2.1 o e, q1.2.2]⟩
              refine rp_goto (tgt := 108) d_fmt_writeBy_97 (by decide) ?_
              refine rp_iconst (v := 1) d_fmt_writeBy_108 (by decide) ?_
              refine rp_ireturn (ty := .boolean) d_fmt_writeBy_109 rfl (by first | rfl | decide | assumption) ?_
              exact k1 h3 _ (Or.inr (Or.inr ⟨hk1, rfl⟩)) (by rw [List.length_append]; have : (if mns any t x = true ∧ ¬ (mN (ab x) (r_sk (h1.2.2.2 22) A B A (B - A)) (h1.2.2.2 22) A B).1 = 0 then [45] else ([] : List Int32)).length ≤ 1 := (by split <;> simp); omega) hw q2.2.2.2.2.2.1 q2.2.2.2.2.2.2
          · exact absurd c59 (by decide)
  · refine rp_aload_n (i := 0) d_fmt_writeBy_17 rfl rfl ?_
    refine rp_getR d_fmt_writeBy_18 f_fmt_78 rfl (hR _ _ _ rfl) ?_
    refine rp_aload_n (i := 0) d_fmt_writeBy_21 rfl rfl ?_
    refine rp_getR d_fmt_writeBy_22 f_fmt_20 rfl (hR _ _ _ rfl) ?_
    refine rp_aload (i := 4) d_fmt_writeBy_25 rfl ?_
    refine rp_lload_n (i := 2) d_fmt_writeBy_27 rfl rfl ?_
    refine rp_callV3 d_fmt_writeBy_28 q_fmt_writeBy_162 (Or.inl ⟨_, _, _, rfl, rfl⟩) (Nat.le_of_ble_eq_true rfl) (Nat.le_of_ble_eq_true rfl) ?_
    have hk2 : r_kd (h1.2.2.2 22) A B = 2 := c14
    have hk1 : ¬ c_kd XS0 (off A) (off B) = 1 := by rw [hkd, hk2]; decide
    obtain ⟨f13, f14⟩ := w2 hk1
    have hX : mnX XS XS0 (off A) (off B) := fun j j1 j2 => by rw [v9 j j1 j2, x_rd, if_neg hk1]
    rw [show r_ct (x_ty XS0) 10 (off A) (off B) = r_ct (h1.2.2.2 22) 10 A B from I.ct sOk10 (Nat.le_refl _) s3 (Nat.le_refl _)] at f13
    have end1 := v2.dy.any s3
    have hF := mom_hF v2 hX s3
    rw [end1] at f14 hF
    refine s_mom_write hR (L := []) ⟨hL, t0⟩ hc ho9 hB g0 g1 f13 f14 hab b40 hF (by have := hx.2; exact this) (fun u y m dd u1 u2 u3 u4 u5 => ?_) (fun h2 q1 q2 q3 => ?_) (fun h2 u y m dd u1 u2 u3 u4 ul u5 u6 u7 => ?_)
    · have l1 := mom_le (D := mDy u) (S := mSe u) (tw := !decide (r_ct (h1.2.2.2 22) 10 A B = 0)) (y := y) (m := m) (dd := dd) (wd := k_wd c (mDy u)) (ty := x_ty XS) (va := x_va XS) (de := x_de XS) hab (by cases c <;> (have : mDy u ≤ _ := u2) <;> exact Nat.le_trans this (by decide)) u3 u4 u5 (k_wd_b c _).2 (mSe_lt u) (fun j j1 j2 j3 => by obtain ⟨r, r1, r2, r3⟩ := hF j j1 j2 j3; have := r2.2.1; rw [r1, nI_clamp (by omega)]; exact this)
      have l2 := wX_sec (XS := XS) hab v4
      show 0 + _ ≤ 256
      omega
    · refine rp_ireturn (ty := .boolean) d_fmt_writeBy_31 rfl rfl ?_
      exact k0 h2 (Or.inl ⟨hk2, Or.inl ⟨rfl, q2⟩⟩) ⟨fun o k z1 z2 z3 z4 => q1.1 o k z3 z4 z1, fun o k z1 z2 => q1.2.1 o k z2, q1.2.2.1, q1.2.2.2⟩ q3
    · have e := mom_same v2 hX v3 (tx := h1.2.2.2 21) (fun j _ => rfl) s3 (D := mDy u) (S := mSe u) (y := y) (m := m) (dd := dd) (wd := k_wd c (mDy u)) (mSe_lt u) (fun q => by obtain ⟨_, q2⟩ := u4 q; obtain ⟨y1, y2, _⟩ := q2; have : q_fy c ≥ 1900 := (by cases c <;> decide); exact ⟨by omega, y2⟩)
      rw [List.nil_append, e] at u6 u7
      have l0 : (fl (rMt (mDy u) (mSe u) y m dd (k_wd c (mDy u)) (h1.2.2.2 22) (h1.2.2.2 23) (h1.2.2.2 24) (h1.2.2.2 21) A B) A (B - A)).length ≤ 256 := by
        rw [← e]; simp only [List.length_nil, Nat.zero_add] at ul; exact ul
      refine rp_ireturn (ty := .boolean) d_fmt_writeBy_31 rfl rfl ?_
      exact k1 h2 _ (Or.inl ⟨hk2, Or.inr ⟨u, y, m, dd, u1, u2, u3, u4, rfl⟩⟩) l0 ⟨fun o k z1 z2 z3 z4 => u5.1 o k z3 z4 z1, fun o k z1 z2 => u5.2.1 o k z2, u5.2.2.1, u5.2.2.2⟩ u6 u7
