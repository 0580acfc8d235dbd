/-! BOUNDS of texts; what a well-made section knows -/
theorem blk_of {ty tyC : Nat → Int32} {off : Nat → Nat} {A B : Nat} (I : isT ty tyC off A B) {j : Nat} : ∀ m i, i + m = B → A ≤ i → off i ≤ j → j < off B → ∃ k, A ≤ k ∧ k < B ∧ off k ≤ j ∧ j < off (k + 1) := by
  intro m
  induction m with
  | zero => intro i e _ h1 h2; have e : i = B := e; subst e; omega
  | succ m ih =>
    intro i e ha h1 h2
    by_cases c : j < off (i + 1)
    · exact ⟨i, ha, by omega, h1, c⟩
    · exact ih (i + 1) (by omega) (by omega) (by omega) h2
theorem mom_hF {ty fi se c : Nat → Int32} {n : Nat} {XS XS0 : List r_K} {off : Nat → Nat} {A B : Nat} (V : vw ty fi se XS0 off A B c n) (hX : mnX XS XS0 (off A) (off B)) (hAB : A ≤ B) : ∀ j, off A ≤ j → j < off B → x_ty XS j = 8 → ∃ r, x_de XS j = nI r ∧ fO (x_va XS j) r ∧ ((x_va XS j = 121 ∨ x_va XS j = 109 ∨ x_va XS j = 100) → x_any (x_dy XS0 (off A) (off B)) (off A) (off B - off A) = true) := by
  intro j j1 j2 ht
  have I := V.isT
  obtain ⟨u1, u2, u3⟩ := hX.at j1 j2
  rw [u1] at ht
  obtain ⟨k, h1, h2, h3, h4⟩ := blk_of I (B - A) A (by omega) (Nat.le_refl _) j1 j2
  rcases I.at sOk9 h1 h2 with ⟨a, b, d⟩ | ⟨a, b⟩
  · have ej : j = off k := by omega
    subst ej
    obtain ⟨v, r, hl, e2, e3, hx⟩ := V.fld h1 h2 a
    obtain ⟨t1, t2, t3⟩ := x_ty_of hx
    dsimp only at t1 t2 t3
    have hmi := V.mi h1 h2 hl b hx
    refine ⟨r, by rw [u2, t3], ?_, ?_⟩
    · rw [u3, t2, hmi]
      unfold fO
      unfold lF at hl
      cases q : (decide (v = 109) && decide (r ≤ 2) && rMin ty fi A B k) with
      | true =>
        simp only [Bool.and_eq_true, decide_eq_true_eq] at q
        refine ⟨by omega, by omega, Or.inr (Or.inr (Or.inr ⟨Or.inr (Or.inr rfl), q.1.2⟩))⟩
      | false =>
        show 1 ≤ r ∧ r ≤ 4 ∧ (v = 121 ∨ v = 109 ∨ v = 100 ∨ ((v = 104 ∨ v = 115 ∨ v = 110) ∧ r ≤ 2))
        rcases hl with ⟨l1, ⟨l2, l3⟩ | ⟨l2 | l2, l3⟩ | ⟨l2 | l2, l3⟩⟩
        · exact ⟨l1, by omega, Or.inl l2⟩
        · exact ⟨l1, by omega, Or.inr (Or.inl l2)⟩
        · exact ⟨l1, by omega, Or.inr (Or.inr (Or.inl l2))⟩
        · exact ⟨l1, by omega, Or.inr (Or.inr (Or.inr ⟨Or.inl l2, l3⟩))⟩
        · exact ⟨l1, by omega, Or.inr (Or.inr (Or.inr ⟨Or.inr (Or.inl l2), l3⟩))⟩
    · rw [u3, t2]
      intro hv
      have q : x_mi XS0 (off A) (off B) (off k) = false := by
        cases q : x_mi XS0 (off A) (off B) (off k) with
        | false => rfl
        | true => rw [q] at hv; rcases hv with z | z | z <;> exact absurd (show (110 : Int32) = _ from z) (by decide)
      rw [q] at hv
      refine any_of j1 (by omega) ?_
      unfold x_dy
      rw [q, t1, t2]
      rcases hv with z | z | z <;> (have z : v = _ := z) <;> rw [z] <;> decide
  · exact absurd ht (b j h3 h4)
theorem nd_le {n k : Nat} (hk : 1 ≤ k) (h18 : k ≤ 17) (h : n < 10 ^ k) : nd n ≤ k := by
  have e : 10 ^ k ≤ 10 ^ 17 := Nat.pow_le_pow_right (by decide) h18
  have := nd_sp (n := n) (Nat.lt_of_lt_of_le h (Nat.le_trans e (by decide)))
  apply Nat.not_lt.mp; intro z
  have := this.2.2.2 k hk z
  omega
theorem pn_le {n r k : Nat} (hk : 1 ≤ k) (h18 : k ≤ 17) (h : n < 10 ^ k) (hr : r ≤ k) : (pn n r).length ≤ k := by
  unfold pn; rw [pn_len]
  have := nd_le hk h18 h
  omega
theorem fl_le {f : Nat → List Int32} {g : Nat → Nat} {a b : Nat} (h : ∀ j, a ≤ j → j < b → (f j).length + g (j + 1) ≤ g j) : ∀ n j, j + n = b → a ≤ j → (fl f j n).length + g b ≤ g j := by
  intro n
  induction n with
  | zero => intro j e _; have e : j = b := e; subst e; show 0 + _ ≤ _; omega
  | succ n ih =>
    intro j e ha
    rw [fl_S, List.length_append]
    have h1 := ih (j + 1) (by omega) (by omega)
    have h2 := h j ha (by omega)
    omega
theorem mth_le : ∀ m, m < 13 → (mth m).length ≤ 3 := by decide
theorem wkd_le : ∀ m, m < 8 → (wkd m).length ≤ 3 := by decide
theorem cF_le {v : Int32} {r : Nat} {tw : Bool} {y m dd wd S : Nat} (hr : r ≤ 4) (hy : y ≤ 9999) (hm : m ≤ 12) (hd : dd ≤ 31) (hw : wd ≤ 7) (hS : S < 86400) : (cF v r tw y m dd wd S).length ≤ 4 := by
  unfold cF
  split
  · refine pn_le (by decide) (by decide) ?_ hr
    unfold nO
    cases tw <;> simp only [cond] <;> (repeat' split) <;> omega
  · split
    · have := mth_le m (by omega); omega
    · have := wkd_le wd (by omega); omega
theorem cMt_le {D S : Nat} {tw : Bool} {y m dd wd : Nat} {ty va de : Nat → Int32} {j : Nat} (hD : D ≤ 2958465) (hy : y ≤ 9999) (hm : m ≤ 12) (hd : dd ≤ 31) (hw : wd ≤ 7) (hS : S < 86400) (h8 : ty j = 8 → (de j).toNatClampNeg ≤ 4) : (cMt D S tw y m dd wd ty va de j).length ≤ 4 * (if ty j = 9 then 3 else 1) := by
  unfold cMt
  by_cases c1 : ty j = 1
  · rw [if_pos c1, if_neg (by rw [c1]; decide)]; show 1 ≤ 4 * 1; decide
  rw [if_neg c1]
  by_cases c2 : ty j = 9
  · rw [if_pos c2, if_pos c2]
    unfold eT
    refine pn_le (k := 12) (by decide) (by decide) ?_ (by decide)
    (repeat' split) <;> omega
  rw [if_neg c2, if_neg c2]
  by_cases c3 : ty j = 10
  · rw [if_pos c3]; unfold aT; show 2 ≤ 4 * 1; decide
  rw [if_neg c3]
  by_cases c4 : ty j = 8
  · rw [if_pos c4]; exact cF_le (h8 c4) hy hm hd hw hS
  · rw [if_neg c4]; decide
theorem mom_le {D S : Nat} {tw : Bool} {y m dd wd : Nat} {ty va de : Nat → Int32} {a b : Nat} (hab : a ≤ b) (hD : D ≤ 2958465) (hy : y ≤ 9999) (hm : m ≤ 12) (hd : dd ≤ 31) (hw : wd ≤ 7) (hS : S < 86400) (h8 : ∀ j, a ≤ j → j < b → ty j = 8 → (de j).toNatClampNeg ≤ 4) : (fl (cMt D S tw y m dd wd ty va de) a (b - a)).length ≤ 4 * ((b - a) + 2 * r_ct ty 9 a b) := by
  have := fl_le (f := cMt D S tw y m dd wd ty va de) (g := fun j => 4 * ((b - j) + 2 * r_ct ty 9 j b)) (a := a) (b := b) (fun j h1 h2 => by
    have e := cMt_le (tw := tw) (va := va) (j := j) hD hy hm hd hw hS (h8 j h1 h2)
    show _ + 4 * ((b - (j + 1)) + 2 * r_ct ty 9 (j + 1) b) ≤ 4 * ((b - j) + 2 * r_ct ty 9 j b)
    rw [r_ct_S (i := j) h2]
    split at e
    · rename_i z; rw [if_pos z]; omega
    · rename_i z; rw [if_neg z]; omega) (b - a) a (by omega) (Nat.le_refl _)
  omega
theorem wX_ct : ∀ XS : List r_K, wX XS = XS.length + 2 * (XS.filter (fun q => decide (q.1 = 9))).length := by
  intro XS
  induction XS with
  | nil => rfl
  | cons q XS ih =>
    rw [wX, ih, List.length_cons, List.filter_cons]
    by_cases z : q.1 = 9
    · rw [if_pos z, decide_eq_true z]; simp; omega
    · rw [if_neg z, decide_eq_false z]; simp; omega
theorem wX_ct9 (XS : List r_K) : wX XS = XS.length + 2 * r_ct (x_ty XS) 9 0 XS.length := by
  have := ct_filter 9 XS []
  rw [List.nil_append] at this
  rw [wX_ct, show (0 : Nat) = ([] : List r_K).length from rfl, this]
theorem wX_sec {XS : List r_K} {a b : Nat} (hab : a ≤ b) (hb : b ≤ XS.length) : (b - a) + 2 * r_ct (x_ty XS) 9 a b ≤ wX XS := by
  rw [wX_ct9, r_ct_sp (i := 0) (j := a) (k := XS.length) (by omega) (by omega), r_ct_sp (i := a) (j := b) (k := XS.length) hab hb]
  omega
theorem pln_le {ty va : Nat → Int32} {a b : Nat} (hab : a ≤ b) : (fl (cTp ty va) a (b - a)).length ≤ b - a := by
  have := fl_le (f := cTp ty va) (g := fun j => b - j) (a := a) (b := b) (fun j h1 h2 => by
    have : (cTp ty va j).length ≤ 1 := by unfold cTp; split <;> simp
    show _ + (b - (j + 1)) ≤ b - j; omega) (b - a) a (by omega) (Nat.le_refl _)
  omega
theorem dgt_le (a : Nat) (pw : Int) (p : Nat) (grp : Bool) : (dgt a pw p grp).length ≤ 2 := by unfold dgt; split <;> simp
theorem ld_le (a : Nat) (pw : Int) (grp : Bool) (r : Nat) : ∀ n, (ld a pw grp r n).length ≤ 2 * n := by
  intro n
  induction n with
  | zero => exact Nat.le_refl _
  | succ n ih =>
    rw [ld, List.length_append]
    have := dgt_le a pw (r + n + 1) grp
    omega
theorem wI2_le (a : Nat) (pw : Int) (pl : Int32) (r : Nat) (grp : Bool) : (wI2 a pw pl r grp).length ≤ 2 := by
  unfold wI2
  split
  · exact dgt_le _ _ _ _
  · split <;> simp
theorem wI_le (a : Nat) (pw : Int) (pl : Int32) (r : Nat) (first grp : Bool) : (wI a pw pl r first grp).length ≤ 2 + (bif first then 2 * (tp a pw - r).toNat else 0) := by
  unfold wI
  rw [List.length_append]
  have h1 := wI2_le a pw pl r grp
  have h2 := ld_le a pw grp r (tp a pw - r).toNat
  cases first
  · show 0 + _ ≤ 2 + 0; omega
  · show (ld a pw grp r (tp a pw - r).toNat).length + _ ≤ 2 + 2 * (tp a pw - r).toNat; omega
theorem num_le {N : Nat} {pw : Int} {e : Nat} {neg gr : Bool} {ty va : Nat → Int32} {a b : Nat} (hab : a ≤ b) (hb : b ≤ a + 40) (htp : tp N pw ≤ 15 ∨ tp N pw < r_ip ty a b) (he : e < 10 ^ 16) : (fl (cTk N pw e neg gr ty va a b) a (b - a)).length ≤ 200 := by
  have i0 := r_ie_ge ty a b
  have i1 := r_ie_fd (ty := ty) hab
  have i2 := r_fd_le (ty := ty) (w := 6) hab
  have hte : tp e 0 ≤ 15 := by
    have := ln_le16 he
    unfold tp; split <;> omega
  have := fl_le (f := cTk N pw e neg gr ty va a b) (g := fun j => 2 * (b - j) + (if r_ct ty 2 a j = 0 then 30 else 0) + (if r_ct ty 2 (r_fd ty 6 a b) j = 0 then 30 else 0)) (a := a) (b := b) (fun j h1 h2 => by
    show (cTk N pw e neg gr ty va a b j).length + (2 * (b - (j + 1)) + (if r_ct ty 2 a (j + 1) = 0 then 30 else 0) + (if r_ct ty 2 (r_fd ty 6 a b) (j + 1) = 0 then 30 else 0)) ≤ 2 * (b - j) + (if r_ct ty 2 a j = 0 then 30 else 0) + (if r_ct ty 2 (r_fd ty 6 a b) j = 0 then 30 else 0)
    have k1 := r_ct_end (ty := ty) (w := 2) h1
    have k2 : r_ct ty 2 (r_fd ty 6 a b) (j + 1) = r_ct ty 2 (r_fd ty 6 a b) j + (if ty j = 2 ∧ r_fd ty 6 a b ≤ j then 1 else 0) := by
      by_cases q : r_fd ty 6 a b ≤ j
      · rw [r_ct_end q]
        by_cases q2 : ty j = 2
        · rw [if_pos q2, if_pos ⟨q2, q⟩]
        · rw [if_neg q2, if_neg (fun z => q2 z.1)]
      · rw [r_ct_ge (by omega), r_ct_ge (by omega), if_neg (fun z => q z.2)]
    unfold cTk
    by_cases c2 : ty j = 2
    · rw [if_pos c2]
      rw [if_pos c2] at k1
      unfold tkN
      by_cases c3 : j < r_ie ty a b
      · rw [if_pos c3]
        rw [if_neg (fun z => by omega), Nat.add_zero (r_ct ty 2 (r_fd ty 6 a b) j)] at k2
        have x1 := wI_le N pw (va j) (r_ct ty 2 (j + 1) (r_ie ty a b)) (decide (r_ct ty 2 a j = 0)) gr
        have x2 : r_ip ty a b = r_ct ty 2 a j + (1 + r_ct ty 2 (j + 1) (r_ie ty a b)) := by
          unfold r_ip
          rw [r_ct_sp h1 (show j ≤ r_ie ty a b by omega), r_ct_S (i := j) c3, if_pos c2]
        rw [k2, if_neg (by omega : ¬ r_ct ty 2 a (j + 1) = 0)]
        by_cases c4 : r_ct ty 2 a j = 0
        · rw [decide_eq_true c4] at x1 ⊢
          rw [if_pos c4]
          have x1 : (wI N pw (va j) (r_ct ty 2 (j + 1) (r_ie ty a b)) true gr).length ≤ 2 + 2 * (tp N pw - (r_ct ty 2 (j + 1) (r_ie ty a b) : Nat)).toNat := x1
          omega
        · rw [decide_eq_false c4] at x1 ⊢
          rw [if_neg c4]
          have x1 : (wI N pw (va j) (r_ct ty 2 (j + 1) (r_ie ty a b)) false gr).length ≤ 2 + 0 := x1
          omega
      · rw [if_neg c3]
        by_cases c5 : j < r_fd ty 6 a b
        · rw [if_pos c5]
          rw [if_neg (fun z => by omega), Nat.add_zero (r_ct ty 2 (r_fd ty 6 a b) j)] at k2
          have x1 : (wF N pw (r_pl ty a b) (r_ct ty 2 (r_ie ty a b) (j + 1)) (va j)).length ≤ 1 := by
            unfold wF; split
            · exact Nat.le_refl _
            · split <;> simp
          rw [k2, if_neg (by omega : ¬ r_ct ty 2 a (j + 1) = 0)]
          omega
        · rw [if_neg c5]
          rw [if_pos ⟨c2, by omega⟩] at k2
          have x1 := wI_le e 0 (va j) (r_ct ty 2 (j + 1) b) (decide (r_ct ty 2 (r_fd ty 6 a b) j = 0)) false
          rw [if_neg (by omega : ¬ r_ct ty 2 (r_fd ty 6 a b) (j + 1) = 0), if_neg (by omega : ¬ r_ct ty 2 a (j + 1) = 0)]
          by_cases c4 : r_ct ty 2 (r_fd ty 6 a b) j = 0
          · rw [decide_eq_true c4] at x1 ⊢
            rw [if_pos c4]
            have x1 : (wI e 0 (va j) (r_ct ty 2 (j + 1) b) true false).length ≤ 2 + 2 * (tp e 0 - (r_ct ty 2 (j + 1) b : Nat)).toNat := x1
            omega
          · rw [decide_eq_false c4] at x1 ⊢
            rw [if_neg c4]
            have x1 : (wI e 0 (va j) (r_ct ty 2 (j + 1) b) false false).length ≤ 2 + 0 := x1
            omega
    · rw [if_neg c2] at k1
      rw [if_neg (fun z => c2 z.1)] at k2
      rw [if_neg c2, k1, k2]
      have x1 : (if ty j = 6 then wM neg (va j) else if ty j = 1 ∨ ty j = 5 ∨ ty j = 3 then [va j] else []).length ≤ 2 := by
        split
        · unfold wM; cases neg
          · simp only [cond]; split <;> simp
          · simp
        · split <;> simp
      show (if ty j = 6 then wM neg (va j) else if ty j = 1 ∨ ty j = 5 ∨ ty j = 3 then [va j] else []).length + _ ≤ _
      simp only [Nat.add_zero]
      omega) (b - a) a (by omega) (Nat.le_refl _)
  have e : (if r_ct ty 2 a a = 0 then 30 else 0) = 30 := by rw [r_ct_n, if_pos rfl]
  have e2 : (if r_ct ty 2 (r_fd ty 6 a b) a = 0 then 30 else 0) ≤ 30 := by split <;> omega
  simp only [e] at this
  omega
theorem mN_tp {n sc : Nat} {ty : Nat → Int32} {a b : Nat} (hn : n < 10 ^ 16) (hpc : r_ct ty 5 a b ≤ 2) : tp (mN n sc ty a b).1 (mN n sc ty a b).2.1 ≤ 15 ∨ tp (mN n sc ty a b).1 (mN n sc ty a b).2.1 < r_ip ty a b := by
  have hs : mScl (r_ct ty 5 a b) sc ≤ 0 := by unfold mScl; omega
  unfold mN
  generalize mScl (r_ct ty 5 a b) sc = s at *
  generalize r_ip ty a b = ip at *
  generalize r_pl ty a b = fp at *
  cases (!decide (r_fd ty 6 a b = b)) with
  | false =>
    left
    show tp (rdN n s fp) (rdP s fp) ≤ 15
    have h1 := ln_le16 (rdA_le hn (-(fp : Int) - s))
    have h2 : rdP s fp ≤ 0 := by unfold rdP; split <;> omega
    unfold tp rdN; split <;> omega
  | true =>
    show tp (tE n s ip fp).1 (tE n s ip fp).2.1 ≤ 15 ∨ tp (tE n s ip fp).1 (tE n s ip fp).2.1 < ip
    unfold tE
    split
    · left
      show tp n s ≤ 15
      have h1 := ln_le16 hn
      unfold tp; split <;> omega
    · unfold tE1
      split
      · left; show tp 1 0 ≤ 15; decide
      · rename_i z; right; show tp (rdN n (s - tE0 n s ip) fp) (rdP (s - tE0 n s ip) fp) < ip; omega
theorem mN_E99 {n : Nat} {ty : Nat → Int32} {a b sc : Nat} (hn : n < 10 ^ 16) (hpc : r_ct ty 5 a b ≤ 2) (hsc : ¬ r_fd ty 6 a b = b → sc = 0) (hip : ¬ r_fd ty 6 a b = b → 1 ≤ r_ip ty a b) (hab : a ≤ b) (hb : b ≤ 40) : -99 ≤ (mN n sc ty a b).2.2 ∧ (mN n sc ty a b).2.2 ≤ 99 := by
  have i1 := r_ie_le (ty := ty) hab
  have hip2 : r_ip ty a b ≤ 40 := by have := r_ct_le ty 2 a (r_ie ty a b); unfold r_ip; omega
  unfold mN
  by_cases c : r_fd ty 6 a b = b
  · rw [decide_eq_true c]; show -99 ≤ (0 : Int) ∧ (0 : Int) ≤ 99; decide
  · have h0 := hsc c
    have h1 := hip c
    subst h0
    rw [decide_eq_false c]
    have hs : -6 ≤ mScl (r_ct ty 5 a b) 0 ∧ mScl (r_ct ty 5 a b) 0 ≤ -2 := by unfold mScl; omega
    generalize mScl (r_ct ty 5 a b) 0 = s at *
    generalize r_ip ty a b = ip at *
    generalize r_pl ty a b = fp at *
    show -99 ≤ (tE n s ip fp).2.2 ∧ (tE n s ip fp).2.2 ≤ 99
    have hE := tE0_b (a := n) (pw := s) (ip := ip) hn (by omega) h1 hip2
    have hl := ln_le16 hn
    have ht : -7 ≤ tp n s ∧ tp n s ≤ 15 := by unfold tp; split <;> omega
    unfold tE
    split
    · show -99 ≤ (0 : Int) ∧ (0 : Int) ≤ 99; decide
    · unfold tE1
      split
      · show -99 ≤ tE0 n s ip + ip ∧ tE0 n s ip + ip ≤ 99; omega
      · show -99 ≤ tE0 n s ip ∧ tE0 n s ip ≤ 99; omega
