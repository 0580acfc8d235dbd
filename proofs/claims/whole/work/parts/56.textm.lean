/-! THE SAME TEXT: moments -/
theorem lb_skip {XS : List r_K} {a o : Nat} (ha : a ≤ o) : ∀ m, (∀ j, o ≤ j → j < o + m → x_fd XS j = false) → x_lb XS a (o + m) = x_lb XS a o := by
  intro m
  induction m with
  | zero => intro _; rfl
  | succ m ih =>
    intro h
    rw [show o + (m + 1) = (o + m) + 1 by omega, x_lb, if_neg (by omega), h (o + m) (by omega) (by omega)]
    exact ih (fun j h1 h2 => h j h1 (by omega))
theorem lf_skip {XS : List r_K} : ∀ m o r, (∀ j, o ≤ j → j < o + m → x_fd XS j = false) → x_lf XS o (m + r) = x_lf XS (o + m) r := by
  intro m
  induction m with
  | zero => intro o r _; rw [Nat.zero_add]; rfl
  | succ m ih =>
    intro o r h
    rw [show m + 1 + r = (m + r) + 1 by omega, x_lf, h o (Nat.le_refl _) (by omega), show o + (m + 1) = o + 1 + m by omega]
    exact ih (o + 1) r (fun j h1 h2 => h j (by omega) (by omega))
theorem isT.fldq {ty : Nat → Int32} {XS : List r_K} {off : Nat → Nat} {A B : Nat} (I : isT ty (x_ty XS) off A B) : isQ (rFd ty) (x_fd XS) off A B := by
  intro k h1 h2
  refine ⟨(I k h1 h2).1, ?_⟩
  rcases I k h1 h2 with ⟨_, ⟨a1, a2⟩ | ⟨b1, b2, b3⟩⟩
  · refine Or.inr ⟨by unfold rFd; rw [a1]; decide, fun j j1 j2 => ?_⟩
    unfold x_fd
    rcases a2 j j1 j2 with z | z <;> rw [z] <;> decide
  · have key : x_fd XS (off k) = rFd ty k := by
      unfold x_fd rFd
      rw [b2]
      unfold sOk at b3
      rcases b3 with z | z | z | z | z | z | z | z | z <;> rw [z] <;> decide
    cases q : rFd ty k with
    | true => exact Or.inl ⟨rfl, b1, by rw [key, q]⟩
    | false =>
      refine Or.inr ⟨rfl, fun j j1 j2 => ?_⟩
      rw [show j = off k by omega, key, q]
/-- a field's value is its letter; AM/PM has none -/
theorem vw.fva {ty fi se c : Nat → Int32} {n : Nat} {XS : List r_K} {off : Nat → Nat} {A B : Nat} (V : vw ty fi se XS off A B c n) {k : Nat} (h1 : A ≤ k) (h2 : k < B) (hf : rFd ty k = true) {w : Int32} (hw : ¬ (65 : Int32) = w) : x_va XS (off k) = w ↔ (¬ ty k = 10 ∧ fi k = w) := by
  obtain ⟨it, hk, e1, e2, e3, ho, hX⟩ := V k h1 h2
  unfold rFd at hf
  rcases hk with ⟨x, y, hxy, hyn, h1', _, _, h4⟩ | h' | ⟨v, h'⟩ | h' | h' | h' | ⟨v, h'⟩ | ⟨w, v, _, h'⟩ | ⟨v, _, h'⟩ | ⟨v, m, hl, h'⟩ | h'
  · rw [h1'] at e1; dsimp only at e1; rw [e1] at hf; exact absurd hf (by decide)
  all_goals (subst h'; dsimp only at e1 e2 hX)
  case inr.inr.inr.inr.inr.inr.inr.inr.inl =>
    have hx := hX 0 _ rfl
    rw [Nat.add_zero] at hx
    rw [(x_ty_of hx).2.1, e1, e2]
    exact ⟨fun z => ⟨by decide, z⟩, fun z => z.2⟩
  case inr.inr.inr.inr.inr.inr.inr.inr.inr.inl =>
    have hx := hX 0 _ rfl
    rw [Nat.add_zero] at hx
    rw [(x_ty_of hx).2.1, e1, e2]
    exact ⟨fun z => ⟨by decide, z⟩, fun z => z.2⟩
  case inr.inr.inr.inr.inr.inr.inr.inr.inr.inr =>
    have hx := hX 0 _ rfl
    rw [Nat.add_zero] at hx
    rw [(x_ty_of hx).2.1, e1]
    exact ⟨fun z => absurd z hw, fun z => absurd rfl z.1⟩
  all_goals (rw [e1] at hf; exact absurd hf (by decide))
theorem lb_self (XS : List r_K) (a : Nat) : x_lb XS a a = 0 := by
  cases a with
  | zero => rfl
  | succ a => rw [x_lb, if_pos (by omega)]
theorem vw.lb {ty fi se c : Nat → Int32} {n : Nat} {XS : List r_K} {off : Nat → Nat} {A B : Nat} (V : vw ty fi se XS off A B c n) : ∀ m k, A + m = k → k ≤ B → (x_lb XS (off A) (off k) = 104 ↔ (A < cf_lst (rFd ty) A m ∧ ¬ ty (cf_lst (rFd ty) A m - 1) = 10 ∧ fi (cf_lst (rFd ty) A m - 1) = 104)) := by
  have I := V.isT
  intro m
  induction m with
  | zero =>
    intro k e h2
    have e : A = k := e
    subst e
    rw [lb_self]
    exact ⟨fun z => absurd z (by decide), fun z => absurd z.1 (Nat.lt_irrefl _)⟩
  | succ m ih =>
    intro k e h2
    obtain ⟨k, rfl⟩ : ∃ q, k = q + 1 := ⟨k - 1, by omega⟩
    have ek : A + m = k := by omega
    have mA := (I.mono (i := A) (j := k) (Nat.le_refl _) (by omega) (by omega) (by omega)).mpr (by omega)
    obtain ⟨hl, hc⟩ := I.fldq k (by omega) (by omega)
    rw [cf_lst_S, ek]
    rcases hc with ⟨a, b, d⟩ | ⟨a, b⟩
    · rw [a, b, x_lb, if_neg (by omega), d]
      show x_va XS (off k) = 104 ↔ (A < k + 1 ∧ ¬ ty (k + 1 - 1) = 10 ∧ fi (k + 1 - 1) = 104)
      rw [V.fva (by omega) (by omega) a (by decide), Nat.add_sub_cancel]
      exact ⟨fun z => ⟨by omega, z⟩, fun z => z.2⟩
    · rw [a]
      have := lb_skip (XS := XS) mA (off (k + 1) - off k) (fun j h1 h2 => b j h1 (by omega))
      rw [show off k + (off (k + 1) - off k) = off (k + 1) by omega] at this
      rw [this]
      exact ih k ek (by omega)
theorem vw.lf {ty fi se c : Nat → Int32} {n : Nat} {XS : List r_K} {off : Nat → Nat} {A B : Nat} (V : vw ty fi se XS off A B c n) : ∀ m k, k + m = B → A ≤ k → (x_lf XS (off k) (off B - off k) = 115 ↔ (cf_fst (rFd ty) k m < B ∧ ¬ ty (cf_fst (rFd ty) k m) = 10 ∧ fi (cf_fst (rFd ty) k m) = 115)) := by
  have I := V.isT
  intro m
  induction m with
  | zero =>
    intro k e h2
    have e : k = B := e
    subst e
    rw [Nat.sub_self]
    exact ⟨fun z => absurd (show (0 : Int32) = 115 from z) (by decide), fun z => absurd z.1 (Nat.lt_irrefl _)⟩
  | succ m ih =>
    intro k e h2
    have mB := (I.mono (i := k + 1) (j := B) (by omega) (by omega) (by omega) (Nat.le_refl _)).mpr (by omega)
    obtain ⟨hl, hc⟩ := I.fldq k (by omega) (by omega)
    rw [cf_fst]
    rcases hc with ⟨a, b, d⟩ | ⟨a, b⟩
    · rw [a, show off B - off k = (off B - off (k + 1)) + 1 by omega, x_lf, d]
      show x_va XS (off k) = 115 ↔ (k < B ∧ ¬ ty k = 10 ∧ fi k = 115)
      rw [V.fva (by omega) (by omega) a (by decide)]
      exact ⟨fun z => ⟨by omega, z⟩, fun z => z.2⟩
    · rw [a, show off B - off k = (off (k + 1) - off k) + (off B - off (k + 1)) by omega, lf_skip _ _ _ (fun j h1 h2 => b j h1 (by omega)), show off k + (off (k + 1) - off k) = off (k + 1) by omega]
      exact ih (k + 1) (by omega) (by omega)
theorem and3 {p q r : Prop} [Decidable p] [Decidable q] [Decidable r] : decide (p ∧ q ∧ r) = (decide p && decide q && decide r) := by
  by_cases p <;> by_cases q <;> by_cases r <;> simp [*]
theorem vw.min {ty fi se c : Nat → Int32} {n : Nat} {XS : List r_K} {off : Nat → Nat} {A B : Nat} (V : vw ty fi se XS off A B c n) {k : Nat} (h1 : A ≤ k) (h2 : k < B) (ho : off (k + 1) = off k + 1) : (decide (x_lb XS (off A) (off k) = 104) || decide (x_lf XS (off k + 1) (off B - (off k + 1)) = 115)) = rMin ty fi A B k := by
  unfold rMin rHr rSc
  rw [decide_eq_decide.mpr (V.lb (k - A) k (by omega) (by omega)), ← ho, decide_eq_decide.mpr (V.lf (B - (k + 1)) (k + 1) (by omega) (by omega)), and3, and3, decide_not, decide_not]
theorem vw.fld {ty fi se c : Nat → Int32} {n : Nat} {XS : List r_K} {off : Nat → Nat} {A B : Nat} (V : vw ty fi se XS off A B c n) {k : Nat} (h1 : A ≤ k) (h2 : k < B) (ht : ty k = 9) : ∃ v m, lF v m ∧ fi k = v ∧ se k = nI m ∧ XS[off k]? = some (8, v, nI m) := by
  obtain ⟨it, hk, e1, e2, e3, ho, hX⟩ := V k h1 h2
  rcases hk with ⟨x, y, hxy, hyn, h1', _, _, h4⟩ | h' | ⟨v, h'⟩ | h' | h' | h' | ⟨v, h'⟩ | ⟨w, v, _, h'⟩ | ⟨v, _, h'⟩ | ⟨v, m, hl, h'⟩ | h'
  · rw [h1'] at e1; dsimp only at e1; rw [e1] at ht; exact absurd ht (by decide)
  all_goals (subst h'; dsimp only at e1 e2 e3 hX)
  case inr.inr.inr.inr.inr.inr.inr.inr.inr.inl => exact ⟨v, m, hl, e2, e3, by have := hX 0 _ rfl; rw [Nat.add_zero] at this; exact this⟩
  all_goals (rw [e1] at ht; exact absurd ht (by decide))
theorem lF_le {v : Int32} {m : Nat} (h : lF v m) : m ≤ 4 := by unfold lF at h; omega
theorem vw.mi {ty fi se c : Nat → Int32} {n : Nat} {XS : List r_K} {off : Nat → Nat} {A B : Nat} (V : vw ty fi se XS off A B c n) {k : Nat} (h1 : A ≤ k) (h2 : k < B) {v : Int32} {m : Nat} (hl : lF v m) (ho : off (k + 1) = off k + 1) (hx : XS[off k]? = some (8, v, nI m)) : x_mi XS (off A) (off B) (off k) = (decide (v = 109) && decide (m ≤ 2) && rMin ty fi A B k) := by
  obtain ⟨t1, t2, t3⟩ := x_ty_of hx
  unfold x_mi
  rw [V.min h1 h2 ho, t1, t2, t3]
  have : (!decide ((2 : Int32) < nI m)) = decide (m ≤ 2) := by
    rw [← decide_not]
    apply decide_eq_decide.mpr
    rw [show (2 : Int32) < nI m ↔ 2 < m from nI_ltI (a := 2) (by decide) (by have := lF_le hl; omega)]; omega
  rw [this]; rfl
theorem vw.dy {ty fi se c : Nat → Int32} {n : Nat} {XS : List r_K} {off : Nat → Nat} {A B : Nat} (V : vw ty fi se XS off A B c n) : isQ (rDy ty fi se A B) (x_dy XS (off A) (off B)) off A B := by
  intro k h1 h2
  refine ⟨(V.isT k h1 h2).1, ?_⟩
  rcases V.isT.at sOk9 h1 h2 with ⟨a, b, d⟩ | ⟨a, b⟩
  · obtain ⟨v, m, hl, e2, e3, hx⟩ := V.fld h1 h2 a
    have hm4 := lF_le hl
    have key : x_dy XS (off A) (off B) (off k) = rDy ty fi se A B k := by
      unfold x_dy rDy
      rw [V.mi h1 h2 hl b hx, (x_ty_of hx).1, (x_ty_of hx).2.1, a, e2, e3]
      have e3' : decide (nI m = (3 : Int32)) = decide (m = 3) := decide_eq_decide.mpr (nI_eq (b := 3) (by omega) (by decide))
      rw [e3']
      generalize rMin ty fi A B k = mn
      unfold lF at hl
      rcases hl with ⟨l1, ⟨l2, l3⟩ | ⟨l2 | l2, l3⟩ | ⟨l2 | l2, l3⟩⟩ <;> rw [l2]
      · cases mn <;> simp
      · rcases (show m = 1 ∨ m = 2 ∨ m = 3 by omega) with z | z | z <;> rw [z] <;> cases mn <;> decide
      · cases mn <;> simp
      · cases mn <;> simp
      · cases mn <;> simp
    cases q : rDy ty fi se A B k with
    | true => exact Or.inl ⟨rfl, b, by rw [key, q]⟩
    | false =>
      refine Or.inr ⟨rfl, fun j j1 j2 => ?_⟩
      rw [show j = off k by omega, key, q]
  · refine Or.inr ⟨by unfold rDy; rw [decide_eq_false a]; rfl, fun j j1 j2 => ?_⟩
    unfold x_dy
    rw [decide_eq_false (show ¬ x_ty XS j = 8 from b j j1 j2)]; rfl
theorem pn_y {y : Nat} (h1 : 1000 ≤ y) (h2 : y ≤ 9999) : pn y 4 = pn y 1 := by
  have := nd_sp (n := y) (by have := t18; omega)
  have h4 : 4 ≤ nd y := by
    apply Nat.not_lt.mp; intro z
    have e : 10 ^ nd y ≤ 10 ^ 3 := Nat.pow_le_pow_right (by decide) (by omega)
    omega
  unfold pn
  rw [Nat.max_eq_left h4, Nat.max_eq_left (by omega)]
theorem h12_eq {tw : Bool} {H : Nat} (h : H < 24) : h12 tw H = (bif tw then (H + 11) % 12 + 1 else H) := by
  unfold h12
  cases tw
  · rfl
  · show (if H % 12 = 0 then 12 else H % 12) = (H + 11) % 12 + 1
    split <;> omega
theorem field_same {v : Int32} {r : Nat} (hl : lF v r) {mn tw : Bool} {y m dd wd D S : Nat} (hS : S < 86400) (hy : v = 121 → 1000 ≤ y ∧ y ≤ 9999) : cF (bif (decide (v = 109) && decide (r ≤ 2) && mn) then 110 else v) r tw y m dd wd S = if (!decide (v = 104) && !decide (v = 115) && (!decide (v = 109) || decide (nI r = 3) || !mn)) = true then dFt v r y m dd wd else tFt 9 v r tw D S := by
  have hh : S / 3600 < 24 := by omega
  unfold lF at hl
  rcases hl with ⟨l1, ⟨l2, l3 | l3⟩ | ⟨l2 | l2, l3⟩ | ⟨l2 | l2, l3⟩⟩
  · subst l2; subst l3; cases mn <;> rfl
  · have := hy l2
    subst l2; subst l3
    cases mn <;> (show pn y 4 = pn y 1; exact pn_y this.1 this.2)
  · subst l2
    rcases (show r = 1 ∨ r = 2 ∨ r = 3 by omega) with z | z | z <;> subst z <;> cases mn <;> rfl
  · subst l2
    rcases (show r = 1 ∨ r = 2 ∨ r = 3 by omega) with z | z | z <;> subst z <;> cases mn <;> rfl
  · subst l2
    rcases (show r = 1 ∨ r = 2 by omega) with z | z <;> subst z <;> cases mn
    all_goals (first | (show pn (bif tw then (S / 3600 + 11) % 12 + 1 else S / 3600) 1 = pn (h12 tw (S / 3600)) 1; rw [h12_eq hh]) | (show pn (bif tw then (S / 3600 + 11) % 12 + 1 else S / 3600) 2 = pn (h12 tw (S / 3600)) 2; rw [h12_eq hh]))
  · subst l2
    rcases (show r = 1 ∨ r = 2 by omega) with z | z <;> subst z <;> cases mn <;> rfl
/-- the tokens of a section that is no number, behind its read -/
def mnX (XS XS0 : List r_K) (a b : Nat) : Prop := ∀ j, a ≤ j → j < b → XS[j]? = (x_mn XS0 a b b)[j]?
theorem mnX.at {XS XS0 : List r_K} {a b : Nat} (h : mnX XS XS0 a b) {j : Nat} (h1 : a ≤ j) (h2 : j < b) : x_ty XS j = x_ty XS0 j ∧ x_de XS j = x_de XS0 j ∧ (x_va XS j = bif x_mi XS0 a b j then 110 else x_va XS0 j) := by
  have e := h j h1 h2
  have e1 : x_ty XS j = x_ty (x_mn XS0 a b b) j := by unfold x_ty; rw [e]
  have e2 : x_de XS j = x_de (x_mn XS0 a b b) j := by unfold x_de; rw [e]
  have e3 : x_va XS j = x_va (x_mn XS0 a b b) j := by unfold x_va; rw [e]
  refine ⟨e1.trans (x_mn_ty _ _ _ _ _), e2.trans (x_mn_de _ _ _ _ _), e3.trans ?_⟩
  unfold x_va
  rw [x_mn_at, decide_eq_true h1, decide_eq_true h2]
  cases q : XS0[j]? with
  | none =>
    have : x_mi XS0 a b j = false := by unfold x_mi x_ty; rw [q]; rfl
    rw [this]; rfl
  | some x => cases x_mi XS0 a b j <;> rfl
theorem mi_8 {XS : List r_K} {a b j : Nat} (h : ¬ x_ty XS j = 8) : x_mi XS a b j = false := by unfold x_mi; rw [decide_eq_false h]; rfl
theorem mom_same {ty fi se c tx : Nat → Int32} {n : Nat} {XS XS0 : List r_K} {off : Nat → Nat} {A B : Nat} (V : vw ty fi se XS0 off A B c n) (hX : mnX XS XS0 (off A) (off B)) (hn : n ≤ 40) (htx : ∀ j, j < n → tx j = c j) (hAB : A ≤ B) {D S y m dd wd : Nat} (hS : S < 86400) (hy : x_any (rDy ty fi se A B) A (B - A) = true → 1000 ≤ y ∧ y ≤ 9999) : fl (cMt D S (!decide (r_ct ty 10 A B = 0)) y m dd wd (x_ty XS) (x_va XS) (x_de XS)) (off A) (off B - off A) = fl (rMt D S y m dd wd ty fi se tx A B) A (B - A) := by
  have I := V.isT
  refine fl_AB hAB (blk_same V hn htx (fun j j1 j2 ht => ?_) (fun j j1 j2 ht => ?_) (fun k _ _ ht => ?_) (fun k h1 h2 ht ho ⟨it, q, hk, e1, e2, e3, hq, hx⟩ => ?_))
  · unfold cMt; rw [(hX.at j1 j2).1, ht]; rfl
  · unfold cMt
    obtain ⟨t1, t2, t3⟩ := hX.at j1 j2
    rw [t1, ht, if_pos rfl, t3, mi_8 (by rw [ht]; decide)]; rfl
  · unfold rMt; rw [if_pos ht]
  · have mA := (I.mono (i := A) (j := k) (Nat.le_refl _) (by omega) h1 (by omega)).mpr h1
    have mB := (I.mono (i := k + 1) (j := B) (by omega) (by omega) (by omega) (Nat.le_refl _)).mpr (by omega)
    obtain ⟨t1, t2, t3⟩ := x_ty_of hx
    obtain ⟨u1, u2, u3⟩ := hX.at mA (show off k < off B by omega)
    by_cases h9 : ty k = 9
    · obtain ⟨v, r, hl, f2, f3, hx2⟩ := V.fld h1 h2 h9
      obtain ⟨t1, t2, t3⟩ := x_ty_of hx2
      dsimp only at t1 t2 t3
      have hm4 := lF_le hl
      have hc : cMt D S (!decide (r_ct ty 10 A B = 0)) y m dd wd (x_ty XS) (x_va XS) (x_de XS) (off k) = cF (bif (decide (v = 109) && decide (r ≤ 2) && rMin ty fi A B k) then 110 else v) r (!decide (r_ct ty 10 A B = 0)) y m dd wd S := by
        unfold cMt
        rw [u1, t1, if_neg (by decide), if_neg (by decide), if_neg (by decide), if_pos rfl, u2, u3, t2, t3, nI_clamp (by omega), V.mi h1 h2 hl ho hx2]
      have hr : rFd ty k = true := by unfold rFd; rw [h9]; decide
      have hd : rDy ty fi se A B k = (!decide (v = 104) && !decide (v = 115) && (!decide (v = 109) || decide (nI r = 3) || !rMin ty fi A B k)) := by
        unfold rDy; rw [h9, f2, f3]
        rw [decide_eq_true (rfl : (9 : Int32) = 9), Bool.true_and]
      rw [hc, field_same hl (D := D) hS (fun z => hy (any_of h1 (by omega) (by rw [hd, z]; rfl)))]
      unfold rMt
      rw [if_neg ht, f2, f3, nI_clamp (by omega)]
      by_cases q : rDy ty fi se A B k = true
      · rw [if_pos (by rw [← hd]; exact q), if_pos ⟨hr, q⟩]
      · rw [if_neg (by rw [← hd]; exact q), if_neg (fun z => q z.2), if_pos hr, h9]
    · have hnd : rDy ty fi se A B k = false := by unfold rDy; rw [decide_eq_false h9]; rfl
      have hm : x_mi XS0 (off A) (off B) (off k) = false := by
        apply mi_8
        rcases I k h1 h2 with ⟨_, ⟨a1, _⟩ | ⟨_, b2, b3⟩⟩
        · exact absurd a1 ht
        · intro z; exact h9 (sw_inj b3 sOk9 (by rw [← b2, z]; rfl))
      rw [hm] at u3
      have u3 : x_va XS (off k) = x_va XS0 (off k) := u3
      unfold cMt rMt
      rw [u1, u2, u3, if_neg ht, if_neg (show ¬ (rFd ty k = true ∧ rDy ty fi se A B k = true) from fun z => by rw [hnd] at z; exact absurd z.2 (by decide))]
      unfold rFd
      rcases hk with ⟨x, y, hxy, hyn, h1', _, _, h4⟩ | h' | ⟨v, h'⟩ | h' | h' | h' | ⟨v, h'⟩ | ⟨w, v, _, h'⟩ | ⟨v, _, h'⟩ | ⟨v, m, _, h'⟩ | h'
      · rw [e1, h1'] at ht; exact absurd rfl ht
      · rw [e1, h'] at ht; exact absurd rfl ht
      all_goals (subst h'; simp only [List.cons.injEq, and_true] at hq; subst hq; dsimp only at e1 e2 e3 t1 t2 t3)
      · rw [t1, e1]; rfl
      · rw [t1, e1]; rfl
      · rw [t1, e1]; rfl
      · rw [t1, e1]; rfl
      · rw [t1, e1]; rfl
      · rw [t1, e1]; rfl
      · rw [t1, t2, e1, e2]; rfl
      · exact absurd e1 h9
      · rw [t1, e1]; rfl
