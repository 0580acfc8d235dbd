/-! THE SAME TEXT: numbers and plain sections -/
def vw (ty fi se : Nat → Int32) (XS : List r_K) (off : Nat → Nat) (A B : Nat) (c : Nat → Int32) (n : Nat) : Prop :=
  ∀ k, A ≤ k → k < B → ∃ it, iK c n it ∧ ty k = it.1.1 ∧ fi k = it.1.2.1 ∧ se k = it.1.2.2 ∧ off (k + 1) = off k + it.2.length ∧ ∀ i q, it.2[i]? = some q → XS[off k + i]? = some q
theorem vw_of {c a1 a2 a3 : Nat → Int32} {n : Nat} {TS XS : List r_K} {A a : Nat} {S : List i_It} (H : secAt TS XS A a S) (hK : iKs c n S) (hT : r_hold a1 a2 a3 TS) : vw a1 a2 a3 XS (oF S A a) A (A + S.length) c n := by
  intro k h1 h2
  obtain ⟨it, hm, hg, hT2, ho, hX⟩ := H.it h1 h2
  obtain ⟨e1, e2, e3⟩ := hT k _ hT2
  exact ⟨it, hK it hm, e1, e2, e3, ho, hX⟩
theorem vw.isT {ty fi se c : Nat → Int32} {n : Nat} {XS : List r_K} {off : Nat → Nat} {A B : Nat} (V : vw ty fi se XS off A B c n) : isT ty (x_ty XS) off A B := by
  intro k h1 h2
  obtain ⟨it, hk, e1, e2, e3, ho, hX⟩ := V k h1 h2
  obtain ⟨hne, hc⟩ := it_two hk
  have hpos : 0 < it.2.length := List.length_pos_iff.mpr hne
  refine ⟨by omega, ?_⟩
  rcases hc with ⟨t1, t2⟩ | ⟨q, q1, q2, q3⟩
  · refine Or.inl ⟨by rw [e1, t1], fun j j1 j2 => ?_⟩
    have hj : j - off k < it.2.length := by omega
    have := hX _ _ (List.getElem?_eq_getElem hj)
    rw [show off k + (j - off k) = j by omega] at this
    rw [(x_ty_of this).1]
    exact t2 _ (List.getElem_mem hj)
  · refine Or.inr ⟨by rw [ho, q1]; rfl, ?_, by rw [e1]; exact q3⟩
    have := hX 0 q (by rw [q1]; rfl)
    rw [Nat.add_zero] at this
    rw [(x_ty_of this).1, q2, e1]
theorem vw.keep {ty fi se c : Nat → Int32} {n : Nat} {XS XS' : List r_K} {off : Nat → Nat} {A B : Nat} (V : vw ty fi se XS off A B c n) (h : ∀ j, off A ≤ j → j < off B → XS'[j]? = XS[j]?) : vw ty fi se XS' off A B c n := by
  intro k h1 h2
  obtain ⟨it, hk, e1, e2, e3, ho, hX⟩ := V k h1 h2
  refine ⟨it, hk, e1, e2, e3, ho, fun i q hq => ?_⟩
  have hi : i < it.2.length := by
    apply Classical.byContradiction; intro z; rw [List.getElem?_eq_none (by omega)] at hq; exact absurd hq (by simp)
  have m1 := (V.isT.mono (i := A) (j := k) (Nat.le_refl _) (by omega) h1 (by omega)).mpr h1
  have m2 := (V.isT.mono (i := k + 1) (j := B) (by omega) (by omega) (by omega) (Nat.le_refl _)).mpr (by omega)
  rw [h _ (by omega) (by omega)]; exact hX i q hq
theorem fl_add (f : Nat → List Int32) : ∀ m n a, fl f a (m + n) = fl f a m ++ fl f (a + m) n := by
  intro m
  induction m with
  | zero => intro n a; rw [Nat.zero_add]; rfl
  | succ m ih => intro n a; rw [show m + 1 + n = (m + n) + 1 by omega, fl_S, fl_S, ih, List.append_assoc, show a + 1 + m = a + (m + 1) by omega]
theorem fl_iso {fR fC : Nat → List Int32} {off : Nat → Nat} {A B : Nat} (h : ∀ k, A ≤ k → k < B → off k ≤ off (k + 1) ∧ fl fC (off k) (off (k + 1) - off k) = fR k) : ∀ n i, A ≤ i → i + n ≤ B → off i ≤ off (i + n) ∧ fl fC (off i) (off (i + n) - off i) = fl fR i n := by
  intro n
  induction n with
  | zero => intro i _ _; rw [Nat.add_zero, Nat.sub_self]; exact ⟨Nat.le_refl _, rfl⟩
  | succ n ih =>
    intro i h1 h2
    obtain ⟨g1, g2⟩ := ih (i + 1) (by omega) (by omega)
    obtain ⟨l, hb⟩ := h i h1 (by omega)
    rw [show i + (n + 1) = i + 1 + n by omega]
    refine ⟨by omega, ?_⟩
    rw [show off (i + 1 + n) - off i = (off (i + 1) - off i) + (off (i + 1 + n) - off (i + 1)) by omega, fl_add, show off i + (off (i + 1) - off i) = off (i + 1) by omega, g2, hb, fl_S]
theorem fl_lit {f : Nat → List Int32} : ∀ (Bl : List r_K) (o : Nat), (∀ i q, Bl[i]? = some q → f (o + i) = if q.1 = 1 then [q.2.1] else []) → fl f o Bl.length = bTx Bl := by
  intro Bl
  induction Bl with
  | nil => intro o _; rfl
  | cons q Bl ih =>
    intro o h
    rw [List.length_cons, fl_S, bTx, ih (o + 1) (fun i x hx => by rw [show o + 1 + i = o + (i + 1) by omega]; exact h (i + 1) x (by rw [List.getElem?_cons_succ]; exact hx))]
    have := h 0 q rfl
    rw [Nat.add_zero] at this
    rw [this]
theorem isT.pl {tyR tyC : Nat → Int32} {off : Nat → Nat} {A B : Nat} (I : isT tyR tyC off A B) (hAB : A ≤ B) : r_pl tyC (off A) (off B) = r_pl tyR A B := by
  have g6 := r_fd_ge tyR 6 A B
  have k6 := r_fd_le (ty := tyR) (w := 6) hAB
  have i1 := r_ie_fd (ty := tyR) hAB
  have i0 := r_ie_ge tyR A B
  have hb := (I.mono (Nat.le_refl A) hAB hAB (Nat.le_refl B)).mpr hAB
  rw [← n_fp_pl hAB, ← n_fp_pl hb]
  unfold n_fp n_ex
  rw [n_pt_ie hAB, n_pt_ie hb, I.ie hAB, show r_fd tyC 6 (off A) (off B) = off (r_fd tyR 6 A B) from I.fdAB hAB sOk6]
  exact I.ct sOk2 i0 i1 k6
theorem isT.ip {tyR tyC : Nat → Int32} {off : Nat → Nat} {A B : Nat} (I : isT tyR tyC off A B) (hAB : A ≤ B) : r_ip tyC (off A) (off B) = r_ip tyR A B := by
  unfold r_ip
  rw [I.ie hAB]
  exact I.ct sOk2 (Nat.le_refl _) (r_ie_ge _ _ _) (r_ie_le hAB)
theorem tkN_iso {tyR tyC va fi : Nat → Int32} {off : Nat → Nat} {A B : Nat} (I : isT tyR tyC off A B) {N : Nat} {pw : Int} {e : Nat} {gr : Bool} {k : Nat} (h1 : A ≤ k) (h2 : k < B) (ho : off (k + 1) = off k + 1) (hv : va (off k) = fi k) : tkN N pw e gr tyC va (off A) (off B) (off k) = tkN N pw e gr tyR fi A B k := by
  have hAB : A ≤ B := by omega
  have i0 := r_ie_ge tyR A B
  have i1 := r_ie_fd (ty := tyR) hAB
  have i2 := r_fd_le (ty := tyR) (w := 6) hAB
  have m1 := I.mono i0 (by omega) h1 (by omega)
  have m2 := I.mono (i := r_fd tyR 6 A B) (j := k) (by omega) i2 h1 (by omega)
  unfold tkN
  rw [I.ie hAB, show r_fd tyC 6 (off A) (off B) = off (r_fd tyR 6 A B) from I.fdAB hAB sOk6, I.pl hAB, hv, ← ho, show r_ct tyC 2 (off A) (off k) = r_ct tyR 2 A k from I.ct sOk2 (Nat.le_refl _) h1 (by omega), show r_ct tyC 2 (off (k + 1)) (off B) = r_ct tyR 2 (k + 1) B from I.ct sOk2 (by omega) (by omega) (Nat.le_refl _)]
  by_cases c1 : k < r_ie tyR A B
  · rw [if_pos c1, if_pos (by omega), show r_ct tyC 2 (off (k + 1)) (off (r_ie tyR A B)) = r_ct tyR 2 (k + 1) (r_ie tyR A B) from I.ct sOk2 (by omega) (by omega) (by omega)]
  · rw [if_neg c1, if_neg (by omega)]
    by_cases c2 : k < r_fd tyR 6 A B
    · rw [if_pos c2, if_pos (by omega), show r_ct tyC 2 (off (r_ie tyR A B)) (off (k + 1)) = r_ct tyR 2 (r_ie tyR A B) (k + 1) from I.ct sOk2 i0 (by omega) (by omega)]
    · rw [if_neg c2, if_neg (by omega), show r_ct tyC 2 (off (r_fd tyR 6 A B)) (off k) = r_ct tyR 2 (r_fd tyR 6 A B) k from I.ct sOk2 (by omega) (by omega) (by omega)]
theorem rLt_c {tx c : Nat → Int32} {n x y : Nat} (hn : n ≤ 40) (htx : ∀ j, j < n → tx j = c j) (hxy : x ≤ y) (hy : y ≤ n) : rLt tx (nI x) (nI y) = cTxt c x (y - x) := by
  rw [rLt_n (by omega) (by omega)]
  exact cTxt_congr _ _ (fun j h1 h2 => htx j (by omega))
/-- one block, whatever writes it: a literal's characters, or one token -/
theorem blk_same {ty fi se c tx : Nat → Int32} {n : Nat} {XS : List r_K} {off : Nat → Nat} {A B : Nat} (V : vw ty fi se XS off A B c n) (hn : n ≤ 40) (htx : ∀ j, j < n → tx j = c j) {f g : Nat → List Int32} (hf0 : ∀ j, off A ≤ j → j < off B → x_ty XS j = 0 → f j = []) (hf1 : ∀ j, off A ≤ j → j < off B → x_ty XS j = 1 → f j = [x_va XS j]) (hg1 : ∀ k, A ≤ k → k < B → ty k = 1 → g k = rLt tx (fi k) (se k)) (h : ∀ k, A ≤ k → k < B → ¬ ty k = 1 → off (k + 1) = off k + 1 → (∃ it q, iK c n it ∧ ty k = it.1.1 ∧ fi k = it.1.2.1 ∧ se k = it.1.2.2 ∧ it.2 = [q] ∧ XS[off k]? = some q) → f (off k) = g k) : ∀ k, A ≤ k → k < B → off k ≤ off (k + 1) ∧ fl f (off k) (off (k + 1) - off k) = g k := by
  intro k h1 h2
  have I := V.isT
  have hl := (I k h1 h2).1
  have mA := (I.mono (i := A) (j := k) (Nat.le_refl _) (by omega) h1 (by omega)).mpr h1
  have mB := (I.mono (i := k + 1) (j := B) (by omega) (by omega) (by omega) (Nat.le_refl _)).mpr (by omega)
  refine ⟨by omega, ?_⟩
  obtain ⟨it, hk, e1, e2, e3, ho, hX⟩ := V k h1 h2
  rw [show off (k + 1) - off k = it.2.length by omega]
  by_cases ht : ty k = 1
  · have hty : ∀ q ∈ it.2, q.1 = 0 ∨ q.1 = 1 := by
      rcases (it_two hk).2 with ⟨_, z⟩ | ⟨q, _, _, z⟩
      · exact z
      · exact absurd (e1 ▸ ht) (sw_01 z).2.2
    rw [fl_lit it.2 (off k) (fun i q hq => ?_), hg1 k h1 h2 ht, e2, e3]
    · rcases hk with ⟨x, y, hxy, hyn, h1', _, _, h4⟩ | h' | ⟨v, h'⟩ | h' | h' | h' | ⟨v, h'⟩ | ⟨w, v, _, h'⟩ | ⟨v, _, h'⟩ | ⟨v, m, _, h'⟩ | h'
      · rw [h4, h1']; exact (rLt_c hn htx hxy hyn).symm
      · rw [h']; rfl
      all_goals (rw [e1, h'] at ht; dsimp only at ht; exact absurd ht (by decide))
    · have hi : i < it.2.length := by
        apply Classical.byContradiction; intro z; rw [List.getElem?_eq_none (by omega)] at hq; exact absurd hq (by simp)
      have hx := hX i q hq
      obtain ⟨t1, t2, _⟩ := x_ty_of hx
      rcases hty q (List.mem_of_getElem? hq) with z | z
      · rw [hf0 _ (by omega) (by omega) (by rw [t1, z]), z]; rfl
      · rw [hf1 _ (by omega) (by omega) (by rw [t1, z]), t2, if_pos z]
  · rcases (it_two hk).2 with ⟨z, _⟩ | ⟨q, q1, q2, q3⟩
    · exact absurd (e1.trans z) ht
    · have hx := hX 0 q (by rw [q1]; rfl)
      rw [Nat.add_zero] at hx
      have ho1 : off (k + 1) = off k + 1 := by rw [ho, q1]; rfl
      rw [q1]
      show f (off k) ++ [] = _
      rw [List.append_nil]
      exact h k h1 h2 ht ho1 ⟨it, q, hk, e1, e2, e3, q1, hx⟩
theorem fl_AB {fR fC : Nat → List Int32} {off : Nat → Nat} {A B : Nat} (hAB : A ≤ B) (h : ∀ k, A ≤ k → k < B → off k ≤ off (k + 1) ∧ fl fC (off k) (off (k + 1) - off k) = fR k) : fl fC (off A) (off B - off A) = fl fR A (B - A) := by
  have := (fl_iso h (B - A) A (Nat.le_refl _) (by omega)).2
  rw [show A + (B - A) = B by omega] at this; exact this
theorem num_same {ty fi se c tx : Nat → Int32} {n : Nat} {XS : List r_K} {off : Nat → Nat} {A B : Nat} (V : vw ty fi se XS off A B c n) (hn : n ≤ 40) (htx : ∀ j, j < n → tx j = c j) (hAB : A ≤ B) {N : Nat} {pw : Int} {e : Nat} {neg gr : Bool} : fl (cTk N pw e neg gr (x_ty XS) (x_va XS) (off A) (off B)) (off A) (off B - off A) = fl (rTk N pw e neg gr ty fi se tx A B) A (B - A) := by
  refine fl_AB hAB (blk_same V hn htx (fun j _ _ ht => ?_) (fun j _ _ ht => ?_) (fun k _ _ ht => ?_) (fun k h1 h2 ht ho ⟨it, q, hk, e1, e2, e3, hq, hx⟩ => ?_))
  · unfold cTk; rw [ht]; rfl
  · unfold cTk; rw [ht]; rfl
  · unfold rTk; rw [if_pos ht]
  · obtain ⟨t1, t2, t3⟩ := x_ty_of hx
    unfold cTk rTk
    rw [if_neg ht]
    rcases hk with ⟨x, y, hxy, hyn, h1', _, _, h4⟩ | h' | ⟨v, h'⟩ | h' | h' | h' | ⟨v, h'⟩ | ⟨w, v, _, h'⟩ | ⟨v, _, h'⟩ | ⟨v, m, _, h'⟩ | h'
    · rw [e1, h1'] at ht; exact absurd rfl ht
    · rw [e1, h'] at ht; exact absurd rfl ht
    all_goals (subst h'; simp only [List.cons.injEq, and_true] at hq; subst hq; simp only at e1 e2 e3 t1 t2 t3)
    · have e := tkN_iso (N := N) (pw := pw) (e := e) (gr := gr) V.isT (va := x_va XS) (fi := fi) h1 h2 ho (by rw [t2, e2])
      rw [t1, if_pos rfl, e, e1, if_neg (by decide), if_neg (by decide), if_pos rfl]
    · rw [t1, t2, e1, if_neg (by decide), if_neg (by decide), if_pos (Or.inr (Or.inr rfl)), if_neg (by decide), if_pos rfl]
    · rw [t1, e1]; rfl
    · rw [t1, t2, e1, if_neg (by decide), if_neg (by decide), if_pos (Or.inr (Or.inl rfl)), if_pos rfl]
    · rw [t1, t2, e1, e2]; rfl
    · rw [t1, e1]; rfl
    · rw [t1, e1]; rfl
    · rw [t1, e1]; rfl
    · rw [t1, e1]; rfl
theorem pln_same {ty fi se c tx : Nat → Int32} {n : Nat} {XS : List r_K} {off : Nat → Nat} {A B : Nat} (V : vw ty fi se XS off A B c n) (hn : n ≤ 40) (htx : ∀ j, j < n → tx j = c j) (hAB : A ≤ B) : fl (cTp (x_ty XS) (x_va XS)) (off A) (off B - off A) = fl (rTp ty fi se tx) A (B - A) := by
  refine fl_AB hAB (blk_same V hn htx (fun j _ _ ht => ?_) (fun j _ _ ht => ?_) (fun k _ _ ht => ?_) (fun k h1 h2 ht ho ⟨it, q, hk, e1, e2, e3, hq, hx⟩ => ?_))
  · unfold cTp; rw [ht]; rfl
  · unfold cTp; rw [ht]; rfl
  · unfold rTp; rw [if_pos ht]
  · obtain ⟨t1, t2, t3⟩ := x_ty_of hx
    unfold cTp rTp
    rw [if_neg ht, if_neg]
    intro z
    have : x_ty XS (off k) = sw (ty k) ∧ sOk (ty k) := by
      rcases V.isT k h1 h2 with ⟨_, ⟨a1, _⟩ | ⟨_, b2, b3⟩⟩
      · exact absurd a1 ht
      · exact ⟨b2, b3⟩
    exact (sw_01 this.2).2.1 (this.1 ▸ z)
theorem vw.lOk {ty fi se c : Nat → Int32} {n : Nat} {XS : List r_K} {off : Nat → Nat} {A B : Nat} (V : vw ty fi se XS off A B c n) (hn : n ≤ 40) : ∀ j, A ≤ j → j < B → ty j = 1 → lOk (fi j) (se j) := by
  intro k h1 h2 ht
  obtain ⟨it, hk, e1, e2, e3, ho, hX⟩ := V k h1 h2
  rw [e2, e3]
  rcases hk with ⟨x, y, hxy, hyn, h1', _, _, h4⟩ | h' | ⟨v, h'⟩ | h' | h' | h' | ⟨v, h'⟩ | ⟨w, v, _, h'⟩ | ⟨v, _, h'⟩ | ⟨v, m, _, h'⟩ | h'
  · rw [h1']; exact Or.inr ⟨x, y, rfl, rfl, hxy, by omega⟩
  · rw [h']; exact Or.inl ⟨rfl, rfl⟩
  all_goals (rw [e1, h'] at ht; dsimp only at ht; exact absurd ht (by decide))
theorem vw.r4 {ty fi se c : Nat → Int32} {n : Nat} {XS : List r_K} {off : Nat → Nat} {A B : Nat} (V : vw ty fi se XS off A B c n) : ∀ j, A ≤ j → j < B → rFd ty j = true → ∃ r, se j = nI r ∧ r ≤ 4 := by
  intro k h1 h2 ht
  obtain ⟨it, hk, e1, e2, e3, ho, hX⟩ := V k h1 h2
  unfold rFd at ht
  rw [e3]
  rcases hk with ⟨x, y, hxy, hyn, h1', _, _, h4⟩ | h' | ⟨v, h'⟩ | h' | h' | h' | ⟨v, h'⟩ | ⟨w, v, _, h'⟩ | ⟨v, _, h'⟩ | ⟨v, m, hl, h'⟩ | h'
  · rw [h1'] at e1; dsimp only at e1; rw [e1] at ht; exact absurd ht (by decide)
  all_goals (subst h'; dsimp only at e1)
  case inr.inr.inr.inr.inr.inr.inr.inr.inl => exact ⟨0, rfl, by decide⟩
  case inr.inr.inr.inr.inr.inr.inr.inr.inr.inl =>
    refine ⟨m, rfl, ?_⟩
    unfold lF at hl; omega
  case inr.inr.inr.inr.inr.inr.inr.inr.inr.inr => exact ⟨0, rfl, by decide⟩
  all_goals (rw [e1] at ht; exact absurd ht (by decide))
