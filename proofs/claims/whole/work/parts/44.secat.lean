/-! A SECTION'S ITEMS in both lists of tokens -/
theorem it_two {c : Nat → Int32} {n : Nat} {it : i_It} (h : iK c n it) : it.2 ≠ [] ∧ ((it.1.1 = 1 ∧ ∀ q ∈ it.2, q.1 = 0 ∨ q.1 = 1) ∨ (∃ q, it.2 = [q] ∧ q.1 = sw it.1.1 ∧ sOk it.1.1)) := by
  rcases h with ⟨x, y, _, _, h1, h2, h3, _⟩ | h | ⟨v, h⟩ | h | h | h | ⟨v, h⟩ | ⟨w, v, _, h⟩ | ⟨v, _, h⟩ | ⟨v, m, _, h⟩ | h
  · exact ⟨h2, Or.inl ⟨by rw [h1], h3⟩⟩
  · subst h; exact ⟨by simp, Or.inl ⟨rfl, fun q hq => by rw [List.mem_singleton] at hq; rw [hq]; exact Or.inr rfl⟩⟩
  · subst h; exact ⟨by simp, Or.inr ⟨_, rfl, rfl, sOk2⟩⟩
  · subst h; exact ⟨by simp, Or.inr ⟨_, rfl, rfl, sOk3⟩⟩
  · subst h; exact ⟨by simp, Or.inr ⟨_, rfl, rfl, sOk4⟩⟩
  · subst h; exact ⟨by simp, Or.inr ⟨_, rfl, rfl, sOk5⟩⟩
  · subst h; exact ⟨by simp, Or.inr ⟨_, rfl, rfl, sOk6⟩⟩
  · subst h; exact ⟨by simp, Or.inr ⟨_, rfl, rfl, sOk7⟩⟩
  · subst h; exact ⟨by simp, Or.inr ⟨_, rfl, rfl, sOk8⟩⟩
  · subst h; exact ⟨by simp, Or.inr ⟨_, rfl, rfl, sOk9⟩⟩
  · subst h; exact ⟨by simp, Or.inr ⟨_, rfl, rfl, sOk10⟩⟩
def bK (S : List i_It) : List r_K := S.flatMap Prod.snd
def oS (S : List i_It) (k : Nat) : Nat := (bK (S.take k)).length
theorem bK_app (A B : List i_It) : bK (A ++ B) = bK A ++ bK B := by simp [bK]
theorem oS_S {S : List i_It} {k : Nat} {it : i_It} (h : S[k]? = some it) : oS S (k + 1) = oS S k + it.2.length := by
  unfold oS
  rw [List.take_add_one, h, bK_app, List.length_append]
  simp [bK]
theorem oS_all (S : List i_It) : oS S S.length = (bK S).length := by unfold oS; rw [List.take_length]
theorem oS_0 (S : List i_It) : oS S 0 = 0 := by simp [oS, bK]
def secAt (TS XS : List r_K) (A a : Nat) (S : List i_It) : Prop := (∀ k it, S[k]? = some it → TS[A + k]? = some it.1) ∧ (∀ k it i q, S[k]? = some it → it.2[i]? = some q → XS[a + oS S k + i]? = some q)
theorem list_sp {α : Type} {S : List α} {k : Nat} {x : α} (h : S[k]? = some x) : S = S.take k ++ x :: S.drop (k + 1) := by
  have hk : k < S.length := by
    apply Classical.byContradiction; intro z; rw [List.getElem?_eq_none (by omega)] at h; exact absurd h (by simp)
  have e : S[k] = x := by rw [List.getElem?_eq_getElem hk] at h; exact Option.some.inj h
  rw [← e, List.getElem_cons_drop hk, List.take_append_drop]
theorem get_app {α : Type} {A B : List α} {i n : Nat} (e : A.length = n) : (A ++ B)[n + i]? = B[i]? := by
  rw [List.getElem?_append_right (by omega)]
  congr 1; omega
theorem secAt_of {TS XS L1 L2 M1 M2 : List r_K} {S : List i_It} {A a : Nat} (hT : TS = L1 ++ (S.map Prod.fst ++ L2)) (hX : XS = M1 ++ (bK S ++ M2)) (hA : L1.length = A) (ha : M1.length = a) : secAt TS XS A a S := by
  constructor
  · intro k it h
    have hk : k < S.length := by
      apply Classical.byContradiction; intro z; rw [List.getElem?_eq_none (by omega)] at h; exact absurd h (by simp)
    rw [hT, get_app hA, List.getElem?_append_left (by rw [List.length_map]; exact hk), List.getElem?_map, h]; rfl
  · intro k it i q h hq
    have hi : i < it.2.length := by
      apply Classical.byContradiction; intro z; rw [List.getElem?_eq_none (by omega)] at hq; exact absurd hq (by simp)
    have e : bK S = bK (S.take k) ++ (it.2 ++ bK (S.drop (k + 1))) := by
      conv => lhs; rw [list_sp h]
      rw [bK_app]; congr 1
    rw [hX, show a + oS S k + i = a + (oS S k + i) by omega, get_app ha, e, List.append_assoc, get_app (show (bK (S.take k)).length = oS S k from rfl), List.append_assoc, List.getElem?_append_left hi]
    exact hq
/-- where a place of the reference's tokens lies in the class's -/
def oF (S : List i_It) (A a k : Nat) : Nat := a + oS S (k - A)
theorem oF_A (S : List i_It) (A a : Nat) : oF S A a A = a := by rw [oF, Nat.sub_self, oS_0]; rfl
theorem oF_B (S : List i_It) (A a : Nat) : oF S A a (A + S.length) = a + (bK S).length := by rw [oF, Nat.add_sub_cancel_left, oS_all]
theorem oF_S {S : List i_It} {A a k : Nat} {it : i_It} (h1 : A ≤ k) (h : S[k - A]? = some it) : oF S A a (k + 1) = oF S A a k + it.2.length := by
  rw [oF, oF, show k + 1 - A = k - A + 1 by omega, oS_S h]; omega
theorem secAt.it {TS XS : List r_K} {A a : Nat} {S : List i_It} (H : secAt TS XS A a S) {k : Nat} (h1 : A ≤ k) (h2 : k < A + S.length) : ∃ it, it ∈ S ∧ S[k - A]? = some it ∧ TS[k]? = some it.1 ∧ oF S A a (k + 1) = oF S A a k + it.2.length ∧ ∀ i q, it.2[i]? = some q → XS[oF S A a k + i]? = some q := by
  have hk : k - A < S.length := by omega
  have h := List.getElem?_eq_getElem hk
  refine ⟨S[k - A], List.getElem_mem hk, h, ?_, oF_S h1 h, fun i q hq => ?_⟩
  · have := H.1 _ _ h
    rw [show A + (k - A) = k by omega] at this; exact this
  · exact H.2 _ _ _ _ h hq
theorem x_ty_of {XS : List r_K} {j : Nat} {q : r_K} (h : XS[j]? = some q) : x_ty XS j = q.1 ∧ x_va XS j = q.2.1 ∧ x_de XS j = q.2.2 := by
  unfold x_ty x_va x_de; rw [h]; exact ⟨rfl, rfl, rfl⟩
theorem r_tyl_of {TS : List r_K} {j : Nat} {q : r_K} (h : TS[j]? = some q) : r_tyl TS j = q.1 := by unfold r_tyl; rw [h]
theorem secAt.isT {c : Nat → Int32} {n : Nat} {TS XS : List r_K} {A a : Nat} {S : List i_It} (H : secAt TS XS A a S) (hK : iKs c n S) : isT (r_tyl TS) (x_ty XS) (oF S A a) A (A + S.length) := by
  intro k h1 h2
  obtain ⟨it, hm, hg, hT, ho, hX⟩ := H.it h1 h2
  obtain ⟨hne, hc⟩ := it_two (hK it hm)
  have hpos : 0 < it.2.length := List.length_pos_iff.mpr hne
  refine ⟨by omega, ?_⟩
  rcases hc with ⟨t1, t2⟩ | ⟨q, q1, q2, q3⟩
  · refine Or.inl ⟨by rw [r_tyl_of hT, t1], fun j j1 j2 => ?_⟩
    have hj : j - oF S A a k < it.2.length := by omega
    have := hX _ _ (List.getElem?_eq_getElem hj)
    rw [show oF S A a k + (j - oF S A a k) = j by omega] at this
    rw [(x_ty_of this).1]
    exact t2 _ (List.getElem_mem hj)
  · refine Or.inr ⟨by rw [ho, q1]; rfl, ?_, by rw [r_tyl_of hT]; exact q3⟩
    have := hX 0 q (by rw [q1]; rfl)
    rw [Nat.add_zero] at this
    rw [(x_ty_of this).1, q2, r_tyl_of hT]
/-- no semicolon in a section's items -/
theorem secAt.no11 {c : Nat → Int32} {n : Nat} {S : List i_It} (hK : iKs c n S) : ∀ q ∈ bK S, ¬ q.1 = 11 := by
  intro q hq
  unfold bK at hq
  rw [List.mem_flatMap] at hq
  obtain ⟨it, h1, h2⟩ := hq
  obtain ⟨_, ⟨_, t2⟩ | ⟨q', q1, q2, q3⟩⟩ := it_two (hK it h1)
  · rcases t2 q h2 with z | z <;> rw [z] <;> decide
  · rw [q1, List.mem_singleton] at h2
    rw [h2, q2]
    unfold sOk at q3
    rcases q3 with h | h | h | h | h | h | h | h | h <;> rw [h] <;> decide
/-- where the sections begin -/
def pR (L : List (List i_It)) (s : Nat) : Nat := (L.take s).flatten.length
def fX (S : List i_It) : List r_K := bK S ++ [(11, 59, 0)]
def pC (L : List (List i_It)) (s : Nat) : Nat := ((L.take s).flatMap fX).length
theorem pR_0 (L : List (List i_It)) : pR L 0 = 0 := by simp [pR]
theorem pC_0 (L : List (List i_It)) : pC L 0 = 0 := by simp [pC]
theorem pR_S {L : List (List i_It)} {s : Nat} {S : List i_It} (h : L[s]? = some S) : pR L (s + 1) = pR L s + S.length := by
  unfold pR; rw [List.take_add_one, h]; simp
theorem pC_S {L : List (List i_It)} {s : Nat} {S : List i_It} (h : L[s]? = some S) : pC L (s + 1) = pC L s + (bK S).length + 1 := by
  unfold pC; rw [List.take_add_one, h]; simp [fX]; omega
theorem i_X_eq (D : List (List i_It)) (C : List i_It) : i_X D C = D.flatMap fX ++ bK C := rfl
theorem sec_of {D : List (List i_It)} {C : List i_It} {s : Nat} {S : List i_It} (h : (D ++ [C])[s]? = some S) : secAt (i_T D C) (i_X D C) (pR (D ++ [C]) s) (pC (D ++ [C]) s) S ∧ pR (D ++ [C]) s + S.length ≤ (i_T D C).length ∧ pC (D ++ [C]) s + (bK S).length ≤ (i_X D C).length ∧ (s < D.length → (i_X D C)[pC (D ++ [C]) s + (bK S).length]? = some (11, 59, 0)) ∧ (s = D.length → pC (D ++ [C]) s + (bK S).length = (i_X D C).length ∧ pR (D ++ [C]) s + S.length = (i_T D C).length) := by
  have hT : i_T D C = ((D ++ [C]).take s).flatten.map Prod.fst ++ (S.map Prod.fst ++ ((D ++ [C]).drop (s + 1)).flatten.map Prod.fst) := by
    have e : (D ++ [C]).flatten = ((D ++ [C]).take s ++ S :: (D ++ [C]).drop (s + 1)).flatten := by rw [← list_sp h]
    have e2 : D.flatten ++ C = (D ++ [C]).flatten := by simp
    unfold i_T
    rw [e2, e]; simp
  have hs : s < D.length + 1 := by
    apply Classical.byContradiction; intro z
    rw [List.getElem?_eq_none (by simp; omega)] at h; exact absurd h (by simp)
  by_cases c : s < D.length
  · have hD : D[s]? = some S := by rw [← h, List.getElem?_append_left c]
    have et : (D ++ [C]).take s = D.take s := List.take_append_of_le_length (by omega)
    have hX : i_X D C = (D.take s).flatMap fX ++ (bK S ++ ((11, 59, 0) :: ((D.drop (s + 1)).flatMap fX ++ bK C))) := by
      have e : D.flatMap fX = (D.take s ++ S :: D.drop (s + 1)).flatMap fX := by rw [← list_sp hD]
      rw [i_X_eq, e]; simp [fX]
    refine ⟨secAt_of hT hX (by rw [List.length_map]; rfl) (by rw [pC, et]), ?_, ?_, fun _ => ?_, fun z => absurd z (by omega)⟩
    · rw [hT]; simp only [List.length_append, List.length_map]; unfold pR; omega
    · rw [hX]; simp only [List.length_append, List.length_cons]; unfold pC; rw [et]; omega
    · rw [hX, pC, et, get_app rfl]
      have := get_app (A := bK S) (B := (11, 59, 0) :: ((D.drop (s + 1)).flatMap fX ++ bK C)) (i := 0) rfl
      rw [Nat.add_zero (bK S).length] at this
      rw [this]; rfl
  · have es : s = D.length := by omega
    have eS : S = C := by
      rw [es, List.getElem?_append_right (Nat.le_refl _), Nat.sub_self] at h
      exact (Option.some.inj h).symm
    have et : (D ++ [C]).take s = D := by rw [es]; simp
    have hX : i_X D C = D.flatMap fX ++ (bK S ++ []) := by rw [i_X_eq, eS, List.append_nil]
    refine ⟨secAt_of hT hX (by rw [List.length_map]; rfl) (by rw [pC, et]), ?_, ?_, fun z => absurd z c, fun _ => ⟨?_, ?_⟩⟩
    · rw [hT]; simp only [List.length_append, List.length_map]; unfold pR; omega
    · rw [hX]; simp only [List.length_append]; unfold pC; rw [et]; omega
    · rw [hX]; simp only [List.length_append, List.append_nil]; unfold pC; rw [et]
    · rw [hT]; simp only [List.length_append, List.length_map]; unfold pR
      have : (D ++ [C]).drop (s + 1) = [] := by rw [es]; simp
      rw [this]; simp
theorem i_st_get (D : List (List i_It)) : ∀ (a s : Nat), s ≤ D.length → (i_st D a)[s]? = some (a + (D.take s).flatten.length) := by
  induction D with
  | nil => intro a s h; have : s = 0 := by simpa using h
           subst this; simp [i_st]
  | cons S D ih =>
    intro a s h
    cases s with
    | zero => simp [i_st]
    | succ s =>
      rw [i_st, List.getElem?_cons_succ, ih (a + S.length) s (by simpa using h)]
      simp; omega
theorem i_st_len (D : List (List i_It)) : ∀ a, (i_st D a).length = D.length + 1 := by
  induction D with
  | nil => intro a; rfl
  | cons S D ih => intro a; rw [i_st, List.length_cons, ih, List.length_cons]
/-- the reference's bounds -/
theorem bs_get {D : List (List i_It)} {C : List i_It} {s : Nat} (hs : s ≤ D.length + 1) : (i_st D 0 ++ [(i_T D C).length])[s]? = some (pR (D ++ [C]) s) := by
  by_cases c : s ≤ D.length
  · rw [List.getElem?_append_left (by rw [i_st_len]; omega), i_st_get D 0 s c, Nat.zero_add, pR, List.take_append_of_le_length c]
  · have es : s = D.length + 1 := by omega
    rw [List.getElem?_append_right (by rw [i_st_len]; omega), i_st_len, es, Nat.sub_self]
    show some _ = some _
    congr 1
    unfold pR i_T
    rw [List.length_map, List.take_of_length_le (by simp)]; simp
theorem cnt11 {c : Nat → Int32} {n : Nat} : ∀ (D : List (List i_It)) (C : List i_It), (∀ S ∈ D, iKs c n S) → iKs c n C → ((i_X D C).filter (fun q => decide (q.1 = 11))).length = D.length := by
  intro D C hD hC
  have hb : ∀ S, iKs c n S → (bK S).filter (fun q => decide (q.1 = 11)) = [] := by
    intro S hS
    rw [List.filter_eq_nil_iff]
    intro q hq
    rw [decide_eq_false (secAt.no11 hS q hq)]; decide
  rw [i_X_eq, List.filter_append, hb C hC, List.append_nil]
  induction D with
  | nil => rfl
  | cons S D ih =>
    rw [List.flatMap_cons, List.filter_append, List.length_append, ih (fun S' h => hD S' (List.mem_cons_of_mem _ h)), fX, List.filter_append, hb S (hD S (List.mem_cons_self ..))]
    simp; omega
theorem ct_filter (w : Int32) : ∀ (XS M : List r_K), r_ct (x_ty (M ++ XS)) w M.length (M ++ XS).length = (XS.filter (fun q => decide (q.1 = w))).length := by
  intro XS
  induction XS with
  | nil => intro M; rw [List.append_nil, r_ct_n]; rfl
  | cons q XS ih =>
    intro M
    rw [r_ct_S (by simp)]
    have hq : (M ++ q :: XS)[M.length]? = some q := by
      have := get_app (A := M) (B := q :: XS) (i := 0) rfl
      rw [Nat.add_zero M.length] at this; rw [this]; rfl
    rw [(x_ty_of hq).1]
    have := ih (M ++ [q])
    rw [List.append_assoc, List.length_append] at this
    rw [show M.length + 1 = M.length + [q].length from rfl]
    have e2 : (M ++ q :: XS) = (M ++ ([q] ++ XS)) := rfl
    rw [e2, this, List.filter_cons]
    by_cases z : q.1 = w
    · rw [if_pos z, decide_eq_true z]; simp; omega
    · rw [if_neg z, decide_eq_false z]; simp
theorem ct11 {c : Nat → Int32} {n : Nat} {D : List (List i_It)} {C : List i_It} (hD : ∀ S ∈ D, iKs c n S) (hC : iKs c n C) : r_ct (x_ty (i_X D C)) 11 0 (i_X D C).length = D.length := by
  have := ct_filter 11 (i_X D C) []
  rw [List.nil_append] at this
  rw [show (0 : Nat) = ([] : List r_K).length from rfl, this, cnt11 D C hD hC]
