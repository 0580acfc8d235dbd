/-! THE TWO LISTS OF TOKENS: one place in the reference's is a block of places in the class's -/
def sw (x : Int32) : Int32 := if x = 8 then 9 else if x = 9 then 8 else x
def sOk (x : Int32) : Prop := x = 2 ∨ x = 3 ∨ x = 4 ∨ x = 5 ∨ x = 6 ∨ x = 7 ∨ x = 8 ∨ x = 9 ∨ x = 10
theorem sw_01 {x : Int32} (h : sOk x) : ¬ sw x = 0 ∧ ¬ sw x = 1 ∧ ¬ x = 1 := by
  unfold sOk at h
  rcases h with h | h | h | h | h | h | h | h | h <;> subst h <;> decide
theorem sw_inj {x y : Int32} (hx : sOk x) (hy : sOk y) (e : sw x = sw y) : x = y := by
  unfold sOk at hx hy
  rcases hx with h | h | h | h | h | h | h | h | h <;> subst h <;> rcases hy with h | h | h | h | h | h | h | h | h <;> subst h <;> revert e <;> decide
def isT (tyR tyC : Nat → Int32) (off : Nat → Nat) (A B : Nat) : Prop := ∀ k, A ≤ k → k < B → off k < off (k + 1) ∧ ((tyR k = 1 ∧ ∀ j, off k ≤ j → j < off (k + 1) → tyC j = 0 ∨ tyC j = 1) ∨ (off (k + 1) = off k + 1 ∧ tyC (off k) = sw (tyR k) ∧ sOk (tyR k)))
def isQ (pR pC : Nat → Bool) (off : Nat → Nat) (A B : Nat) : Prop := ∀ k, A ≤ k → k < B → off k < off (k + 1) ∧ ((pR k = true ∧ off (k + 1) = off k + 1 ∧ pC (off k) = true) ∨ (pR k = false ∧ ∀ j, off k ≤ j → j < off (k + 1) → pC j = false))
theorem isT.at {tyR tyC : Nat → Int32} {off : Nat → Nat} {A B : Nat} (I : isT tyR tyC off A B) {w : Int32} (hw : sOk w) {k : Nat} (h1 : A ≤ k) (h2 : k < B) : (tyR k = w ∧ off (k + 1) = off k + 1 ∧ tyC (off k) = sw w) ∨ (¬ tyR k = w ∧ ∀ j, off k ≤ j → j < off (k + 1) → ¬ tyC j = sw w) := by
  obtain ⟨hlt, ⟨a1, a2⟩ | ⟨b1, b2, b3⟩⟩ := I k h1 h2
  · right
    refine ⟨fun z => (sw_01 hw).2.2 (by rw [← z, a1]), fun j j1 j2 z => ?_⟩
    rcases a2 j j1 j2 with q | q
    · exact (sw_01 hw).1 (by rw [← z, q])
    · exact (sw_01 hw).2.1 (by rw [← z, q])
  · by_cases e : tyR k = w
    · left; exact ⟨e, b1, by rw [b2, e]⟩
    · right
      refine ⟨e, fun j j1 j2 z => ?_⟩
      have : j = off k := by omega
      subst this
      exact e (sw_inj b3 hw (by rw [← b2, z]))
theorem isT.q {tyR tyC : Nat → Int32} {off : Nat → Nat} {A B : Nat} (I : isT tyR tyC off A B) {w : Int32} (hw : sOk w) : isQ (fun k => decide (tyR k = w)) (fun j => decide (tyC j = sw w)) off A B := by
  intro k h1 h2
  refine ⟨(I k h1 h2).1, ?_⟩
  rcases I.at hw h1 h2 with ⟨a, b, c⟩ | ⟨a, b⟩
  · exact Or.inl ⟨decide_eq_true a, b, decide_eq_true c⟩
  · exact Or.inr ⟨decide_eq_false a, fun j j1 j2 => decide_eq_false (b j j1 j2)⟩
theorem isT.le {tyR tyC : Nat → Int32} {off : Nat → Nat} {A B : Nat} (I : isT tyR tyC off A B) {i : Nat} (h1 : A ≤ i) : ∀ n, i + n ≤ B → off i + n ≤ off (i + n) := by
  intro n
  induction n with
  | zero => intro _; exact Nat.le_refl _
  | succ n ih =>
    intro h
    have := ih (by omega)
    have := (I (i + n) (by omega) (by omega)).1
    rw [show i + (n + 1) = i + n + 1 by omega]; omega
theorem isT.mono {tyR tyC : Nat → Int32} {off : Nat → Nat} {A B : Nat} (I : isT tyR tyC off A B) {i j : Nat} (h1 : A ≤ i) (h2 : i ≤ B) (h3 : A ≤ j) (h4 : j ≤ B) : off i ≤ off j ↔ i ≤ j := by
  constructor
  · intro z
    apply Classical.byContradiction; intro q
    have := I.le h3 (i - j) (by omega)
    rw [show j + (i - j) = i by omega] at this; omega
  · intro z
    have := I.le h1 (j - i) (by omega)
    rw [show i + (j - i) = j by omega] at this; omega
theorem isQ.cnt {pR pC : Nat → Bool} {off : Nat → Nat} {A B : Nat} (I : isQ pR pC off A B) : ∀ n i, A ≤ i → i + n ≤ B → off i ≤ off (i + n) ∧ cf_cnt pC (off i) (off (i + n) - off i) = cf_cnt pR i n := by
  intro n
  induction n with
  | zero => intro i _ _; rw [Nat.add_zero, Nat.sub_self]; exact ⟨Nat.le_refl _, rfl⟩
  | succ n ih =>
    intro i h1 h2
    obtain ⟨g1, g2⟩ := ih (i + 1) (by omega) (by omega)
    obtain ⟨l, hb⟩ := I i h1 (by omega)
    rw [show i + (n + 1) = i + 1 + n by omega]
    refine ⟨by omega, ?_⟩
    rw [show off (i + 1 + n) - off i = (off (i + 1) - off i) + (off (i + 1 + n) - off (i + 1)) by omega, cf_cnt_add, show off i + (off (i + 1) - off i) = off (i + 1) by omega, g2]
    show _ = (bif pR i then 1 else 0) + cf_cnt pR (i + 1) n
    rcases hb with ⟨a, b, c⟩ | ⟨a, b⟩
    · rw [a, b, show off i + 1 - off i = 1 by omega]
      show (bif pC (off i) then 1 else 0) + 0 + _ = _
      rw [c]; rfl
    · rw [a, (cf_cnt_0 _ _).mpr (fun j j1 j2 => b j j1 (by omega))]; rfl
theorem isQ.any {pR pC : Nat → Bool} {off : Nat → Nat} {A B : Nat} (I : isQ pR pC off A B) (hAB : A ≤ B) : x_any pC (off A) (off B - off A) = x_any pR A (B - A) := by
  have := (I.cnt (B - A) A (Nat.le_refl _) (by omega)).2
  rw [show A + (B - A) = B by omega] at this
  unfold x_any; rw [this]
theorem isT.ct {tyR tyC : Nat → Int32} {off : Nat → Nat} {A B : Nat} (I : isT tyR tyC off A B) {w : Int32} (hw : sOk w) {i j : Nat} (h1 : A ≤ i) (h2 : i ≤ j) (h3 : j ≤ B) : r_ct tyC (sw w) (off i) (off j) = r_ct tyR w i j := by
  have := ((I.q hw).cnt (j - i) i h1 (by omega)).2
  rw [show i + (j - i) = j by omega] at this
  exact this
theorem isT.fd {tyR tyC : Nat → Int32} {off : Nat → Nat} {A B : Nat} (I : isT tyR tyC off A B) {w : Int32} (hw : sOk w) : ∀ n i j, i + n = j → A ≤ i → j ≤ B → r_fd tyC (sw w) (off i) (off j) = off (r_fd tyR w i j) := by
  intro n
  induction n with
  | zero => intro i j e h1 h2; have e : i = j := e; subst e; rw [r_fd_n, r_fd_n]
  | succ n ih =>
    intro i j e h1 h2
    have hl := (I i h1 (by omega)).1
    have hm := (I.mono (i := i + 1) (j := j) (by omega) (by omega) (by omega) (by omega)).mpr (by omega)
    rw [r_fd_S (ty := tyR) (by omega)]
    rcases I.at hw h1 (show i < B by omega) with ⟨a, b, c⟩ | ⟨a, b⟩
    · rw [if_pos a, r_fd_S (by omega), if_pos c]
    · rw [if_neg a, r_fd_skip (off (i + 1) - off i) (off i) (off (i + 1)) (by omega) (by omega) b]
      exact ih (i + 1) j (by omega) (by omega) h2
theorem isT.fdAB {tyR tyC : Nat → Int32} {off : Nat → Nat} {A B : Nat} (I : isT tyR tyC off A B) (hAB : A ≤ B) {w : Int32} (hw : sOk w) : r_fd tyC (sw w) (off A) (off B) = off (r_fd tyR w A B) := I.fd hw (B - A) A B (by omega) (Nat.le_refl _) (Nat.le_refl _)
theorem sOk2 : sOk 2 := by unfold sOk; decide
theorem sOk3 : sOk 3 := by unfold sOk; decide
theorem sOk4 : sOk 4 := by unfold sOk; decide
theorem sOk5 : sOk 5 := by unfold sOk; decide
theorem sOk6 : sOk 6 := by unfold sOk; decide
theorem sOk7 : sOk 7 := by unfold sOk; decide
theorem sOk8 : sOk 8 := by unfold sOk; decide
theorem sOk9 : sOk 9 := by unfold sOk; decide
theorem sOk10 : sOk 10 := by unfold sOk; decide
theorem isT.ie {tyR tyC : Nat → Int32} {off : Nat → Nat} {A B : Nat} (I : isT tyR tyC off A B) (hAB : A ≤ B) : r_ie tyC (off A) (off B) = off (r_ie tyR A B) := by
  have e6 : r_fd tyC 6 (off A) (off B) = off (r_fd tyR 6 A B) := I.fdAB hAB sOk6
  have e3 : r_fd tyC 3 (off A) (off B) = off (r_fd tyR 3 A B) := I.fdAB hAB sOk3
  unfold r_ie
  rw [e6, e3]
  have hm := I.mono (i := r_fd tyR 6 A B) (j := r_fd tyR 3 A B) (r_fd_ge _ _ _ _) (r_fd_le hAB) (r_fd_ge _ _ _ _) (r_fd_le hAB)
  by_cases c : r_fd tyR 6 A B ≤ r_fd tyR 3 A B
  · rw [if_pos c, if_pos (hm.mpr c)]
  · rw [if_neg c, if_neg (fun z => c (hm.mp z))]
theorem isT.kd {tyR tyC : Nat → Int32} {off : Nat → Nat} {A B : Nat} (I : isT tyR tyC off A B) (hAB : A ≤ B) : r_kd tyC (off A) (off B) = r_kd tyR A B := by
  have e9 : r_ct tyC 9 (off A) (off B) = r_ct tyR 8 A B := I.ct sOk8 (Nat.le_refl _) hAB (Nat.le_refl _)
  have e8 : r_ct tyC 8 (off A) (off B) = r_ct tyR 9 A B := I.ct sOk9 (Nat.le_refl _) hAB (Nat.le_refl _)
  have e10 : r_ct tyC 10 (off A) (off B) = r_ct tyR 10 A B := I.ct sOk10 (Nat.le_refl _) hAB (Nat.le_refl _)
  have e2 : r_ct tyC 2 (off A) (off B) = r_ct tyR 2 A B := I.ct sOk2 (Nat.le_refl _) hAB (Nat.le_refl _)
  unfold r_kd
  rw [e9, e8, e10, e2, Int32.add_comm (nI (r_ct tyR 8 A B))]
theorem isT.gr {tyR tyC : Nat → Int32} {off : Nat → Nat} {A B : Nat} (I : isT tyR tyC off A B) (hAB : A ≤ B) {k : Nat} (h1 : A ≤ k) (h2 : k ≤ B) : r_gr tyC (off A) (off B) (off k) = r_gr tyR A B k := by
  have i1 := r_ie_ge tyR A B
  have i2 := r_ie_le (ty := tyR) hAB
  unfold r_gr
  have e : decide (off (r_ie tyR A B) ≤ off k) = decide (r_ie tyR A B ≤ k) := decide_eq_decide.mpr (I.mono i1 i2 h1 h2)
  rw [I.ie hAB, e, show r_ct tyC 2 (off A) (off k) = r_ct tyR 2 A k from I.ct sOk2 (Nat.le_refl _) h1 h2]
  by_cases c : r_ie tyR A B ≤ k
  · rw [decide_eq_true c]; simp
  · rw [show r_ct tyC 2 (off k) (off (r_ie tyR A B)) = r_ct tyR 2 k (r_ie tyR A B) from I.ct sOk2 h1 (by omega) i2]
theorem r_bk_stay {ty : Nat → Int32} {a k : Nat} (h : ¬ (a < k ∧ ty k = 4)) : r_bk ty a k = k := by
  cases k with
  | zero => rfl
  | succ k => rw [r_bk, if_neg h]
theorem r_bk_go {ty : Nat → Int32} {a k : Nat} (h : a < k + 1 ∧ ty (k + 1) = 4) : r_bk ty a (k + 1) = r_bk ty a k := by rw [r_bk, if_pos h]
theorem isT.bk {tyR tyC : Nat → Int32} {off : Nat → Nat} {A B : Nat} (I : isT tyR tyC off A B) : ∀ n k, A + n = k → k < B → ¬ tyR k = 1 → (tyC (r_bk tyC (off A) (off k)) = 2 ↔ tyR (r_bk tyR A k) = 2) := by
  intro n
  induction n with
  | zero =>
    intro k e h2 hs
    have e : A = k := e
    subst e
    rw [r_bk_stay (fun z => by omega), r_bk_stay (fun z => by omega)]
    obtain ⟨_, ⟨a1, _⟩ | ⟨_, b2, b3⟩⟩ := I A (Nat.le_refl _) h2
    · exact absurd a1 hs
    · rw [b2]; exact ⟨fun z => sw_inj b3 sOk2 z, fun z => by rw [z]; rfl⟩
  | succ n ih =>
    intro k e h2 hs
    obtain ⟨_, ⟨a1, _⟩ | ⟨b1, b2, b3⟩⟩ := I k (by omega) h2
    · exact absurd a1 hs
    · by_cases e4 : tyR k = 4
      · obtain ⟨k', rfl⟩ : ∃ k', k = k' + 1 := ⟨k - 1, by omega⟩
        have hAk := (I.mono (i := A) (j := k') (Nat.le_refl _) (by omega) (by omega) (by omega)).mpr (by omega)
        obtain ⟨hl, ⟨a1, a2⟩ | ⟨c1, c2, c3⟩⟩ := I k' (by omega) (by omega)
        · rw [r_bk_go ⟨by omega, e4⟩, r_bk_stay (k := k') (fun z => by rw [a1] at z; exact absurd z.2 (by decide)), a1]
          obtain ⟨x, hx⟩ : ∃ x, off (k' + 1) = x + 1 := ⟨off (k' + 1) - 1, by omega⟩
          have hx2 := a2 x (by omega) (by omega)
          rw [hx, r_bk_go ⟨by omega, by rw [← hx, b2, e4]; rfl⟩, r_bk_stay (fun z => by rcases hx2 with q | q <;> rw [q] at z <;> exact absurd z.2 (by decide))]
          constructor
          · intro z; rcases hx2 with q | q <;> rw [q] at z <;> exact absurd z (by decide)
          · intro z; exact absurd z (by decide)
        · rw [r_bk_go (ty := tyR) ⟨by omega, e4⟩, c1, r_bk_go ⟨by omega, by rw [← c1, b2, e4]; rfl⟩]
          exact ih k' (by omega) (by omega) (sw_01 c3).2.2
      · rw [r_bk_stay (k := k) (fun z => e4 z.2), r_bk_stay (k := off k) (fun z => e4 (sw_inj b3 sOk4 (by rw [← b2, z.2]; rfl))), b2]
        exact ⟨fun z => sw_inj b3 sOk2 z, fun z => by rw [z]; rfl⟩
theorem isT.scl {tyR tyC : Nat → Int32} {off : Nat → Nat} {A B : Nat} (I : isT tyR tyC off A B) {k : Nat} (h1 : A ≤ k) (h2 : k < B) (hs : ¬ tyR k = 1) : r_scl tyC (off A) (off B) (off k) = r_scl tyR A B k := by
  have hAB : A ≤ B := by omega
  have i1 := r_ie_ge tyR A B
  have i2 := r_ie_le (ty := tyR) hAB
  unfold r_scl
  have e : decide (off (r_ie tyR A B) ≤ off k) = decide (r_ie tyR A B ≤ k) := decide_eq_decide.mpr (I.mono i1 i2 h1 (by omega))
  rw [I.ie hAB, e, show r_ct tyC 2 (off A) (off k) = r_ct tyR 2 A k from I.ct sOk2 (Nat.le_refl _) h1 (by omega), decide_eq_decide.mpr (I.bk (k - A) k (by omega) h2 hs)]
  by_cases c : r_ie tyR A B ≤ k
  · rw [decide_eq_true c]; simp
  · rw [show r_ct tyC 2 (off k) (off (r_ie tyR A B)) = r_ct tyR 2 k (r_ie tyR A B) from I.ct sOk2 h1 (by omega) i2]
theorem isT.and4 {tyR tyC : Nat → Int32} {off : Nat → Nat} {A B : Nat} (I : isT tyR tyC off A B) {fR fC : Nat → Bool} (hf : ∀ k, A ≤ k → k < B → tyR k = 4 → fC (off k) = fR k) : isQ (fun k => decide (tyR k = 4) && fR k) (fun j => decide (tyC j = 4) && fC j) off A B := by
  intro k h1 h2
  refine ⟨(I k h1 h2).1, ?_⟩
  rcases I.at sOk4 h1 h2 with ⟨a, b, c⟩ | ⟨a, b⟩
  · have c : tyC (off k) = 4 := c
    have hq := hf k h1 h2 a
    cases q : fR k with
    | true =>
      refine Or.inl ⟨?_, b, ?_⟩
      · show (decide (tyR k = 4) && fR k) = true; rw [q, decide_eq_true a]; rfl
      · show (decide (tyC (off k) = 4) && fC (off k)) = true; rw [hq, q, decide_eq_true c]; rfl
    | false =>
      refine Or.inr ⟨?_, fun j j1 j2 => ?_⟩
      · show (decide (tyR k = 4) && fR k) = false; rw [q, Bool.and_false]
      · have : j = off k := by omega
        subst this
        show (decide (tyC (off k) = 4) && fC (off k)) = false; rw [hq, q, Bool.and_false]
  · refine Or.inr ⟨?_, fun j j1 j2 => ?_⟩
    · show (decide (tyR k = 4) && fR k) = false; rw [decide_eq_false a]; rfl
    · show (decide (tyC j = 4) && fC j) = false; rw [decide_eq_false (show ¬ tyC j = 4 from b j j1 j2)]; rfl
theorem isT.ag {tyR tyC : Nat → Int32} {off : Nat → Nat} {A B : Nat} (I : isT tyR tyC off A B) (hAB : A ≤ B) : x_any (r_ag2 tyC (off A) (off B)) (off A) (off B - off A) = x_any (r_ag2 tyR A B) A (B - A) :=
  isQ.any (I.and4 (fR := r_gr tyR A B) (fC := r_gr tyC (off A) (off B)) (fun k h1 h2 _ => I.gr hAB h1 (by omega))) hAB
theorem isT.sk {tyR tyC : Nat → Int32} {off : Nat → Nat} {A B : Nat} (I : isT tyR tyC off A B) (hAB : A ≤ B) : r_sk tyC (off A) (off B) (off A) (off B - off A) = r_sk tyR A B A (B - A) := by
  have := (isQ.cnt (I.and4 (fR := r_scl tyR A B) (fC := r_scl tyC (off A) (off B)) (fun k h1 h2 h4 => I.scl h1 h2 (by rw [h4]; decide))) (B - A) A (Nat.le_refl _) (by omega)).2
  rw [show A + (B - A) = B by omega] at this
  exact this
theorem r_cm_any (ty : Nat → Int32) (a b : Nat) : ∀ n i, r_cm ty a b i n = !x_any (fun k => decide (ty k = 4) && (!r_gr ty a b k && !r_scl ty a b k)) i n := by
  intro n
  induction n with
  | zero => intro i; rfl
  | succ n ih =>
    intro i
    rw [r_cm, ih, x_any_S]
    cases decide (ty i = 4) <;> cases r_gr ty a b i <;> cases r_scl ty a b i <;> rfl
theorem isT.cm {tyR tyC : Nat → Int32} {off : Nat → Nat} {A B : Nat} (I : isT tyR tyC off A B) (hAB : A ≤ B) : r_cm tyC (off A) (off B) (off A) (off B - off A) = r_cm tyR A B A (B - A) := by
  rw [r_cm_any, r_cm_any, isQ.any (I.and4 (fR := fun k => !r_gr tyR A B k && !r_scl tyR A B k) (fC := fun j => !r_gr tyC (off A) (off B) j && !r_scl tyC (off A) (off B) j) (fun k h1 h2 h4 => ?_)) hAB]
  show (!r_gr tyC (off A) (off B) (off k) && !r_scl tyC (off A) (off B) (off k)) = _
  rw [I.scl h1 h2 (by rw [h4]; decide), I.gr hAB h1 (by omega)]
theorem isT.wm {tyR tyC : Nat → Int32} {off : Nat → Nat} {A B : Nat} (I : isT tyR tyC off A B) (hAB : A ≤ B) (hB : B ≤ 40) (hb : off B ≤ 40) : r_wm tyC (off A) (off B) = r_wm tyR A B := by
  have e2 : r_ct tyC 2 (off A) (off B) = r_ct tyR 2 A B := I.ct sOk2 (Nat.le_refl _) hAB (Nat.le_refl _)
  have e3 : r_ct tyC 3 (off A) (off B) = r_ct tyR 3 A B := I.ct sOk3 (Nat.le_refl _) hAB (Nat.le_refl _)
  have e4 : r_ct tyC 4 (off A) (off B) = r_ct tyR 4 A B := I.ct sOk4 (Nat.le_refl _) hAB (Nat.le_refl _)
  have e5 : r_ct tyC 5 (off A) (off B) = r_ct tyR 5 A B := I.ct sOk5 (Nat.le_refl _) hAB (Nat.le_refl _)
  have e6 : r_ct tyC 6 (off A) (off B) = r_ct tyR 6 A B := I.ct sOk6 (Nat.le_refl _) hAB (Nat.le_refl _)
  have e7 : r_ct tyC 7 (off A) (off B) = r_ct tyR 7 A B := I.ct sOk7 (Nat.le_refl _) hAB (Nat.le_refl _)
  have f6 : r_fd tyC 6 (off A) (off B) = off (r_fd tyR 6 A B) := I.fdAB hAB sOk6
  have f3 : r_fd tyC 3 (off A) (off B) = off (r_fd tyR 3 A B) := I.fdAB hAB sOk3
  have g6 := r_fd_ge tyR 6 A B
  have k6 := r_fd_le (ty := tyR) (w := 6) hAB
  have g3 := r_fd_ge tyR 3 A B
  have k3 := r_fd_le (ty := tyR) (w := 3) hAB
  have i1 := r_ie_ge tyR A B
  have i2 := r_ie_le (ty := tyR) hAB
  have x6 : r_ct tyC 2 (off (r_fd tyR 6 A B)) (off B) = r_ct tyR 2 (r_fd tyR 6 A B) B := I.ct sOk2 g6 k6 (Nat.le_refl _)
  have xi : r_ct tyC 2 (off A) (off (r_ie tyR A B)) = r_ct tyR 2 A (r_ie tyR A B) := I.ct sOk2 (Nat.le_refl _) i1 i2
  have m6 := (I.mono g6 k6 hAB (Nat.le_refl _)).mpr k6
  have m3 := (I.mono g3 k3 hAB (Nat.le_refl _)).mpr k3
  have hlt : (nI (off (r_fd tyR 6 A B)) < nI (off (r_fd tyR 3 A B))) = (nI (r_fd tyR 6 A B) < nI (r_fd tyR 3 A B)) := by
    apply propext
    rw [nI_ltI (by omega) (by omega), nI_ltI (by omega) (by omega)]
    have := I.mono g3 k3 g6 k6
    omega
  have w2 : r_w2 tyC (off A) (off B) = r_w2 tyR A B := by
    unfold r_w2
    rw [I.kd hAB, e2, e3, e4, e5, e6, f6, f3, x6, I.ie hAB, xi, I.cm hAB]
    simp only [hlt]
  unfold r_wm
  rw [e7, w2]
  have l7 := r_ct_le tyR 7 A B
  by_cases hz : A = B
  · subst hz
    rw [r_ct_n]
    rw [if_neg (by rintro (z | z); exact absurd z (by decide); exact absurd z.1 (by decide)), if_neg (by rintro (z | z); exact absurd z (by decide); exact absurd z.1 (by decide))]
  · have : (tyC (off A) = 7) = (tyR A = 7) := by
      apply propext
      rcases I.at sOk7 (Nat.le_refl _) (show A < B by omega) with ⟨a, b, c⟩ | ⟨a, b⟩
      · exact ⟨fun _ => a, fun _ => c⟩
      · exact ⟨fun z => absurd z (b _ (Nat.le_refl _) (I A (Nat.le_refl _) (by omega)).1), fun z => absurd z a⟩
    simp only [this]
