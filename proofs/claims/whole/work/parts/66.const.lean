/-! THE CONSTANTS, out of what is given of the start -/
def cf_nw : List Cond := flatC (Jvm.Cond.and given_1 narrow_1)
def cf_tm (i : Nat) : Term := .string (cf_strs.getD i ("", 0, "")).1 (cf_strs.getD i ("", 0, "")).2.1
def cf_len : List Nat := [3, 5, 5, 16, 3, 36, 21]
def cf_ex : List Nat := [46, 53, 63, 74, 97, 108, 153]
def cf_no : List Nat := [2, 62, 72, 94, 104, 148, 178]
theorem nw_ex : ∀ i, i < 7 → cf_nw[cf_ex.getD i 0]? = some (Cond.exactly (cf_tm i) "java/lang/String") := by decide +kernel
theorem nw_co : ∀ i, i < 7 → cf_nw[cf_ex.getD i 0 + 1]? = some (Cond.eq (.field (cf_tm i) "java/lang/String" "coder" "B") (.int 0)) := by decide +kernel
theorem nw_ar : ∀ i, i < 7 → cf_nw[cf_ex.getD i 0 + 2]? = some (Cond.arrayOf (.field (cf_tm i) "java/lang/String" "value" "[B") .byte) := by decide +kernel
theorem nw_le : ∀ i, i < 7 → cf_nw[cf_ex.getD i 0 + 3]? = some (Cond.eq (.length (.field (cf_tm i) "java/lang/String" "value" "[B")) (.int (Int32.ofNat (cf_len.getD i 0)))) := by decide +kernel
theorem nw_el : ∀ i, i < 7 → ∀ j, j < cf_len.getD i 0 → cf_nw[cf_ex.getD i 0 + 4 + j]? = some (Cond.eq (.elem (.field (cf_tm i) "java/lang/String" "value" "[B") (.int (Int32.ofNat j))) (.int ((cf_byt.getD i []).getD j 0))) := by decide +kernel
theorem nw_no : ∀ j, j < 7 → ∀ i, i < j → cf_nw[cf_no.getD j 0 + i]? = some (Cond.not (Cond.eq (cf_tm i) (cf_tm j))) := by decide +kernel
theorem nw_pw : ∀ j, j < 19 → cf_nw[27 + j]? = some (Cond.eq (.elem (.static "CellFormatter" "POWERS" "[J") (.int (Int32.ofNat j))) (.long (cf_pw.getD j 0))) := by decide +kernel
theorem nw_ml : ∀ j, j < 12 → cf_nw[12 + j]? = some (Cond.eq (.elem (.static "CellFormatter$Calendar" "MONTH_LENGTHS" "[I") (.int (Int32.ofNat j))) (.int (cf_ml.getD j 0))) := by decide +kernel
def cf_CKx (ad : Nat → Nat) (A : Nat → Prop) (U : State) (H : Heap) : Prop := (∀ q ∈ cf_sts, va_Z q.1 q.2.1 q.2.2.1 (cf_tr ad q.2.2.2) (A) U H) ∧ (∀ k ty n f, cf_ka k = some (ty, n, f) → va_T ty (ad k) n f (A) U H) ∧ (∀ i own idx tx, cf_strs[i]? = some (own, idx, tx) → vk_R own idx tx (ad (110 + i)) U ∧ va_O "java/lang/String" (ad (110 + i)) (A) U H ∧ va_OF "java/lang/String" "coder" "B" (.int 0) (ad (110 + i)) (A) U H ∧ va_OF "java/lang/String" "value" "[B" (.ref (ad (130 + i))) (ad (110 + i)) (A) U H) ∧ (va_Z "jdk/internal/util/Preconditions" "SIOOBE_FORMATTER" "Ljava/util/function/BiFunction;" .null (A) U H ∨ va_Z "jdk/internal/util/Preconditions" "SIOOBE_FORMATTER" "Ljava/util/function/BiFunction;" (.ref (ad 199)) (A) U H) ∧ (∀ a i b n d z, Cond.fieldLinkNest a i b n d z ∈ lw_tbl → va_Nw (.fieldLinkNest a i b n d z) U) ∧ (∀ a i x z, Cond.methodLinkNest a i x z ∈ lw_tbl → va_Nw (.methodLinkNest a i x z) U)
theorem cf_ka_lt : ∀ k, k < 27 → (cf_ka k).isNone = true := by decide
theorem cf_CKx.to {g : cf_G} {ka : Nat → Nat} {A : Nat → Prop} {U : State} {H : Heap} (h : cf_CKx ka A U H) (hg : ∀ k, 27 ≤ k → g.1 k = ka k) (hA : ∀ q, cf_A g.1 q → A q) : cf_CK g U H := by
  obtain ⟨h1, h2, h3, h4, h5, h6⟩ := h
  refine ⟨fun q hq => ?_, fun k ty n f hk => ?_, fun i own idx tx hi => ?_, ?_, h5, h6⟩
  · have e : cf_tr g.1 q.2.2.2 = cf_tr ka q.2.2.2 := by
      have hq2 := hq
      simp only [cf_sts, List.mem_cons, List.not_mem_nil, or_false] at hq2
      rcases hq2 with rfl | rfl | rfl
      · rfl
      · exact congrArg Value.ref (hg 100 (by decide))
      · exact congrArg Value.ref (hg 101 (by decide))
    rw [e]
    exact (h1 q hq).narrow hA
  · have hk27 : 27 ≤ k := Nat.not_lt.mp fun z => by
      have := cf_ka_lt k z
      rw [hk] at this
      cases this
    rw [hg k hk27]
    exact (h2 k ty n f hk).narrow hA
  · obtain ⟨a, b, c, d⟩ := h3 i own idx tx hi
    rw [hg (110 + i) (by omega), hg (130 + i) (by omega)]
    exact ⟨a, b.narrow hA, c.narrow hA, d.narrow hA⟩
  · rw [hg 199 (by decide)]
    rcases h4 with h4 | h4
    · exact Or.inl (h4.narrow hA)
    · exact Or.inr (h4.narrow hA)

set_option maxHeartbeats 4000000 in
set_option maxRecDepth 100000 in
theorem cf_cst {p : Program} {s : State} {m : MethodId} {meth : Method} {c : Code} {b L : Nat} {xs : Nat → Int32} (C0 : lw_At p s m meth c b L xs) : ∃ ka : Nat → Nat, cf_CKx ka (fun q : Nat => s.heap.size ≤ q) s s.heap := by
  obtain ⟨hx, hb, hr, hml, hown, hts, hX, hbl, hlocks, hgv⟩ := C0
  have hs : ∀ (i : Nat) (w : Cond), cf_nw[i]? = some w → w.before #[Value.ref b] s = true := fun i w h => flat_of_before _ hgv w (List.mem_of_getElem? h)
  have hA : ∀ a : Nat, a < s.heap.size → ¬ (fun q : Nat => s.heap.size ≤ q) a := fun a h => Nat.not_le.mpr h
  have z1 := va_Zof (C := "java/lang/String") (n := "COMPACT_STRINGS") (d := "Z") (v := .int 1) (hts _ (List.mem_of_getElem? (i := 421) (by decide +kernel))) (hts _ (List.mem_of_getElem? (i := 97) (by decide +kernel))) (va_eqi (hs 4 _ (by decide +kernel))) hA
  have zS := va_Zqof (C := "jdk/internal/util/Preconditions") (n := "SIOOBE_FORMATTER") (d := "Ljava/util/function/BiFunction;") (hts _ (List.mem_of_getElem? (i := 462) (by decide +kernel))) (hts _ (List.mem_of_getElem? (i := 100) (by decide +kernel))) (hs 5 _ (by decide +kernel)) hA
  obtain ⟨tP, eP, hTP⟩ := va_Tof (tm := (.static "CellFormatter" "POWERS" "[J")) (ty := .long) (N := 19) (f := fun j => .long (cf_pw.getD j 0)) (by decide) (hs 25 _ (by decide +kernel)) (va_eqt (hs 26 _ (by decide +kernel))) (fun j hj => va_eqtl (hs _ _ (nw_pw j hj))) hA
  obtain ⟨tM, eM, hTM⟩ := va_Tof (tm := (.static "CellFormatter$Calendar" "MONTH_LENGTHS" "[I")) (ty := .int) (N := 12) (f := fun j => .int (cf_ml.getD j 0)) (by decide) (hs 10 _ (by decide +kernel)) (va_eqt (hs 11 _ (by decide +kernel))) (fun j hj => va_eqt (hs _ _ (nw_ml j hj))) hA
  have zP := va_Zof (C := "CellFormatter") (n := "POWERS") (d := "[J") (hts _ (List.mem_of_getElem? (i := 737) (by decide +kernel))) (hts _ (List.mem_of_getElem? (i := 86) (by decide +kernel))) eP hA
  have zM := va_Zof (C := "CellFormatter$Calendar") (n := "MONTH_LENGTHS") (d := "[I") (hts _ (List.mem_of_getElem? (i := 713) (by decide +kernel))) (hts _ (List.mem_of_getElem? (i := 90) (by decide +kernel))) eM hA
  obtain ⟨adK, adV, hSS, hE⟩ := vk_Sof (N := 7) (tm := cf_tm) (len := cf_len) (byt := cf_byt) (by decide) (fun i hi => hs _ _ (nw_ex i hi)) (fun i hi => hs _ _ (nw_co i hi)) (fun i hi => hs _ _ (nw_ar i hi)) (fun i hi => hs _ _ (nw_le i hi)) (fun i hi j hj => hs _ _ (nw_el i hi j hj)) (fun i j hi hj hij => by
    rcases Nat.lt_or_gt_of_ne hij with z | z
    · exact Or.inl (hs _ _ (nw_no j hj i z))
    · exact Or.inr (hs _ _ (nw_no i hi j z))) hA
  obtain ⟨tS, hS⟩ : ∃ tS : Nat, va_Z "jdk/internal/util/Preconditions" "SIOOBE_FORMATTER" "Ljava/util/function/BiFunction;" .null (fun q : Nat => s.heap.size ≤ q) s s.heap ∨ va_Z "jdk/internal/util/Preconditions" "SIOOBE_FORMATTER" "Ljava/util/function/BiFunction;" (.ref tS) (fun q : Nat => s.heap.size ≤ q) s s.heap := by
    rcases zS with z | ⟨t, z⟩
    · exact ⟨0, Or.inl z⟩
    · exact ⟨t, Or.inr z⟩
  refine ⟨fun k => bif Nat.beq k 100 then tP else bif Nat.beq k 101 then tM else bif Nat.beq k 199 then tS else bif Nat.blt k 130 then adK (k - 110) else adV (k - 130), fun q hq => ?_, fun k ty n f hk => ?_, fun i own idx tx hi => ?_, hS, fun a i b2 n d z hm => va_Nw.of rfl (hts _ hm), fun a i x2 z hm => va_Nw.of rfl (hts _ hm)⟩
  · simp only [cf_sts, List.mem_cons, List.not_mem_nil, or_false] at hq
    rcases hq with rfl | rfl | rfl
    · exact z1
    · exact zP
    · exact zM
  · unfold cf_ka at hk
    split at hk
    · cases hk; exact hTP
    · cases hk; exact hTM
    · cases hk; exact (hSS.1 0 (by decide)).2.2.2
    · cases hk; exact (hSS.1 1 (by decide)).2.2.2
    · cases hk; exact (hSS.1 2 (by decide)).2.2.2
    · cases hk; exact (hSS.1 3 (by decide)).2.2.2
    · cases hk; exact (hSS.1 4 (by decide)).2.2.2
    · cases hk; exact (hSS.1 5 (by decide)).2.2.2
    · cases hk; exact (hSS.1 6 (by decide)).2.2.2
    · cases hk
  · match i, hi with
    | 0, hi => cases hi; exact ⟨vk_R.of (hts _ (List.mem_of_getElem? (i := 407) (by decide +kernel))) (hE 0 (by decide)), (hSS.1 0 (by decide)).1, (hSS.1 0 (by decide)).2.1, (hSS.1 0 (by decide)).2.2.1⟩
    | 1, hi => cases hi; exact ⟨vk_R.of (hts _ (List.mem_of_getElem? (i := 512) (by decide +kernel))) (hE 1 (by decide)), (hSS.1 1 (by decide)).1, (hSS.1 1 (by decide)).2.1, (hSS.1 1 (by decide)).2.2.1⟩
    | 2, hi => cases hi; exact ⟨vk_R.of (hts _ (List.mem_of_getElem? (i := 534) (by decide +kernel))) (hE 2 (by decide)), (hSS.1 2 (by decide)).1, (hSS.1 2 (by decide)).2.1, (hSS.1 2 (by decide)).2.2.1⟩
    | 3, hi => cases hi; exact ⟨vk_R.of (hts _ (List.mem_of_getElem? (i := 547) (by decide +kernel))) (hE 3 (by decide)), (hSS.1 3 (by decide)).1, (hSS.1 3 (by decide)).2.1, (hSS.1 3 (by decide)).2.2.1⟩
    | 4, hi => cases hi; exact ⟨vk_R.of (hts _ (List.mem_of_getElem? (i := 548) (by decide +kernel))) (hE 4 (by decide)), (hSS.1 4 (by decide)).1, (hSS.1 4 (by decide)).2.1, (hSS.1 4 (by decide)).2.2.1⟩
    | 5, hi => cases hi; exact ⟨vk_R.of (hts _ (List.mem_of_getElem? (i := 758) (by decide +kernel))) (hE 5 (by decide)), (hSS.1 5 (by decide)).1, (hSS.1 5 (by decide)).2.1, (hSS.1 5 (by decide)).2.2.1⟩
    | 6, hi => cases hi; exact ⟨vk_R.of (hts _ (List.mem_of_getElem? (i := 765) (by decide +kernel))) (hE 6 (by decide)), (hSS.1 6 (by decide)).1, (hSS.1 6 (by decide)).2.1, (hSS.1 6 (by decide)).2.2.1⟩
    | n + 7, hi => simp [cf_strs] at hi

