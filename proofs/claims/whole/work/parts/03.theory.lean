/-! THE PURE PICTURE: int-like fields, long fields, reference fields, arrays; by object number -/
abbrev cf_H : Type := (Nat → Nat → Int32) × (Nat → Nat → Int64) × (Nat → Nat → Option Nat) × (Nat → Nat → Int32)
/-- a method: its name, its code, its locals, its answer's type, the frames and locals of its room -/
abbrev cf_M : Type := MethodName × ByteArray × Nat × Option FieldType × Nat × Nat
def cf_own (M : cf_M) : String := M.1.cls
def cf_code (M : cf_M) : ByteArray := M.2.1
def cf_mL (M : cf_M) : Nat := M.2.2.1
def cf_ret (M : cf_M) : Option FieldType := M.2.2.2.1
def cf_rm (M : cf_M) : Room := { frames := M.2.2.2.2.1, cells := 0, slots := 0, locals := M.2.2.2.2.2 }
def cf_wsM (M : cf_M) : List Cond := .code M.1 (cf_code M) (cf_mL M) (cf_ret M) :: cf_T
def cf_u2 {α : Type} (f : Nat → Nat → α) (o k : Nat) (v : α) : Nat → Nat → α := fun a b => bif (Nat.beq a o && Nat.beq b k) then v else f a b
def cf_u1 {α : Type} (f : Nat → α) (o : Nat) (v : α) : Nat → α := fun a => bif Nat.beq a o then v else f a
theorem cf_beq {a b : Nat} (h : a ≠ b) : Nat.beq a b = false := by
  cases e : Nat.beq a b with
  | false => rfl
  | true => exact absurd (Nat.eq_of_beq_eq_true e) h
theorem cf_u2_same {α : Type} (f : Nat → Nat → α) (o k : Nat) (v : α) : cf_u2 f o k v o k = v := by simp [cf_u2]
theorem cf_u2_o {α : Type} (f : Nat → Nat → α) {o k a b : Nat} (v : α) (h : a ≠ o) : cf_u2 f o k v a b = f a b := by simp [cf_u2, cf_beq h]
theorem cf_u2_k {α : Type} (f : Nat → Nat → α) {o k a b : Nat} (v : α) (h : b ≠ k) : cf_u2 f o k v a b = f a b := by simp [cf_u2, cf_beq h]
theorem cf_u1_same {α : Type} (f : Nat → α) (o : Nat) (v : α) : cf_u1 f o v o = v := by simp [cf_u1]
theorem cf_u1_o {α : Type} (f : Nat → α) {o a : Nat} (v : α) (h : a ≠ o) : cf_u1 f o v a = f a := by simp [cf_u1, cf_beq h]
def cf_pI (h : cf_H) (o k : Nat) (x : Int32) : cf_H := (cf_u2 h.1 o k x, h.2)
def cf_pJ (h : cf_H) (o k : Nat) (x : Int64) : cf_H := (h.1, cf_u2 h.2.1 o k x, h.2.2)
def cf_pR (h : cf_H) (o k : Nat) (x : Option Nat) : cf_H := (h.1, h.2.1, cf_u2 h.2.2.1 o k x, h.2.2.2)
def cf_pA (h : cf_H) (o : Nat) (i : Int32) (x : Int32) : cf_H := (h.1, h.2.1, h.2.2.1, cf_u1 h.2.2.2 o (upd (h.2.2.2 o) i.toNatClampNeg x))
/-- the objects: of a class, or an array of a type (0 int, 1 char, 2 Section) and a length -/
def cf_shl : List (Nat ⊕ (Nat × Nat)) := [.inl 8, .inr (1, 40), .inl 7, .inr (0, 40), .inr (0, 40), .inr (0, 40), .inl 4, .inr (1, 0), .inr (2, 3), .inl 5, .inl 5, .inl 5, .inl 0, .inl 6, .inr (1, 256), .inl 3, .inl 1, .inl 1, .inl 2, .inl 9, .inr (0, 40), .inr (0, 40), .inr (0, 40), .inr (0, 40), .inr (0, 40), .inr (0, 42), .inr (1, 600)]
def cf_RA (j : Nat) : Option Nat := match j with | 0 => some 9 | 1 => some 10 | _ => some 11
abbrev cf_G : Type := (Nat → Nat) × va_G × (Nat → ClassId)
def cf_tr (ad : Nat → Nat) (v : Value) : Value := match v with | .ref k => .ref (ad k) | w => w
def cf_fv (ad : Nat → Nat) (h : cf_H) (o ci k : Nat) : Value := match cf_kd ci k with
  | 0 => .int (h.1 o k)
  | 1 => .long (h.2.1 o k)
  | _ => va_rf ((h.2.2.1 o k).map ad)
def cf_cell (g : cf_G) (h : cf_H) (o : Nat) (s : Nat ⊕ (Nat × Nat)) : va_E := match s with
  | .inl ci => .inr (ci, (List.range (cf_N ci)).map (cf_fv g.1 h o ci))
  | .inr (t, n) => .inl (g.2.2 t, n, match t with | 2 => .inr (.inr (.inr (.inr (fun j => (cf_RA j).map g.1)))) | _ => .inl (h.2.2.2 o))
def cf_ws (g : cf_G) (h : cf_H) : va_W := cf_shl.mapIdx (fun o s => (g.1 o, cf_cell g h o s))
def cf_tys (dA : Nat → ClassId) : List (ClassId × FieldType) := [(dA 0, .int), (dA 1, .char), (dA 2, .object "CellFormatter$Section")]
def cf_A (ad : Nat → Nat) : Nat → Prop := fun q => ∃ k, k < 27 ∧ q = ad k
/-! constants: statics, static arrays (100, 101), String constants (110 + i, their bytes 130 + i) -/
def cf_sts : List (String × String × String × Value) := [("java/lang/String", "COMPACT_STRINGS", "Z", .int 1), ("CellFormatter", "POWERS", "[J", .ref 100), ("CellFormatter$Calendar", "MONTH_LENGTHS", "[I", .ref 101)]
def cf_pw : List Int64 := [1, 10, 100, 1000, 10000, 100000, 1000000, 10000000, 100000000, 1000000000, 10000000000, 100000000000, 1000000000000, 10000000000000, 100000000000000, 1000000000000000, 10000000000000000, 100000000000000000, 1000000000000000000]
def cf_ml : List Int32 := [31, 28, 31, 30, 31, 30, 31, 31, 30, 31, 30, 31]
def cf_byt : List (List Int32) := [[104, 109, 115], [65, 77, 47, 80, 77], [121, 109, 100, 104, 115], [32, 33, 36, 38, 39, 40, 41, 43, 45, 47, 58, 61, 94, 123, 125, 126], [48, 35, 63], [74, 97, 110, 70, 101, 98, 77, 97, 114, 65, 112, 114, 77, 97, 121, 74, 117, 110, 74, 117, 108, 65, 117, 103, 83, 101, 112, 79, 99, 116, 78, 111, 118, 68, 101, 99], [83, 117, 110, 77, 111, 110, 84, 117, 101, 87, 101, 100, 84, 104, 117, 70, 114, 105, 83, 97, 116]]
def cf_strs : List (String × Nat × String) := [("CellFormatter$Scanner", 75, "hms"), ("CellFormatter$Scanner", 87, "AM/PM"), ("CellFormatter$Scanner", 57, "ymdhs"), ("CellFormatter$Scanner", 99, " !$&'()+-/:=^{}~"), ("CellFormatter$Scanner", 101, "0#?"), ("CellFormatter$MomentWriter", 108, "JanFebMarAprMayJunJulAugSepOctNovDec"), ("CellFormatter$MomentWriter", 117, "SunMonTueWedThuFriSat")]
def cf_ka (k : Nat) : Option (FieldType × Nat × (Nat → Value)) := match k with
  | 100 => some (.long, 19, fun j => .long (cf_pw.getD j 0))
  | 101 => some (.int, 12, fun j => .int (cf_ml.getD j 0))
  | 130 => some (.byte, 3, fun j => .int ((cf_byt.getD 0 []).getD j 0))
  | 131 => some (.byte, 5, fun j => .int ((cf_byt.getD 1 []).getD j 0))
  | 132 => some (.byte, 5, fun j => .int ((cf_byt.getD 2 []).getD j 0))
  | 133 => some (.byte, 16, fun j => .int ((cf_byt.getD 3 []).getD j 0))
  | 134 => some (.byte, 3, fun j => .int ((cf_byt.getD 4 []).getD j 0))
  | 135 => some (.byte, 36, fun j => .int ((cf_byt.getD 5 []).getD j 0))
  | 136 => some (.byte, 21, fun j => .int ((cf_byt.getD 6 []).getD j 0))
  | _ => none
def cf_CK (g : cf_G) (U : State) (H : Heap) : Prop := (∀ q ∈ cf_sts, va_Z q.1 q.2.1 q.2.2.1 (cf_tr g.1 q.2.2.2) (cf_A g.1) U H) ∧ (∀ k ty n f, cf_ka k = some (ty, n, f) → va_T ty (g.1 k) n f (cf_A g.1) U H) ∧ (∀ i own idx tx, cf_strs[i]? = some (own, idx, tx) → vk_R own idx tx (g.1 (110 + i)) U ∧ va_O "java/lang/String" (g.1 (110 + i)) (cf_A g.1) U H ∧ va_OF "java/lang/String" "coder" "B" (.int 0) (g.1 (110 + i)) (cf_A g.1) U H ∧ va_OF "java/lang/String" "value" "[B" (.ref (g.1 (130 + i))) (g.1 (110 + i)) (cf_A g.1) U H) ∧ (va_Z "jdk/internal/util/Preconditions" "SIOOBE_FORMATTER" "Ljava/util/function/BiFunction;" .null (cf_A g.1) U H ∨ va_Z "jdk/internal/util/Preconditions" "SIOOBE_FORMATTER" "Ljava/util/function/BiFunction;" (.ref (g.1 199)) (cf_A g.1) U H) ∧ (∀ a i b n d z, Cond.fieldLinkNest a i b n d z ∈ lw_tbl → va_Nw (.fieldLinkNest a i b n d z) U) ∧ (∀ a i x z, Cond.methodLinkNest a i x z ∈ lw_tbl → va_Nw (.methodLinkNest a i x z) U)
def cf_inj (g : cf_G) : Prop := ∀ i j, i < 27 → j < 27 → g.1 i = g.1 j → i = j
def cf_E (g : cf_G) (U : State) (H : Heap) : Prop := va_K g.2.1 cf_cl (cf_tys g.2.2) U ∧ cf_CK g U H ∧ cf_inj g
/-- what holds at a method's entry -/
def cf_C (g : cf_G) (M : cf_M) (p : Program) (s : State) (m : MethodId) (args : Array Value) (meth : Method) (c : Code) : Prop :=
  p.tables.exec = Jvm.exec ∧ c.code = cf_code M ∧ c.maxLocals = cf_mL M ∧ meth.sig.returnType = cf_ret M ∧ s.vm.findClass (cf_own M) = some m.cls ∧ (∀ w ∈ cf_T, w.before args s = true) ∧ meth.locks = false ∧ cf_E g s s.heap
def cf_lk : List (Nat × Value) → Nat → Option Value
  | [], _ => none
  | (j, v) :: l, i => bif Nat.beq j i then some v else cf_lk l i
def cf_L (ad : Nat → Nat) (ls : Array Slot) (nL : Nat) (lv : List (Nat × Value)) : Prop := ∃ l, lv_has ls nL l ∧ ∀ i v, cf_lk lv i = some v → v ≠ .null → (i, cf_tr ad v) ∈ l
def cf_Qc (g : cf_G) (P : Option Value → cf_H → Prop) : Array Value → State → Outcome → State → Prop := fun _ st o t => (∃ (r : Option Value) (h' : cf_H), o = .returned (r.map (cf_tr g.1)) ∧ P r h' ∧ va_P g.2.1 cf_cl (cf_ws g h') t.heap) ∧ va_F (cf_A g.1) st t
/-- THE JUDGEMENT: method M, at pc, with locals lv, stack st, in picture h, returns, and its answer and picture meet P -/
def RP (M : cf_M) (pc : Nat) (lv : List (Nat × Value)) (st : List Value) (h : cf_H) (P : Option Value → cf_H → Prop) : Prop :=
  ∀ (g : cf_G) (p : Program) (l : Launch) (e : Env) (s : State) (m : MethodId) (args : Array Value) (below : List Frame) (meth : Method) (c : Code), cf_C g M p s m args meth c →
    ∀ (H : Heap) (locs : List Loc) (ls : Array Slot), va_P g.2.1 cf_cl (cf_ws g h) H → va_S (cf_A g.1) s.heap H locs → cf_L g.1 ls (cf_mL M) lv →
      W p l e (cf_rm M) s m args below meth c H locs 0 0 (MQ below (cf_Qc g P) args s 0 0 (cf_A g.1)) (F0 m pc ls (st.map (cf_tr g.1)))
def cf_D (M : cf_M) (pc : Nat) (i : Instr) (n pc' : Nat) : Prop := decode (cf_code M) pc = .ok (i, n) ∧ pc + n = pc'
/-! the world's rows -/
theorem cf_ws_at {g : cf_G} {h : cf_H} {o : Nat} {sh : Nat ⊕ (Nat × Nat)} (ho : cf_shl[o]? = some sh) : (cf_ws g h)[o]? = some (g.1 o, cf_cell g h o sh) := by
  simp [cf_ws, ho]
theorem cf_ws_of {g : cf_G} {h : cf_H} {o : Nat} {q : Nat × va_E} (hq : (cf_ws g h)[o]? = some q) : q.1 = g.1 o ∧ o < 27 := by
  unfold cf_ws at hq
  rw [List.getElem?_mapIdx] at hq
  cases hs : cf_shl[o]? with
  | none => rw [hs] at hq; cases hq
  | some sh =>
    rw [hs] at hq
    cases hq
    have := (List.getElem?_eq_some_iff.mp hs).1
    exact ⟨rfl, this⟩
theorem cf_wD {g : cf_G} (h : cf_H) (hi : cf_inj g) : va_D (cf_A g.1) (cf_ws g h) := by
  refine ⟨fun i j p q hp hq e => ?_, fun k q hq => ?_⟩
  · obtain ⟨e1, h1⟩ := cf_ws_of hp
    obtain ⟨e2, h2⟩ := cf_ws_of hq
    exact hi i j h1 h2 (by rw [← e1, ← e2]; exact e)
  · obtain ⟨e1, h1⟩ := cf_ws_of hq
    exact ⟨k, h1, e1⟩
theorem cf_ws_set {g : cf_G} {h h' : cf_H} {o : Nat} {sh : Nat ⊕ (Nat × Nat)} {E : va_E} (ho : cf_shl[o]? = some sh) (hn : cf_cell g h' o sh = E) (hoth : ∀ a z, cf_shl[a]? = some z → a ≠ o → cf_cell g h' a z = cf_cell g h a z) : (cf_ws g h).set o (g.1 o, E) = cf_ws g h' := by
  apply List.ext_getElem?
  intro a
  rw [List.getElem?_set]
  by_cases ha : o = a
  · subst ha
    rw [cf_ws_at (h := h') ho, hn]
    have hlt : o < (cf_ws g h).length := by
      unfold cf_ws; rw [List.length_mapIdx]; exact (List.getElem?_eq_some_iff.mp ho).1
    simp [hlt]
  · rw [if_neg ha]
    unfold cf_ws
    rw [List.getElem?_mapIdx, List.getElem?_mapIdx]
    cases hz : cf_shl[a]? with
    | none => rfl
    | some z => simp only [Option.map_some]; rw [hoth a z hz (fun e => ha e.symm)]
theorem cf_fld_at {g : cf_G} {h : cf_H} {o ci k N : Nat} (hN : cf_N ci = N) (hk : k < N) : ((List.range (cf_N ci)).map (cf_fv g.1 h o ci))[k]? = some (cf_fv g.1 h o ci k) := by
  rw [List.getElem?_map, List.getElem?_range (by omega)]; rfl
theorem cf_fld_set {g : cf_G} {h h' : cf_H} {o ci k N : Nat} {v : Value} (hN : cf_N ci = N) (hk : k < N) (hv : cf_fv g.1 h' o ci k = v) (hoth : ∀ j, j ≠ k → cf_fv g.1 h' o ci j = cf_fv g.1 h o ci j) : (List.range (cf_N ci)).map (cf_fv g.1 h' o ci) = ((List.range (cf_N ci)).map (cf_fv g.1 h o ci)).set k v := by
  apply List.ext_getElem?
  intro a
  rw [List.getElem?_set]
  by_cases ha : k = a
  · subst ha
    rw [cf_fld_at hN hk, hv]
    simp [hN, hk]
  · rw [if_neg ha, List.getElem?_map, List.getElem?_map]
    by_cases hz : a < cf_N ci
    · rw [List.getElem?_range hz]
      simp only [Option.map_some]
      rw [hoth a (fun e => ha e.symm)]
    · rw [List.getElem?_eq_none (by simpa using hz)]
      rfl


theorem cf_tr_i (ad : Nat → Nat) (x : Int32) : cf_tr ad (.int x) = .int x := rfl
theorem cf_fv0 {ad : Nat → Nat} {h : cf_H} {o ci k : Nat} (hk : cf_kd ci k = 0) : cf_fv ad h o ci k = .int (h.1 o k) := by unfold cf_fv; rw [hk]; rfl
theorem cf_fv1 {ad : Nat → Nat} {h : cf_H} {o ci k : Nat} (hk : cf_kd ci k = 1) : cf_fv ad h o ci k = .long (h.2.1 o k) := by unfold cf_fv; rw [hk]; rfl
theorem cf_fv2 {ad : Nat → Nat} {h : cf_H} {o ci k : Nat} (hk : cf_kd ci k = 2) : cf_fv ad h o ci k = va_rf ((h.2.2.1 o k).map ad) := by unfold cf_fv; rw [hk]; rfl
/-! locals -/
theorem cf_L.at {ad : Nat → Nat} {ls : Array Slot} {nL : Nat} {lv : List (Nat × Value)} (h : cf_L ad ls nL lv) {i : Nat} {v : Value} (hl : cf_lk lv i = some v) (hv : v ≠ .null) : ls[i]? = some (.val (cf_tr ad v)) := by
  obtain ⟨l, h1, h2⟩ := h
  exact h1.2.2 _ (h2 i v hl hv)
theorem cf_L.sub {ad : Nat → Nat} {ls : Array Slot} {nL : Nat} {lv lv' : List (Nat × Value)} (h : cf_L ad ls nL lv) (hs : ∀ q ∈ lv', cf_lk lv q.1 = some q.2) : cf_L ad ls nL lv' := by
  obtain ⟨l, h1, h2⟩ := h
  refine ⟨l, h1, fun i v hi hv => h2 i v ?_ hv⟩
  have : ∀ (q : List (Nat × Value)), cf_lk q i = some v → (i, v) ∈ q := by
    intro q
    induction q with
    | nil => intro e; cases e
    | cons a t ih =>
      obtain ⟨j, w⟩ := a
      intro e
      unfold cf_lk at e
      cases hb : Nat.beq j i with
      | true =>
        rw [hb] at e
        have : j = i := Nat.eq_of_beq_eq_true hb
        subst this
        cases e
        exact List.mem_cons_self
      | false =>
        rw [hb] at e
        exact List.mem_cons_of_mem _ (ih e)
  exact hs (i, v) (this lv' hi)
def cf_nl (lv : List (Nat × Value)) (i : Nat) : Bool := match i with
  | 0 => true
  | j + 1 => match cf_lk lv j with
    | some (.long _) => false
    | some (.double _) => false
    | _ => true
theorem cf_tr_cat (ad : Nat → Nat) (v : Value) : (cf_tr ad v).category = v.category := by cases v <;> rfl
theorem cf_L.st1 {ad : Nat → Nat} {ls' : Array Slot} {nL : Nat} {lv l : List (Nat × Value)} {i : Nat} {v : Value} (hn : cf_nl lv i = true) (h2 : ∀ i v, cf_lk lv i = some v → v ≠ .null → (i, cf_tr ad v) ∈ l) (h' : lv_has ls' nL ((i, cf_tr ad v) :: l.filter (fun q => !(q.1 == i) && !(q.1 + 1 == i && q.2.category == 2)))) : cf_L ad ls' nL ((i, v) :: lv) := by
  refine ⟨_, h', fun j w hj hw => ?_⟩
  unfold cf_lk at hj
  cases hb : Nat.beq i j with
  | true =>
    rw [hb] at hj
    have : i = j := Nat.eq_of_beq_eq_true hb
    subst this
    cases hj
    exact List.mem_cons_self
  | false =>
    rw [hb] at hj
    have hne : j ≠ i := fun e => by subst e; simp at hb
    refine List.mem_cons_of_mem _ (List.mem_filter.mpr ⟨h2 j w hj hw, ?_⟩)
    simp only [Bool.and_eq_true, Bool.not_eq_true', beq_eq_false_iff_ne, Bool.and_eq_false_iff]
    refine ⟨hne, ?_⟩
    by_cases e : j + 1 = i
    · right
      subst e
      rw [cf_tr_cat]
      have hj : cf_lk lv j = some w := hj
      unfold cf_nl at hn
      simp only [hj] at hn
      cases w <;> simp_all [Value.category]
    · left; exact e
theorem cf_L.st2 {ad : Nat → Nat} {ls' : Array Slot} {nL : Nat} {lv l : List (Nat × Value)} {i : Nat} {v : Value} (hn : cf_nl lv i = true) (h2 : ∀ i v, cf_lk lv i = some v → v ≠ .null → (i, cf_tr ad v) ∈ l) (h' : lv_has ls' nL ((i, cf_tr ad v) :: l.filter (fun q => !(q.1 == i) && (!(q.1 == i + 1) && !(q.1 + 1 == i && q.2.category == 2))))) : cf_L ad ls' nL ((i, v) :: (i + 1, .null) :: lv) := by
  refine ⟨_, h', fun j w hj hw => ?_⟩
  unfold cf_lk at hj
  cases hb : Nat.beq i j with
  | true =>
    rw [hb] at hj
    have : i = j := Nat.eq_of_beq_eq_true hb
    subst this
    cases hj
    exact List.mem_cons_self
  | false =>
    rw [hb] at hj
    have hne : j ≠ i := fun e => by subst e; simp at hb
    have hj2 : cf_lk ((i + 1, .null) :: lv) j = some w := hj
    unfold cf_lk at hj2
    cases hc : Nat.beq (i + 1) j with
    | true =>
      rw [hc] at hj2
      cases hj2
      exact absurd rfl hw
    | false =>
      rw [hc] at hj2
      have hne2 : j ≠ i + 1 := fun e => by subst e; simp at hc
      refine List.mem_cons_of_mem _ (List.mem_filter.mpr ⟨h2 j w hj2 hw, ?_⟩)
      simp only [Bool.and_eq_true, Bool.not_eq_true', beq_eq_false_iff_ne, Bool.and_eq_false_iff]
      refine ⟨hne, hne2, ?_⟩
      by_cases e : j + 1 = i
      · right
        subst e
        rw [cf_tr_cat]
        have hj3 : cf_lk lv j = some w := hj2
        unfold cf_nl at hn
        simp only [hj3] at hn
        cases w <;> simp_all [Value.category]
      · left; exact e
/-! rows: a locals' list may be changed for one that says less -/
theorem rp_lv {M : cf_M} {pc : Nat} {lv : List (Nat × Value)} {st : List Value} {h : cf_H} {P : Option Value → cf_H → Prop} (lv' : List (Nat × Value)) (hs : lv'.map (fun q => cf_lk lv q.1) = lv'.map (fun q => some q.2)) (k : RP M pc lv' st h P) : RP M pc lv st h P := by
  intro g p l e s m args below meth c C H locs ls hP hS hL
  refine k g p l e s m args below meth c C H locs ls hP hS (hL.sub fun q hq => ?_)
  obtain ⟨n, hn⟩ := List.getElem?_of_mem hq
  have := congrArg (fun z => z[n]?) hs
  simp only [List.getElem?_map, hn, Option.map_some] at this
  exact Option.some.inj this
theorem rp_mono {M : cf_M} {pc : Nat} {lv : List (Nat × Value)} {st : List Value} {h : cf_H} {P P' : Option Value → cf_H → Prop} (hm : ∀ r h, P r h → P' r h) (k : RP M pc lv st h P) : RP M pc lv st h P' := by
  intro g p l e s m args below meth c C H locs ls hP hS hL T hT X
  obtain ⟨t, h1, o, h2, h3, ⟨⟨r, h', e1, e2, e3⟩, e4⟩, h5⟩ := k g p l e s m args below meth c C H locs ls hP hS hL T hT X
  exact ⟨t, h1, o, h2, h3, ⟨⟨r, h', e1, hm r h' e2, e3⟩, e4⟩, h5⟩

theorem rp_iadd {M : cf_M} {pc pc' : Nat} {lv : List (Nat × Value)} {st : List Value} {h : cf_H} {P : Option Value → cf_H → Prop} {x y : Int32} (hd : cf_D M pc (.iadd) 1 pc') (k : RP M pc' lv (.int (x + y) :: st) h P) : RP M pc lv (.int y :: .int x :: st) h P := by
  intro g p l e s m args below meth c C H locs ls hP hS hL
  obtain ⟨hd, rfl⟩ := hd
  obtain ⟨hx, hb, hml, hr, hown, hts, hlk, hK, hCK, hi⟩ := C
  exact lv_iadd hx hb hd (k g p l e s m args below meth c ⟨hx, hb, hml, hr, hown, hts, hlk, hK, hCK, hi⟩ H locs ls hP hS hL)
theorem rp_isub {M : cf_M} {pc pc' : Nat} {lv : List (Nat × Value)} {st : List Value} {h : cf_H} {P : Option Value → cf_H → Prop} {x y : Int32} (hd : cf_D M pc (.isub) 1 pc') (k : RP M pc' lv (.int (x - y) :: st) h P) : RP M pc lv (.int y :: .int x :: st) h P := by
  intro g p l e s m args below meth c C H locs ls hP hS hL
  obtain ⟨hd, rfl⟩ := hd
  obtain ⟨hx, hb, hml, hr, hown, hts, hlk, hK, hCK, hi⟩ := C
  exact lv_isub hx hb hd (k g p l e s m args below meth c ⟨hx, hb, hml, hr, hown, hts, hlk, hK, hCK, hi⟩ H locs ls hP hS hL)
theorem rp_imul {M : cf_M} {pc pc' : Nat} {lv : List (Nat × Value)} {st : List Value} {h : cf_H} {P : Option Value → cf_H → Prop} {x y : Int32} (hd : cf_D M pc (.imul) 1 pc') (k : RP M pc' lv (.int (x * y) :: st) h P) : RP M pc lv (.int y :: .int x :: st) h P := by
  intro g p l e s m args below meth c C H locs ls hP hS hL
  obtain ⟨hd, rfl⟩ := hd
  obtain ⟨hx, hb, hml, hr, hown, hts, hlk, hK, hCK, hi⟩ := C
  exact lv_imul hx hb hd (k g p l e s m args below meth c ⟨hx, hb, hml, hr, hown, hts, hlk, hK, hCK, hi⟩ H locs ls hP hS hL)
theorem rp_iand {M : cf_M} {pc pc' : Nat} {lv : List (Nat × Value)} {st : List Value} {h : cf_H} {P : Option Value → cf_H → Prop} {x y : Int32} (hd : cf_D M pc (.iand) 1 pc') (k : RP M pc' lv (.int (x &&& y) :: st) h P) : RP M pc lv (.int y :: .int x :: st) h P := by
  intro g p l e s m args below meth c C H locs ls hP hS hL
  obtain ⟨hd, rfl⟩ := hd
  obtain ⟨hx, hb, hml, hr, hown, hts, hlk, hK, hCK, hi⟩ := C
  exact lv_iand hx hb hd (k g p l e s m args below meth c ⟨hx, hb, hml, hr, hown, hts, hlk, hK, hCK, hi⟩ H locs ls hP hS hL)
theorem rp_ior {M : cf_M} {pc pc' : Nat} {lv : List (Nat × Value)} {st : List Value} {h : cf_H} {P : Option Value → cf_H → Prop} {x y : Int32} (hd : cf_D M pc (.ior) 1 pc') (k : RP M pc' lv (.int (x ||| y) :: st) h P) : RP M pc lv (.int y :: .int x :: st) h P := by
  intro g p l e s m args below meth c C H locs ls hP hS hL
  obtain ⟨hd, rfl⟩ := hd
  obtain ⟨hx, hb, hml, hr, hown, hts, hlk, hK, hCK, hi⟩ := C
  exact lv_ior hx hb hd (k g p l e s m args below meth c ⟨hx, hb, hml, hr, hown, hts, hlk, hK, hCK, hi⟩ H locs ls hP hS hL)
theorem rp_ixor {M : cf_M} {pc pc' : Nat} {lv : List (Nat × Value)} {st : List Value} {h : cf_H} {P : Option Value → cf_H → Prop} {x y : Int32} (hd : cf_D M pc (.ixor) 1 pc') (k : RP M pc' lv (.int (x ^^^ y) :: st) h P) : RP M pc lv (.int y :: .int x :: st) h P := by
  intro g p l e s m args below meth c C H locs ls hP hS hL
  obtain ⟨hd, rfl⟩ := hd
  obtain ⟨hx, hb, hml, hr, hown, hts, hlk, hK, hCK, hi⟩ := C
  exact lv_ixor hx hb hd (k g p l e s m args below meth c ⟨hx, hb, hml, hr, hown, hts, hlk, hK, hCK, hi⟩ H locs ls hP hS hL)
theorem rp_ishl {M : cf_M} {pc pc' : Nat} {lv : List (Nat × Value)} {st : List Value} {h : cf_H} {P : Option Value → cf_H → Prop} {x y : Int32} (hd : cf_D M pc (.ishl) 1 pc') (k : RP M pc' lv (.int (x <<< (y &&& 31)) :: st) h P) : RP M pc lv (.int y :: .int x :: st) h P := by
  intro g p l e s m args below meth c C H locs ls hP hS hL
  obtain ⟨hd, rfl⟩ := hd
  obtain ⟨hx, hb, hml, hr, hown, hts, hlk, hK, hCK, hi⟩ := C
  exact lv_ishl hx hb hd (k g p l e s m args below meth c ⟨hx, hb, hml, hr, hown, hts, hlk, hK, hCK, hi⟩ H locs ls hP hS hL)
theorem rp_ishr {M : cf_M} {pc pc' : Nat} {lv : List (Nat × Value)} {st : List Value} {h : cf_H} {P : Option Value → cf_H → Prop} {x y : Int32} (hd : cf_D M pc (.ishr) 1 pc') (k : RP M pc' lv (.int (x >>> (y &&& 31)) :: st) h P) : RP M pc lv (.int y :: .int x :: st) h P := by
  intro g p l e s m args below meth c C H locs ls hP hS hL
  obtain ⟨hd, rfl⟩ := hd
  obtain ⟨hx, hb, hml, hr, hown, hts, hlk, hK, hCK, hi⟩ := C
  exact lv_ishr hx hb hd (k g p l e s m args below meth c ⟨hx, hb, hml, hr, hown, hts, hlk, hK, hCK, hi⟩ H locs ls hP hS hL)
theorem rp_iushr {M : cf_M} {pc pc' : Nat} {lv : List (Nat × Value)} {st : List Value} {h : cf_H} {P : Option Value → cf_H → Prop} {x y : Int32} (hd : cf_D M pc (.iushr) 1 pc') (k : RP M pc' lv (.int (x.toUInt32 >>> (y.toUInt32 &&& Int32.toUInt32 31)).toInt32 :: st) h P) : RP M pc lv (.int y :: .int x :: st) h P := by
  intro g p l e s m args below meth c C H locs ls hP hS hL
  obtain ⟨hd, rfl⟩ := hd
  obtain ⟨hx, hb, hml, hr, hown, hts, hlk, hK, hCK, hi⟩ := C
  exact lv_iushr hx hb hd rfl (k g p l e s m args below meth c ⟨hx, hb, hml, hr, hown, hts, hlk, hK, hCK, hi⟩ H locs ls hP hS hL)
theorem rp_idiv {M : cf_M} {pc pc' : Nat} {lv : List (Nat × Value)} {st : List Value} {h : cf_H} {P : Option Value → cf_H → Prop} {x y : Int32} (hd : cf_D M pc (.idiv) 1 pc') (hne : ¬ y = 0) (k : RP M pc' lv (.int (x / y) :: st) h P) : RP M pc lv (.int y :: .int x :: st) h P := by
  intro g p l e s m args below meth c C H locs ls hP hS hL
  obtain ⟨hd, rfl⟩ := hd
  obtain ⟨hx, hb, hml, hr, hown, hts, hlk, hK, hCK, hi⟩ := C
  exact lv_idiv hx hb hd hne (k g p l e s m args below meth c ⟨hx, hb, hml, hr, hown, hts, hlk, hK, hCK, hi⟩ H locs ls hP hS hL)
theorem rp_irem {M : cf_M} {pc pc' : Nat} {lv : List (Nat × Value)} {st : List Value} {h : cf_H} {P : Option Value → cf_H → Prop} {x y : Int32} (hd : cf_D M pc (.irem) 1 pc') (hne : ¬ y = 0) (k : RP M pc' lv (.int (x - x / y * y) :: st) h P) : RP M pc lv (.int y :: .int x :: st) h P := by
  intro g p l e s m args below meth c C H locs ls hP hS hL
  obtain ⟨hd, rfl⟩ := hd
  obtain ⟨hx, hb, hml, hr, hown, hts, hlk, hK, hCK, hi⟩ := C
  exact lv_irem hx hb hd hne (k g p l e s m args below meth c ⟨hx, hb, hml, hr, hown, hts, hlk, hK, hCK, hi⟩ H locs ls hP hS hL)
theorem rp_ineg {M : cf_M} {pc pc' : Nat} {lv : List (Nat × Value)} {st : List Value} {h : cf_H} {P : Option Value → cf_H → Prop} {x : Int32} (hd : cf_D M pc (.ineg) 1 pc') (k : RP M pc' lv (.int (-x) :: st) h P) : RP M pc lv (.int x :: st) h P := by
  intro g p l e s m args below meth c C H locs ls hP hS hL
  obtain ⟨hd, rfl⟩ := hd
  obtain ⟨hx, hb, hml, hr, hown, hts, hlk, hK, hCK, hi⟩ := C
  exact lv_ineg hx hb hd (k g p l e s m args below meth c ⟨hx, hb, hml, hr, hown, hts, hlk, hK, hCK, hi⟩ H locs ls hP hS hL)
theorem rp_ladd {M : cf_M} {pc pc' : Nat} {lv : List (Nat × Value)} {st : List Value} {h : cf_H} {P : Option Value → cf_H → Prop} {x y : Int64} (hd : cf_D M pc (.ladd) 1 pc') (k : RP M pc' lv (.long (x + y) :: st) h P) : RP M pc lv (.long y :: .long x :: st) h P := by
  intro g p l e s m args below meth c C H locs ls hP hS hL
  obtain ⟨hd, rfl⟩ := hd
  obtain ⟨hx, hb, hml, hr, hown, hts, hlk, hK, hCK, hi⟩ := C
  exact lv_ladd hx hb hd (k g p l e s m args below meth c ⟨hx, hb, hml, hr, hown, hts, hlk, hK, hCK, hi⟩ H locs ls hP hS hL)
theorem rp_lsub {M : cf_M} {pc pc' : Nat} {lv : List (Nat × Value)} {st : List Value} {h : cf_H} {P : Option Value → cf_H → Prop} {x y : Int64} (hd : cf_D M pc (.lsub) 1 pc') (k : RP M pc' lv (.long (x - y) :: st) h P) : RP M pc lv (.long y :: .long x :: st) h P := by
  intro g p l e s m args below meth c C H locs ls hP hS hL
  obtain ⟨hd, rfl⟩ := hd
  obtain ⟨hx, hb, hml, hr, hown, hts, hlk, hK, hCK, hi⟩ := C
  exact lv_lsub hx hb hd (k g p l e s m args below meth c ⟨hx, hb, hml, hr, hown, hts, hlk, hK, hCK, hi⟩ H locs ls hP hS hL)
theorem rp_lmul {M : cf_M} {pc pc' : Nat} {lv : List (Nat × Value)} {st : List Value} {h : cf_H} {P : Option Value → cf_H → Prop} {x y : Int64} (hd : cf_D M pc (.lmul) 1 pc') (k : RP M pc' lv (.long (x * y) :: st) h P) : RP M pc lv (.long y :: .long x :: st) h P := by
  intro g p l e s m args below meth c C H locs ls hP hS hL
  obtain ⟨hd, rfl⟩ := hd
  obtain ⟨hx, hb, hml, hr, hown, hts, hlk, hK, hCK, hi⟩ := C
  exact lv_lmul hx hb hd (k g p l e s m args below meth c ⟨hx, hb, hml, hr, hown, hts, hlk, hK, hCK, hi⟩ H locs ls hP hS hL)
theorem rp_land {M : cf_M} {pc pc' : Nat} {lv : List (Nat × Value)} {st : List Value} {h : cf_H} {P : Option Value → cf_H → Prop} {x y : Int64} (hd : cf_D M pc (.land) 1 pc') (k : RP M pc' lv (.long (x &&& y) :: st) h P) : RP M pc lv (.long y :: .long x :: st) h P := by
  intro g p l e s m args below meth c C H locs ls hP hS hL
  obtain ⟨hd, rfl⟩ := hd
  obtain ⟨hx, hb, hml, hr, hown, hts, hlk, hK, hCK, hi⟩ := C
  exact lv_land hx hb hd (k g p l e s m args below meth c ⟨hx, hb, hml, hr, hown, hts, hlk, hK, hCK, hi⟩ H locs ls hP hS hL)
theorem rp_lor {M : cf_M} {pc pc' : Nat} {lv : List (Nat × Value)} {st : List Value} {h : cf_H} {P : Option Value → cf_H → Prop} {x y : Int64} (hd : cf_D M pc (.lor) 1 pc') (k : RP M pc' lv (.long (x ||| y) :: st) h P) : RP M pc lv (.long y :: .long x :: st) h P := by
  intro g p l e s m args below meth c C H locs ls hP hS hL
  obtain ⟨hd, rfl⟩ := hd
  obtain ⟨hx, hb, hml, hr, hown, hts, hlk, hK, hCK, hi⟩ := C
  exact lv_lor hx hb hd (k g p l e s m args below meth c ⟨hx, hb, hml, hr, hown, hts, hlk, hK, hCK, hi⟩ H locs ls hP hS hL)
theorem rp_ldiv {M : cf_M} {pc pc' : Nat} {lv : List (Nat × Value)} {st : List Value} {h : cf_H} {P : Option Value → cf_H → Prop} {x y : Int64} (hd : cf_D M pc (.ldiv) 1 pc') (hne : ¬ y = 0) (k : RP M pc' lv (.long (x / y) :: st) h P) : RP M pc lv (.long y :: .long x :: st) h P := by
  intro g p l e s m args below meth c C H locs ls hP hS hL
  obtain ⟨hd, rfl⟩ := hd
  obtain ⟨hx, hb, hml, hr, hown, hts, hlk, hK, hCK, hi⟩ := C
  exact lv_ldiv hx hb hd hne (k g p l e s m args below meth c ⟨hx, hb, hml, hr, hown, hts, hlk, hK, hCK, hi⟩ H locs ls hP hS hL)
theorem rp_lrem {M : cf_M} {pc pc' : Nat} {lv : List (Nat × Value)} {st : List Value} {h : cf_H} {P : Option Value → cf_H → Prop} {x y : Int64} (hd : cf_D M pc (.lrem) 1 pc') (hne : ¬ y = 0) (k : RP M pc' lv (.long (x - x / y * y) :: st) h P) : RP M pc lv (.long y :: .long x :: st) h P := by
  intro g p l e s m args below meth c C H locs ls hP hS hL
  obtain ⟨hd, rfl⟩ := hd
  obtain ⟨hx, hb, hml, hr, hown, hts, hlk, hK, hCK, hi⟩ := C
  exact lv_lrem hx hb hd hne (k g p l e s m args below meth c ⟨hx, hb, hml, hr, hown, hts, hlk, hK, hCK, hi⟩ H locs ls hP hS hL)
theorem rp_lneg {M : cf_M} {pc pc' : Nat} {lv : List (Nat × Value)} {st : List Value} {h : cf_H} {P : Option Value → cf_H → Prop} {x : Int64} (hd : cf_D M pc (.lneg) 1 pc') (k : RP M pc' lv (.long (-x) :: st) h P) : RP M pc lv (.long x :: st) h P := by
  intro g p l e s m args below meth c C H locs ls hP hS hL
  obtain ⟨hd, rfl⟩ := hd
  obtain ⟨hx, hb, hml, hr, hown, hts, hlk, hK, hCK, hi⟩ := C
  exact lv_lneg hx hb hd (k g p l e s m args below meth c ⟨hx, hb, hml, hr, hown, hts, hlk, hK, hCK, hi⟩ H locs ls hP hS hL)
theorem rp_lshl {M : cf_M} {pc pc' : Nat} {lv : List (Nat × Value)} {st : List Value} {h : cf_H} {P : Option Value → cf_H → Prop} {x : Int64} {y : Int32} (hd : cf_D M pc (.lshl) 1 pc') (k : RP M pc' lv (.long (x <<< (y.toInt64 &&& 63)) :: st) h P) : RP M pc lv (.int y :: .long x :: st) h P := by
  intro g p l e s m args below meth c C H locs ls hP hS hL
  obtain ⟨hd, rfl⟩ := hd
  obtain ⟨hx, hb, hml, hr, hown, hts, hlk, hK, hCK, hi⟩ := C
  exact lv_lshl hx hb hd rfl (k g p l e s m args below meth c ⟨hx, hb, hml, hr, hown, hts, hlk, hK, hCK, hi⟩ H locs ls hP hS hL)
theorem rp_lcmp {M : cf_M} {pc pc' : Nat} {lv : List (Nat × Value)} {st : List Value} {h : cf_H} {P : Option Value → cf_H → Prop} {x y : Int64} (hd : cf_D M pc (.lcmp) 1 pc') (k : RP M pc' lv (.int (lg_cmp x y) :: st) h P) : RP M pc lv (.long y :: .long x :: st) h P := by
  intro g p l e s m args below meth c C H locs ls hP hS hL
  obtain ⟨hd, rfl⟩ := hd
  obtain ⟨hx, hb, hml, hr, hown, hts, hlk, hK, hCK, hi⟩ := C
  exact W.lcmp hx hb hd (k g p l e s m args below meth c ⟨hx, hb, hml, hr, hown, hts, hlk, hK, hCK, hi⟩ H locs ls hP hS hL)
theorem rp_i2l {M : cf_M} {pc pc' : Nat} {lv : List (Nat × Value)} {st : List Value} {h : cf_H} {P : Option Value → cf_H → Prop} {x : Int32} (hd : cf_D M pc (.i2l) 1 pc') (k : RP M pc' lv (.long x.toInt64 :: st) h P) : RP M pc lv (.int x :: st) h P := by
  intro g p l e s m args below meth c C H locs ls hP hS hL
  obtain ⟨hd, rfl⟩ := hd
  obtain ⟨hx, hb, hml, hr, hown, hts, hlk, hK, hCK, hi⟩ := C
  exact lv_i2l hx hb hd rfl (k g p l e s m args below meth c ⟨hx, hb, hml, hr, hown, hts, hlk, hK, hCK, hi⟩ H locs ls hP hS hL)
theorem rp_l2i {M : cf_M} {pc pc' : Nat} {lv : List (Nat × Value)} {st : List Value} {h : cf_H} {P : Option Value → cf_H → Prop} {x : Int64} (hd : cf_D M pc (.l2i) 1 pc') (k : RP M pc' lv (.int x.toInt32 :: st) h P) : RP M pc lv (.long x :: st) h P := by
  intro g p l e s m args below meth c C H locs ls hP hS hL
  obtain ⟨hd, rfl⟩ := hd
  obtain ⟨hx, hb, hml, hr, hown, hts, hlk, hK, hCK, hi⟩ := C
  exact lv_l2i hx hb hd rfl (k g p l e s m args below meth c ⟨hx, hb, hml, hr, hown, hts, hlk, hK, hCK, hi⟩ H locs ls hP hS hL)
theorem rp_i2b {M : cf_M} {pc pc' : Nat} {lv : List (Nat × Value)} {st : List Value} {h : cf_H} {P : Option Value → cf_H → Prop} {x : Int32} (hd : cf_D M pc (.i2b) 1 pc') (k : RP M pc' lv (.int x.toInt8.toInt32 :: st) h P) : RP M pc lv (.int x :: st) h P := by
  intro g p l e s m args below meth c C H locs ls hP hS hL
  obtain ⟨hd, rfl⟩ := hd
  obtain ⟨hx, hb, hml, hr, hown, hts, hlk, hK, hCK, hi⟩ := C
  exact lv_i2b hx hb hd rfl (k g p l e s m args below meth c ⟨hx, hb, hml, hr, hown, hts, hlk, hK, hCK, hi⟩ H locs ls hP hS hL)
theorem rp_i2c {M : cf_M} {pc pc' : Nat} {lv : List (Nat × Value)} {st : List Value} {h : cf_H} {P : Option Value → cf_H → Prop} {x : Int32} (hd : cf_D M pc (.i2c) 1 pc') (k : RP M pc' lv (.int (x.toUInt32 % 65536).toInt32 :: st) h P) : RP M pc lv (.int x :: st) h P := by
  intro g p l e s m args below meth c C H locs ls hP hS hL
  obtain ⟨hd, rfl⟩ := hd
  obtain ⟨hx, hb, hml, hr, hown, hts, hlk, hK, hCK, hi⟩ := C
  exact lv_i2c hx hb hd rfl (k g p l e s m args below meth c ⟨hx, hb, hml, hr, hown, hts, hlk, hK, hCK, hi⟩ H locs ls hP hS hL)
theorem rp_dup {M : cf_M} {pc pc' : Nat} {lv : List (Nat × Value)} {st : List Value} {h : cf_H} {P : Option Value → cf_H → Prop} {v : Value} (hd : cf_D M pc (.dup) 1 pc') (hv : v.category = 1) (k : RP M pc' lv (v :: v :: st) h P) : RP M pc lv (v :: st) h P := by
  intro g p l e s m args below meth c C H locs ls hP hS hL
  obtain ⟨hd, rfl⟩ := hd
  obtain ⟨hx, hb, hml, hr, hown, hts, hlk, hK, hCK, hi⟩ := C
  exact lv_dup hx hb hd (by rw [cf_tr_cat]; exact hv) (k g p l e s m args below meth c ⟨hx, hb, hml, hr, hown, hts, hlk, hK, hCK, hi⟩ H locs ls hP hS hL)
theorem rp_pop {M : cf_M} {pc pc' : Nat} {lv : List (Nat × Value)} {st : List Value} {h : cf_H} {P : Option Value → cf_H → Prop} {v : Value} (hd : cf_D M pc (.pop) 1 pc') (hv : v.category = 1) (k : RP M pc' lv (st) h P) : RP M pc lv (v :: st) h P := by
  intro g p l e s m args below meth c C H locs ls hP hS hL
  obtain ⟨hd, rfl⟩ := hd
  obtain ⟨hx, hb, hml, hr, hown, hts, hlk, hK, hCK, hi⟩ := C
  exact lv_pop hx hb hd (by rw [cf_tr_cat]; exact hv) (k g p l e s m args below meth c ⟨hx, hb, hml, hr, hown, hts, hlk, hK, hCK, hi⟩ H locs ls hP hS hL)
theorem rp_iconst {M : cf_M} {pc pc' : Nat} {lv : List (Nat × Value)} {st : List Value} {h : cf_H} {P : Option Value → cf_H → Prop} {n : Int} {v : Int32} (hd : cf_D M pc (.iconst n) 1 pc') (hv : Int32.ofInt n = v) (k : RP M pc' lv (.int v :: st) h P) : RP M pc lv (st) h P := by
  intro g p l e s m args below meth c C H locs ls hP hS hL
  obtain ⟨hd, rfl⟩ := hd
  obtain ⟨hx, hb, hml, hr, hown, hts, hlk, hK, hCK, hi⟩ := C
  exact lv_iconst hx hb hd hv (k g p l e s m args below meth c ⟨hx, hb, hml, hr, hown, hts, hlk, hK, hCK, hi⟩ H locs ls hP hS hL)
theorem rp_bipush {M : cf_M} {pc pc' : Nat} {lv : List (Nat × Value)} {st : List Value} {h : cf_H} {P : Option Value → cf_H → Prop} {n : Int} {v : Int32} (hd : cf_D M pc (.bipush n) 2 pc') (hv : (Int8.ofInt n).toInt32 = v) (k : RP M pc' lv (.int v :: st) h P) : RP M pc lv (st) h P := by
  intro g p l e s m args below meth c C H locs ls hP hS hL
  obtain ⟨hd, rfl⟩ := hd
  obtain ⟨hx, hb, hml, hr, hown, hts, hlk, hK, hCK, hi⟩ := C
  exact lv_bipush hx hb hd hv (k g p l e s m args below meth c ⟨hx, hb, hml, hr, hown, hts, hlk, hK, hCK, hi⟩ H locs ls hP hS hL)
theorem rp_sipush {M : cf_M} {pc pc' : Nat} {lv : List (Nat × Value)} {st : List Value} {h : cf_H} {P : Option Value → cf_H → Prop} {n : Int} {v : Int32} (hd : cf_D M pc (.sipush n) 3 pc') (hv : (Int16.ofInt n).toInt32 = v) (k : RP M pc' lv (.int v :: st) h P) : RP M pc lv (st) h P := by
  intro g p l e s m args below meth c C H locs ls hP hS hL
  obtain ⟨hd, rfl⟩ := hd
  obtain ⟨hx, hb, hml, hr, hown, hts, hlk, hK, hCK, hi⟩ := C
  exact lv_sipush hx hb hd hv (k g p l e s m args below meth c ⟨hx, hb, hml, hr, hown, hts, hlk, hK, hCK, hi⟩ H locs ls hP hS hL)
theorem rp_lconst {M : cf_M} {pc pc' : Nat} {lv : List (Nat × Value)} {st : List Value} {h : cf_H} {P : Option Value → cf_H → Prop} {n : Fin 2} {v : Int64} (hd : cf_D M pc (.lconst n) 1 pc') (hv : Int64.ofNat (n : Nat) = v) (k : RP M pc' lv (.long v :: st) h P) : RP M pc lv (st) h P := by
  intro g p l e s m args below meth c C H locs ls hP hS hL
  obtain ⟨hd, rfl⟩ := hd
  obtain ⟨hx, hb, hml, hr, hown, hts, hlk, hK, hCK, hi⟩ := C
  exact lv_lconst hx hb hd hv (k g p l e s m args below meth c ⟨hx, hb, hml, hr, hown, hts, hlk, hK, hCK, hi⟩ H locs ls hP hS hL)
theorem rp_ldc {M : cf_M} {pc pc' : Nat} {lv : List (Nat × Value)} {st : List Value} {h : cf_H} {P : Option Value → cf_H → Prop} {idx : Nat} {v : Int32} (hd : cf_D M pc (.ldc idx) 2 pc') (hw : Cond.constant (cf_own M) idx v ∈ cf_T) (k : RP M pc' lv (.int v :: st) h P) : RP M pc lv (st) h P := by
  intro g p l e s m args below meth c C H locs ls hP hS hL
  obtain ⟨hd, rfl⟩ := hd
  obtain ⟨hx, hb, hml, hr, hown, hts, hlk, hK, hCK, hi⟩ := C
  exact lv_ldc hx hb hown (hts _ hw) hd (k g p l e s m args below meth c ⟨hx, hb, hml, hr, hown, hts, hlk, hK, hCK, hi⟩ H locs ls hP hS hL)
theorem rp_ldc2 {M : cf_M} {pc pc' : Nat} {lv : List (Nat × Value)} {st : List Value} {h : cf_H} {P : Option Value → cf_H → Prop} {idx : Nat} {v : Int64} (hd : cf_D M pc (.ldc2_w idx) 3 pc') (hw : Cond.constantLong (cf_own M) idx v ∈ cf_T) (k : RP M pc' lv (.long v :: st) h P) : RP M pc lv (st) h P := by
  intro g p l e s m args below meth c C H locs ls hP hS hL
  obtain ⟨hd, rfl⟩ := hd
  obtain ⟨hx, hb, hml, hr, hown, hts, hlk, hK, hCK, hi⟩ := C
  exact lv_ldc2 hx hb hown (hts _ hw) hd (k g p l e s m args below meth c ⟨hx, hb, hml, hr, hown, hts, hlk, hK, hCK, hi⟩ H locs ls hP hS hL)
theorem rp_iload {M : cf_M} {pc pc' : Nat} {lv : List (Nat × Value)} {st : List Value} {h : cf_H} {P : Option Value → cf_H → Prop} {i : Nat} {x : Int32} (hd : cf_D M pc (.iload i) 2 pc') (hl : cf_lk lv i = some (.int x)) (k : RP M pc' lv (.int x :: st) h P) : RP M pc lv (st) h P := by
  intro g p l e s m args below meth c C H locs ls hP hS hL
  obtain ⟨hd, rfl⟩ := hd
  obtain ⟨hx, hb, hml, hr, hown, hts, hlk, hK, hCK, hi⟩ := C
  exact lv_iload hx hb hd (hL.at hl (by intro e; cases e)) (k g p l e s m args below meth c ⟨hx, hb, hml, hr, hown, hts, hlk, hK, hCK, hi⟩ H locs ls hP hS hL)
theorem rp_iload_n {M : cf_M} {pc pc' : Nat} {lv : List (Nat × Value)} {st : List Value} {h : cf_H} {P : Option Value → cf_H → Prop} {j : Fin 4} {i : Nat} {x : Int32} (hd : cf_D M pc (.iload_n j) 1 pc') (hj : (j : Nat) = i) (hl : cf_lk lv i = some (.int x)) (k : RP M pc' lv (.int x :: st) h P) : RP M pc lv (st) h P := by
  intro g p l e s m args below meth c C H locs ls hP hS hL
  obtain ⟨hd, rfl⟩ := hd
  obtain ⟨hx, hb, hml, hr, hown, hts, hlk, hK, hCK, hi⟩ := C
  exact lv_iload_n hx hb hd hj (hL.at hl (by intro e; cases e)) (k g p l e s m args below meth c ⟨hx, hb, hml, hr, hown, hts, hlk, hK, hCK, hi⟩ H locs ls hP hS hL)
theorem rp_lload {M : cf_M} {pc pc' : Nat} {lv : List (Nat × Value)} {st : List Value} {h : cf_H} {P : Option Value → cf_H → Prop} {i : Nat} {x : Int64} (hd : cf_D M pc (.lload i) 2 pc') (hl : cf_lk lv i = some (.long x)) (k : RP M pc' lv (.long x :: st) h P) : RP M pc lv (st) h P := by
  intro g p l e s m args below meth c C H locs ls hP hS hL
  obtain ⟨hd, rfl⟩ := hd
  obtain ⟨hx, hb, hml, hr, hown, hts, hlk, hK, hCK, hi⟩ := C
  exact lv_lload hx hb hd (hL.at hl (by intro e; cases e)) (k g p l e s m args below meth c ⟨hx, hb, hml, hr, hown, hts, hlk, hK, hCK, hi⟩ H locs ls hP hS hL)
theorem rp_lload_n {M : cf_M} {pc pc' : Nat} {lv : List (Nat × Value)} {st : List Value} {h : cf_H} {P : Option Value → cf_H → Prop} {j : Fin 4} {i : Nat} {x : Int64} (hd : cf_D M pc (.lload_n j) 1 pc') (hj : (j : Nat) = i) (hl : cf_lk lv i = some (.long x)) (k : RP M pc' lv (.long x :: st) h P) : RP M pc lv (st) h P := by
  intro g p l e s m args below meth c C H locs ls hP hS hL
  obtain ⟨hd, rfl⟩ := hd
  obtain ⟨hx, hb, hml, hr, hown, hts, hlk, hK, hCK, hi⟩ := C
  exact lv_lload_n hx hb hd hj (hL.at hl (by intro e; cases e)) (k g p l e s m args below meth c ⟨hx, hb, hml, hr, hown, hts, hlk, hK, hCK, hi⟩ H locs ls hP hS hL)
theorem rp_aload {M : cf_M} {pc pc' : Nat} {lv : List (Nat × Value)} {st : List Value} {h : cf_H} {P : Option Value → cf_H → Prop} {i : Nat} {x : Nat} (hd : cf_D M pc (.aload i) 2 pc') (hl : cf_lk lv i = some (.ref x)) (k : RP M pc' lv (.ref x :: st) h P) : RP M pc lv (st) h P := by
  intro g p l e s m args below meth c C H locs ls hP hS hL
  obtain ⟨hd, rfl⟩ := hd
  obtain ⟨hx, hb, hml, hr, hown, hts, hlk, hK, hCK, hi⟩ := C
  exact lv_aload hx hb hd (hL.at hl (by intro e; cases e)) (k g p l e s m args below meth c ⟨hx, hb, hml, hr, hown, hts, hlk, hK, hCK, hi⟩ H locs ls hP hS hL)
theorem rp_aload_n {M : cf_M} {pc pc' : Nat} {lv : List (Nat × Value)} {st : List Value} {h : cf_H} {P : Option Value → cf_H → Prop} {j : Fin 4} {i : Nat} {x : Nat} (hd : cf_D M pc (.aload_n j) 1 pc') (hj : (j : Nat) = i) (hl : cf_lk lv i = some (.ref x)) (k : RP M pc' lv (.ref x :: st) h P) : RP M pc lv (st) h P := by
  intro g p l e s m args below meth c C H locs ls hP hS hL
  obtain ⟨hd, rfl⟩ := hd
  obtain ⟨hx, hb, hml, hr, hown, hts, hlk, hK, hCK, hi⟩ := C
  exact lv_aload_n hx hb hd hj (hL.at hl (by intro e; cases e)) (k g p l e s m args below meth c ⟨hx, hb, hml, hr, hown, hts, hlk, hK, hCK, hi⟩ H locs ls hP hS hL)
theorem rp_istore {M : cf_M} {pc pc' : Nat} {lv : List (Nat × Value)} {st : List Value} {h : cf_H} {P : Option Value → cf_H → Prop} {i : Nat} {x : Int32} (hd : cf_D M pc (.istore i) 2 pc') (hn : cf_nl lv i = true) (hm : i < cf_mL M) (k : RP M pc' ((i, .int x) :: lv) st h P) : RP M pc lv (.int x :: st) h P := by
  intro g p l e s m args below meth c C H locs ls hP hS hL
  obtain ⟨hd, rfl⟩ := hd
  obtain ⟨hx, hb, hml, hr, hown, hts, hlk, hK, hCK, hi⟩ := C
  obtain ⟨l0, h1, h2⟩ := hL
  exact lv_istore hx hb hd h1 hm rfl (fun ls' h' => k g p l e s m args below meth c ⟨hx, hb, hml, hr, hown, hts, hlk, hK, hCK, hi⟩ H locs _ hP hS (cf_L.st1 (v := .int x) hn h2 h'))
theorem rp_istore_n {M : cf_M} {pc pc' : Nat} {lv : List (Nat × Value)} {st : List Value} {h : cf_H} {P : Option Value → cf_H → Prop} {j : Fin 4} {i : Nat} {x : Int32} (hd : cf_D M pc (.istore_n j) 1 pc') (hj : (j : Nat) = i) (hn : cf_nl lv i = true) (hm : i < cf_mL M) (k : RP M pc' ((i, .int x) :: lv) st h P) : RP M pc lv (.int x :: st) h P := by
  intro g p l e s m args below meth c C H locs ls hP hS hL
  obtain ⟨hd, rfl⟩ := hd
  obtain ⟨hx, hb, hml, hr, hown, hts, hlk, hK, hCK, hi⟩ := C
  obtain ⟨l0, h1, h2⟩ := hL
  exact lv_istore_n hx hb hd hj h1 hm rfl (fun ls' h' => k g p l e s m args below meth c ⟨hx, hb, hml, hr, hown, hts, hlk, hK, hCK, hi⟩ H locs _ hP hS (cf_L.st1 (v := .int x) hn h2 h'))
theorem rp_lstore {M : cf_M} {pc pc' : Nat} {lv : List (Nat × Value)} {st : List Value} {h : cf_H} {P : Option Value → cf_H → Prop} {i : Nat} {x : Int64} (hd : cf_D M pc (.lstore i) 2 pc') (hn : cf_nl lv i = true) (hm : i + 1 < cf_mL M) (k : RP M pc' ((i, .long x) :: (i + 1, .null) :: lv) st h P) : RP M pc lv (.long x :: st) h P := by
  intro g p l e s m args below meth c C H locs ls hP hS hL
  obtain ⟨hd, rfl⟩ := hd
  obtain ⟨hx, hb, hml, hr, hown, hts, hlk, hK, hCK, hi⟩ := C
  obtain ⟨l0, h1, h2⟩ := hL
  exact lv_lstore hx hb hd h1 hm rfl (fun ls' h' => k g p l e s m args below meth c ⟨hx, hb, hml, hr, hown, hts, hlk, hK, hCK, hi⟩ H locs _ hP hS (cf_L.st2 (v := .long x) hn h2 h'))
theorem rp_lstore_n {M : cf_M} {pc pc' : Nat} {lv : List (Nat × Value)} {st : List Value} {h : cf_H} {P : Option Value → cf_H → Prop} {j : Fin 4} {i : Nat} {x : Int64} (hd : cf_D M pc (.lstore_n j) 1 pc') (hj : (j : Nat) = i) (hn : cf_nl lv i = true) (hm : i + 1 < cf_mL M) (k : RP M pc' ((i, .long x) :: (i + 1, .null) :: lv) st h P) : RP M pc lv (.long x :: st) h P := by
  intro g p l e s m args below meth c C H locs ls hP hS hL
  obtain ⟨hd, rfl⟩ := hd
  obtain ⟨hx, hb, hml, hr, hown, hts, hlk, hK, hCK, hi⟩ := C
  obtain ⟨l0, h1, h2⟩ := hL
  exact lv_lstore_n hx hb hd hj h1 hm rfl (fun ls' h' => k g p l e s m args below meth c ⟨hx, hb, hml, hr, hown, hts, hlk, hK, hCK, hi⟩ H locs _ hP hS (cf_L.st2 (v := .long x) hn h2 h'))
theorem rp_astore {M : cf_M} {pc pc' : Nat} {lv : List (Nat × Value)} {st : List Value} {h : cf_H} {P : Option Value → cf_H → Prop} {i : Nat} {x : Nat} (hd : cf_D M pc (.astore i) 2 pc') (hn : cf_nl lv i = true) (hm : i < cf_mL M) (k : RP M pc' ((i, .ref x) :: lv) st h P) : RP M pc lv (.ref x :: st) h P := by
  intro g p l e s m args below meth c C H locs ls hP hS hL
  obtain ⟨hd, rfl⟩ := hd
  obtain ⟨hx, hb, hml, hr, hown, hts, hlk, hK, hCK, hi⟩ := C
  obtain ⟨l0, h1, h2⟩ := hL
  exact lv_astore hx hb hd h1 hm rfl (fun ls' h' => k g p l e s m args below meth c ⟨hx, hb, hml, hr, hown, hts, hlk, hK, hCK, hi⟩ H locs _ hP hS (cf_L.st1 (v := .ref x) hn h2 h'))
theorem rp_astore_n {M : cf_M} {pc pc' : Nat} {lv : List (Nat × Value)} {st : List Value} {h : cf_H} {P : Option Value → cf_H → Prop} {j : Fin 4} {i : Nat} {x : Nat} (hd : cf_D M pc (.astore_n j) 1 pc') (hj : (j : Nat) = i) (hn : cf_nl lv i = true) (hm : i < cf_mL M) (k : RP M pc' ((i, .ref x) :: lv) st h P) : RP M pc lv (.ref x :: st) h P := by
  intro g p l e s m args below meth c C H locs ls hP hS hL
  obtain ⟨hd, rfl⟩ := hd
  obtain ⟨hx, hb, hml, hr, hown, hts, hlk, hK, hCK, hi⟩ := C
  obtain ⟨l0, h1, h2⟩ := hL
  exact lv_astore_n hx hb hd hj h1 hm rfl (fun ls' h' => k g p l e s m args below meth c ⟨hx, hb, hml, hr, hown, hts, hlk, hK, hCK, hi⟩ H locs _ hP hS (cf_L.st1 (v := .ref x) hn h2 h'))
theorem rp_iinc {M : cf_M} {pc pc' : Nat} {lv : List (Nat × Value)} {st : List Value} {h : cf_H} {P : Option Value → cf_H → Prop} {i : Nat} {n : Int} {x : Int32} (hd : cf_D M pc (.iinc i n) 3 pc') (hl : cf_lk lv i = some (.int x)) {y : Int32} (hy : Int32.ofInt n = y) (hn : cf_nl lv i = true) (hm : i < cf_mL M) (k : RP M pc' ((i, .int (x + y)) :: lv) st h P) : RP M pc lv st h P := by
  intro g p l e s m args below meth c C H locs ls hP hS hL
  obtain ⟨hd, rfl⟩ := hd
  obtain ⟨hx, hb, hml, hr, hown, hts, hlk, hK, hCK, hi⟩ := C
  obtain ⟨l0, h1, h2⟩ := hL
  obtain ⟨k0, hk0⟩ := List.getElem?_of_mem (h2 i _ hl (by intro e; cases e))
  subst hy
  exact lv_iinc hx hb hd h1 hk0 rfl hm rfl (fun ls' h' => k g p l e s m args below meth c ⟨hx, hb, hml, hr, hown, hts, hlk, hK, hCK, hi⟩ H locs _ hP hS (cf_L.st1 (v := .int (x + Int32.ofInt n)) hn h2 h'))
theorem rp_if_eq {M : cf_M} {pc pc' tgt : Nat} {lv : List (Nat × Value)} {st : List Value} {h : cf_H} {P : Option Value → cf_H → Prop} {off : Int} {x : Int32} (hd : cf_D M pc (.ifCond .eq off) 3 pc') (ht : (pc : Int) + off = (tgt : Int)) (kt : x = 0 → RP M tgt lv st h P) (kf : ¬ x = 0 → RP M pc' lv st h P) : RP M pc lv (.int x :: st) h P := by
  intro g p l e s m args below meth c C H locs ls hP hS hL
  obtain ⟨hd, rfl⟩ := hd
  obtain ⟨hx, hb, hml, hr, hown, hts, hlk, hK, hCK, hi⟩ := C
  exact lv_if_eq hx hb hd ht (fun q => kt q g p l e s m args below meth c ⟨hx, hb, hml, hr, hown, hts, hlk, hK, hCK, hi⟩ H locs ls hP hS hL) (fun q => kf q g p l e s m args below meth c ⟨hx, hb, hml, hr, hown, hts, hlk, hK, hCK, hi⟩ H locs ls hP hS hL)
theorem rp_if_ne {M : cf_M} {pc pc' tgt : Nat} {lv : List (Nat × Value)} {st : List Value} {h : cf_H} {P : Option Value → cf_H → Prop} {off : Int} {x : Int32} (hd : cf_D M pc (.ifCond .ne off) 3 pc') (ht : (pc : Int) + off = (tgt : Int)) (kt : ¬ x = 0 → RP M tgt lv st h P) (kf : x = 0 → RP M pc' lv st h P) : RP M pc lv (.int x :: st) h P := by
  intro g p l e s m args below meth c C H locs ls hP hS hL
  obtain ⟨hd, rfl⟩ := hd
  obtain ⟨hx, hb, hml, hr, hown, hts, hlk, hK, hCK, hi⟩ := C
  exact lv_if_ne hx hb hd ht (fun q => kt q g p l e s m args below meth c ⟨hx, hb, hml, hr, hown, hts, hlk, hK, hCK, hi⟩ H locs ls hP hS hL) (fun q => kf q g p l e s m args below meth c ⟨hx, hb, hml, hr, hown, hts, hlk, hK, hCK, hi⟩ H locs ls hP hS hL)
theorem rp_if_lt {M : cf_M} {pc pc' tgt : Nat} {lv : List (Nat × Value)} {st : List Value} {h : cf_H} {P : Option Value → cf_H → Prop} {off : Int} {x : Int32} (hd : cf_D M pc (.ifCond .lt off) 3 pc') (ht : (pc : Int) + off = (tgt : Int)) (kt : x < 0 → RP M tgt lv st h P) (kf : ¬ x < 0 → RP M pc' lv st h P) : RP M pc lv (.int x :: st) h P := by
  intro g p l e s m args below meth c C H locs ls hP hS hL
  obtain ⟨hd, rfl⟩ := hd
  obtain ⟨hx, hb, hml, hr, hown, hts, hlk, hK, hCK, hi⟩ := C
  exact lv_if_lt hx hb hd ht (fun q => kt q g p l e s m args below meth c ⟨hx, hb, hml, hr, hown, hts, hlk, hK, hCK, hi⟩ H locs ls hP hS hL) (fun q => kf q g p l e s m args below meth c ⟨hx, hb, hml, hr, hown, hts, hlk, hK, hCK, hi⟩ H locs ls hP hS hL)
theorem rp_if_ge {M : cf_M} {pc pc' tgt : Nat} {lv : List (Nat × Value)} {st : List Value} {h : cf_H} {P : Option Value → cf_H → Prop} {off : Int} {x : Int32} (hd : cf_D M pc (.ifCond .ge off) 3 pc') (ht : (pc : Int) + off = (tgt : Int)) (kt : 0 ≤ x → RP M tgt lv st h P) (kf : ¬ 0 ≤ x → RP M pc' lv st h P) : RP M pc lv (.int x :: st) h P := by
  intro g p l e s m args below meth c C H locs ls hP hS hL
  obtain ⟨hd, rfl⟩ := hd
  obtain ⟨hx, hb, hml, hr, hown, hts, hlk, hK, hCK, hi⟩ := C
  exact lv_if_ge hx hb hd ht (fun q => kt q g p l e s m args below meth c ⟨hx, hb, hml, hr, hown, hts, hlk, hK, hCK, hi⟩ H locs ls hP hS hL) (fun q => kf q g p l e s m args below meth c ⟨hx, hb, hml, hr, hown, hts, hlk, hK, hCK, hi⟩ H locs ls hP hS hL)
theorem rp_if_gt {M : cf_M} {pc pc' tgt : Nat} {lv : List (Nat × Value)} {st : List Value} {h : cf_H} {P : Option Value → cf_H → Prop} {off : Int} {x : Int32} (hd : cf_D M pc (.ifCond .gt off) 3 pc') (ht : (pc : Int) + off = (tgt : Int)) (kt : 0 < x → RP M tgt lv st h P) (kf : ¬ 0 < x → RP M pc' lv st h P) : RP M pc lv (.int x :: st) h P := by
  intro g p l e s m args below meth c C H locs ls hP hS hL
  obtain ⟨hd, rfl⟩ := hd
  obtain ⟨hx, hb, hml, hr, hown, hts, hlk, hK, hCK, hi⟩ := C
  exact lv_if_gt hx hb hd ht (fun q => kt q g p l e s m args below meth c ⟨hx, hb, hml, hr, hown, hts, hlk, hK, hCK, hi⟩ H locs ls hP hS hL) (fun q => kf q g p l e s m args below meth c ⟨hx, hb, hml, hr, hown, hts, hlk, hK, hCK, hi⟩ H locs ls hP hS hL)
theorem rp_if_le {M : cf_M} {pc pc' tgt : Nat} {lv : List (Nat × Value)} {st : List Value} {h : cf_H} {P : Option Value → cf_H → Prop} {off : Int} {x : Int32} (hd : cf_D M pc (.ifCond .le off) 3 pc') (ht : (pc : Int) + off = (tgt : Int)) (kt : x ≤ 0 → RP M tgt lv st h P) (kf : ¬ x ≤ 0 → RP M pc' lv st h P) : RP M pc lv (.int x :: st) h P := by
  intro g p l e s m args below meth c C H locs ls hP hS hL
  obtain ⟨hd, rfl⟩ := hd
  obtain ⟨hx, hb, hml, hr, hown, hts, hlk, hK, hCK, hi⟩ := C
  exact lv_if_le hx hb hd ht (fun q => kt q g p l e s m args below meth c ⟨hx, hb, hml, hr, hown, hts, hlk, hK, hCK, hi⟩ H locs ls hP hS hL) (fun q => kf q g p l e s m args below meth c ⟨hx, hb, hml, hr, hown, hts, hlk, hK, hCK, hi⟩ H locs ls hP hS hL)
theorem rp_icmp_eq {M : cf_M} {pc pc' tgt : Nat} {lv : List (Nat × Value)} {st : List Value} {h : cf_H} {P : Option Value → cf_H → Prop} {off : Int} {x y : Int32} (hd : cf_D M pc (.if_icmp .eq off) 3 pc') (ht : (pc : Int) + off = (tgt : Int)) (kt : x = y → RP M tgt lv st h P) (kf : ¬ x = y → RP M pc' lv st h P) : RP M pc lv (.int y :: .int x :: st) h P := by
  intro g p l e s m args below meth c C H locs ls hP hS hL
  obtain ⟨hd, rfl⟩ := hd
  obtain ⟨hx, hb, hml, hr, hown, hts, hlk, hK, hCK, hi⟩ := C
  exact lv_icmp_eq hx hb hd ht (fun q => kt q g p l e s m args below meth c ⟨hx, hb, hml, hr, hown, hts, hlk, hK, hCK, hi⟩ H locs ls hP hS hL) (fun q => kf q g p l e s m args below meth c ⟨hx, hb, hml, hr, hown, hts, hlk, hK, hCK, hi⟩ H locs ls hP hS hL)
theorem rp_icmp_ne {M : cf_M} {pc pc' tgt : Nat} {lv : List (Nat × Value)} {st : List Value} {h : cf_H} {P : Option Value → cf_H → Prop} {off : Int} {x y : Int32} (hd : cf_D M pc (.if_icmp .ne off) 3 pc') (ht : (pc : Int) + off = (tgt : Int)) (kt : ¬ x = y → RP M tgt lv st h P) (kf : x = y → RP M pc' lv st h P) : RP M pc lv (.int y :: .int x :: st) h P := by
  intro g p l e s m args below meth c C H locs ls hP hS hL
  obtain ⟨hd, rfl⟩ := hd
  obtain ⟨hx, hb, hml, hr, hown, hts, hlk, hK, hCK, hi⟩ := C
  exact lv_icmp_ne hx hb hd ht (fun q => kt q g p l e s m args below meth c ⟨hx, hb, hml, hr, hown, hts, hlk, hK, hCK, hi⟩ H locs ls hP hS hL) (fun q => kf q g p l e s m args below meth c ⟨hx, hb, hml, hr, hown, hts, hlk, hK, hCK, hi⟩ H locs ls hP hS hL)
theorem rp_icmp_lt {M : cf_M} {pc pc' tgt : Nat} {lv : List (Nat × Value)} {st : List Value} {h : cf_H} {P : Option Value → cf_H → Prop} {off : Int} {x y : Int32} (hd : cf_D M pc (.if_icmp .lt off) 3 pc') (ht : (pc : Int) + off = (tgt : Int)) (kt : x < y → RP M tgt lv st h P) (kf : ¬ x < y → RP M pc' lv st h P) : RP M pc lv (.int y :: .int x :: st) h P := by
  intro g p l e s m args below meth c C H locs ls hP hS hL
  obtain ⟨hd, rfl⟩ := hd
  obtain ⟨hx, hb, hml, hr, hown, hts, hlk, hK, hCK, hi⟩ := C
  exact lv_icmp_lt hx hb hd ht (fun q => kt q g p l e s m args below meth c ⟨hx, hb, hml, hr, hown, hts, hlk, hK, hCK, hi⟩ H locs ls hP hS hL) (fun q => kf q g p l e s m args below meth c ⟨hx, hb, hml, hr, hown, hts, hlk, hK, hCK, hi⟩ H locs ls hP hS hL)
theorem rp_icmp_ge {M : cf_M} {pc pc' tgt : Nat} {lv : List (Nat × Value)} {st : List Value} {h : cf_H} {P : Option Value → cf_H → Prop} {off : Int} {x y : Int32} (hd : cf_D M pc (.if_icmp .ge off) 3 pc') (ht : (pc : Int) + off = (tgt : Int)) (kt : y ≤ x → RP M tgt lv st h P) (kf : ¬ y ≤ x → RP M pc' lv st h P) : RP M pc lv (.int y :: .int x :: st) h P := by
  intro g p l e s m args below meth c C H locs ls hP hS hL
  obtain ⟨hd, rfl⟩ := hd
  obtain ⟨hx, hb, hml, hr, hown, hts, hlk, hK, hCK, hi⟩ := C
  exact lv_icmp_ge hx hb hd ht (fun q => kt q g p l e s m args below meth c ⟨hx, hb, hml, hr, hown, hts, hlk, hK, hCK, hi⟩ H locs ls hP hS hL) (fun q => kf q g p l e s m args below meth c ⟨hx, hb, hml, hr, hown, hts, hlk, hK, hCK, hi⟩ H locs ls hP hS hL)
theorem rp_icmp_gt {M : cf_M} {pc pc' tgt : Nat} {lv : List (Nat × Value)} {st : List Value} {h : cf_H} {P : Option Value → cf_H → Prop} {off : Int} {x y : Int32} (hd : cf_D M pc (.if_icmp .gt off) 3 pc') (ht : (pc : Int) + off = (tgt : Int)) (kt : y < x → RP M tgt lv st h P) (kf : ¬ y < x → RP M pc' lv st h P) : RP M pc lv (.int y :: .int x :: st) h P := by
  intro g p l e s m args below meth c C H locs ls hP hS hL
  obtain ⟨hd, rfl⟩ := hd
  obtain ⟨hx, hb, hml, hr, hown, hts, hlk, hK, hCK, hi⟩ := C
  exact lv_icmp_gt hx hb hd ht (fun q => kt q g p l e s m args below meth c ⟨hx, hb, hml, hr, hown, hts, hlk, hK, hCK, hi⟩ H locs ls hP hS hL) (fun q => kf q g p l e s m args below meth c ⟨hx, hb, hml, hr, hown, hts, hlk, hK, hCK, hi⟩ H locs ls hP hS hL)
theorem rp_icmp_le {M : cf_M} {pc pc' tgt : Nat} {lv : List (Nat × Value)} {st : List Value} {h : cf_H} {P : Option Value → cf_H → Prop} {off : Int} {x y : Int32} (hd : cf_D M pc (.if_icmp .le off) 3 pc') (ht : (pc : Int) + off = (tgt : Int)) (kt : x ≤ y → RP M tgt lv st h P) (kf : ¬ x ≤ y → RP M pc' lv st h P) : RP M pc lv (.int y :: .int x :: st) h P := by
  intro g p l e s m args below meth c C H locs ls hP hS hL
  obtain ⟨hd, rfl⟩ := hd
  obtain ⟨hx, hb, hml, hr, hown, hts, hlk, hK, hCK, hi⟩ := C
  exact lv_icmp_le hx hb hd ht (fun q => kt q g p l e s m args below meth c ⟨hx, hb, hml, hr, hown, hts, hlk, hK, hCK, hi⟩ H locs ls hP hS hL) (fun q => kf q g p l e s m args below meth c ⟨hx, hb, hml, hr, hown, hts, hlk, hK, hCK, hi⟩ H locs ls hP hS hL)
theorem rp_goto {M : cf_M} {pc pc' tgt : Nat} {lv : List (Nat × Value)} {st : List Value} {h : cf_H} {P : Option Value → cf_H → Prop} {off : Int} (hd : cf_D M pc (.goto off) 3 pc') (ht : (pc : Int) + off = (tgt : Int)) (k : RP M tgt lv st h P) : RP M pc lv st h P := by
  intro g p l e s m args below meth c C H locs ls hP hS hL
  obtain ⟨hd, rfl⟩ := hd
  obtain ⟨hx, hb, hml, hr, hown, hts, hlk, hK, hCK, hi⟩ := C
  exact lv_goto hx hb hd ht (k g p l e s m args below meth c ⟨hx, hb, hml, hr, hown, hts, hlk, hK, hCK, hi⟩ H locs ls hP hS hL)
theorem rp_ireturn {M : cf_M} {pc pc' : Nat} {lv : List (Nat × Value)} {h : cf_H} {P : Option Value → cf_H → Prop} {ty : FieldType} {x : Int32} (hd : cf_D M pc .ireturn 1 pc') (ht : cf_ret M = some ty) (hn : narrow ty (.int x) = .int x) (k : P (some (.int x)) h) : RP M pc lv [.int x] h P := by
  intro g p l e s m args below meth c C H locs ls hP hS hL
  obtain ⟨hd, rfl⟩ := hd
  obtain ⟨hx, hb, hml, hr, hown, hts, hlk, hK, hCK, hi⟩ := C
  exact W.zret hx hb (hr.trans ht) hn (fun t ht _ => ⟨⟨some (.int x), h, rfl, k, by rw [ht]; exact hP⟩, hS.F ht⟩) hS.2.2 hd hlk
theorem rp_lreturn {M : cf_M} {pc pc' : Nat} {lv : List (Nat × Value)} {h : cf_H} {P : Option Value → cf_H → Prop} {x : Int64} (hd : cf_D M pc .lreturn 1 pc') (ht : cf_ret M = some .long) (k : P (some (.long x)) h) : RP M pc lv [.long x] h P := by
  intro g p l e s m args below meth c C H locs ls hP hS hL
  obtain ⟨hd, rfl⟩ := hd
  obtain ⟨hx, hb, hml, hr, hown, hts, hlk, hK, hCK, hi⟩ := C
  exact W.lret hx hb (hr.trans ht) (fun t ht _ => ⟨⟨some (.long x), h, rfl, k, by rw [ht]; exact hP⟩, hS.F ht⟩) hS.2.2 hd hlk
theorem rp_return {M : cf_M} {pc pc' : Nat} {lv : List (Nat × Value)} {h : cf_H} {P : Option Value → cf_H → Prop} (hd : cf_D M pc .return_ 1 pc') (ht : cf_ret M = none) (k : P none h) : RP M pc lv [] h P := by
  intro g p l e s m args below meth c C H locs ls hP hS hL
  obtain ⟨hd, rfl⟩ := hd
  obtain ⟨hx, hb, hml, hr, hown, hts, hlk, hK, hCK, hi⟩ := C
  exact W.vret hx hb (hr.trans ht) (fun t ht _ => ⟨⟨none, h, rfl, k, by rw [ht]; exact hP⟩, hS.F ht⟩) hS.2.2 hd hlk
/-! fields -/
def cf_F (own : String) (idx ci k kind : Nat) (ty : FieldType) (fin : Bool) : Prop := ∃ (C : String) (T : u_T) (N : Nat) (tys : Nat → FieldType), cf_cl[ci]? = some (C, T, N) ∧ (∀ w ∈ u_ws C T N, w ∈ cf_T) ∧ (∀ j, j < N → parseFieldDescriptor (T j).2.2.1 = some (tys j)) ∧ (∀ a, a < N → ∀ b, b < N → a ≠ b → (T a).2.1 ≠ (T b).2.1) ∧ k < N ∧ cf_N ci = N ∧ cf_kd ci k = kind ∧ tys k = ty ∧ (T k).2.2.2 = fin ∧ (T k).1 = C ∧ (Cond.fieldLink own idx C (T k).2.1 (T k).2.2.1 ∈ cf_T ∨ ∃ host, Cond.fieldLinkNest own idx C (T k).2.1 (T k).2.2.1 host ∈ lw_tbl)
theorem cf_getW {M : cf_M} {pc idx ci k kind o : Nat} {ty : FieldType} {fin : Bool} {h : cf_H} {g : cf_G} {p : Program} {l : Launch} {e : Env} {R : Room} {s : State} {m : MethodId} {args : Array Value} {below : List Frame} {meth : Method} {c : Code} {H : Heap} {locs : List Loc} {cells slots : Nat} {Q : State → Prop} {ls : Array Slot} {rest : List Value}
    (hd : decode (cf_code M) pc = .ok (.getfield idx, 3)) (hf : cf_F (cf_own M) idx ci k kind ty fin) (ho : cf_shl[o]? = some (.inl ci)) (C0 : cf_C g M p s m args meth c) (hP : va_P g.2.1 cf_cl (cf_ws g h) H)
    (kk : W p l e R s m args below meth c H locs cells slots Q (F0 m (pc + 3) ls (cf_fv g.1 h o ci k :: rest))) : W p l e R s m args below meth c H locs cells slots Q (F0 m pc ls (.ref (g.1 o) :: rest)) := by
  obtain ⟨hx, hb, hml, hr, hown, hts, hlk, hK, hCK, hi⟩ := C0
  obtain ⟨C, T, N, tys, hc, hin, hty, hnm, hk, hN, hkd, hty2, hfin, hC, hl⟩ := hf
  have he : (cf_ws g h)[o]? = some (g.1 o, .inr (ci, (List.range (cf_N ci)).map (cf_fv g.1 h o ci))) := cf_ws_at ho
  rcases hl with hl | ⟨host, hl⟩
  · exact va_get hx hb hts hin hown hK hP o he hc k hk (hts _ hl) (fun x h => by rw [hC] at h; exact h) (cf_fld_at hN hk) hd kk
  · exact va_getN hx hb hts hin hown hK hP o he hc k hk (va_Nw.use rfl (hCK.2.2.2.2.1 _ _ _ _ _ _ hl)) (fun x h => by rw [hC] at h; exact h) (cf_fld_at hN hk) hd kk
theorem cf_oth {g : cf_G} {h h' : cf_H} {o : Nat} (h1 : ∀ a, a ≠ o → ∀ b, h'.1 a b = h.1 a b) (h2 : ∀ a, a ≠ o → ∀ b, h'.2.1 a b = h.2.1 a b) (h3 : ∀ a, a ≠ o → ∀ b, h'.2.2.1 a b = h.2.2.1 a b) (h4 : ∀ a, a ≠ o → h'.2.2.2 a = h.2.2.2 a) : ∀ a z, cf_shl[a]? = some z → a ≠ o → cf_cell g h' a z = cf_cell g h a z := by
  intro a z _ ha
  unfold cf_cell
  cases z with
  | inl ci =>
    have : cf_fv g.1 h' a ci = cf_fv g.1 h a ci := by
      funext k
      unfold cf_fv
      rw [h1 a ha, h2 a ha, h3 a ha]
    simp only [this]
  | inr q =>
    obtain ⟨t, n⟩ := q
    simp only [h4 a ha]
theorem cf_putW {M : cf_M} {pc idx ci k kind o : Nat} {ty : FieldType} {h h' : cf_H} {v : Value} {g : cf_G} {p : Program} {l : Launch} {e : Env} {R : Room} {s : State} {m : MethodId} {args : Array Value} {below : List Frame} {meth : Method} {c : Code} {H : Heap} {locs : List Loc} {cells slots : Nat} {Q : State → Prop} {ls : Array Slot} {rest : List Value}
    (hd : decode (cf_code M) pc = .ok (.putfield idx, 3)) (hf : cf_F (cf_own M) idx ci k kind ty false) (ho : cf_shl[o]? = some (.inl ci)) (hn : narrow ty v = v) (hfit : fits ty v = true) (C0 : cf_C g M p s m args meth c) (hP : va_P g.2.1 cf_cl (cf_ws g h) H) (hS : va_S (cf_A g.1) s.heap H locs)
    (hv : cf_kd ci k = kind → cf_fv g.1 h' o ci k = v) (hsame : ∀ j, j ≠ k → cf_fv g.1 h' o ci j = cf_fv g.1 h o ci j) (hoth : ∀ a z, cf_shl[a]? = some z → a ≠ o → cf_cell g h' a z = cf_cell g h a z)
    (kk : ∀ H1 locs1, va_P g.2.1 cf_cl (cf_ws g h') H1 → va_S (cf_A g.1) s.heap H1 locs1 → W p l e R s m args below meth c H1 locs1 cells slots Q (F0 m (pc + 3) ls rest)) : W p l e R s m args below meth c H locs cells slots Q (F0 m pc ls (v :: .ref (g.1 o) :: rest)) := by
  obtain ⟨hx, hb, hml, hr, hown, hts, hlk, hK, hCK, hi⟩ := C0
  obtain ⟨C, T, N, tys, hc, hin, hty, hnm, hk, hN, hkd, hty2, hfin, hC, hl⟩ := hf
  have he : (cf_ws g h)[o]? = some (g.1 o, .inr (ci, (List.range (cf_N ci)).map (cf_fv g.1 h o ci))) := cf_ws_at ho
  have hset : (cf_ws g h).set o (g.1 o, .inr (ci, ((List.range (cf_N ci)).map (cf_fv g.1 h o ci)).set k v)) = cf_ws g h' := cf_ws_set ho (by show (Sum.inr (ci, _) : va_E) = _; rw [cf_fld_set hN hk (hv hkd) hsame]) hoth
  have hpd : parseFieldDescriptor (T k).2.2.1 = some ty := by rw [← hty2]; exact hty k hk
  have hlen : k < ((List.range (cf_N ci)).map (cf_fv g.1 h o ci)).length := by simp; omega
  rcases hl with hl | ⟨host, hl⟩
  · exact va_put hx hb hts hin tys hty hnm hown hK hP (cf_wD h hi) hS o he hc k hk (hts _ hl) (fun x h => by rw [hC] at h; exact h) hfin hpd hn hfit hlen hd (fun H1 locs1 q1 _ q3 => kk H1 locs1 (by rw [← hset]; exact q1) q3)
  · exact va_putN hx hb hts hin tys hty hnm hown hK hP (cf_wD h hi) hS o he hc k hk (va_Nw.use rfl (hCK.2.2.2.2.1 _ _ _ _ _ _ hl)) (fun x h => by rw [hC] at h; exact h) hfin hpd hn hfit hlen hd (fun H1 locs1 q1 _ q3 => kk H1 locs1 (by rw [← hset]; exact q1) q3)

theorem rp_getI {M : cf_M} {pc pc' idx ci k o : Nat} {ty : FieldType} {fin : Bool} {lv : List (Nat × Value)} {st : List Value} {h : cf_H} {P : Option Value → cf_H → Prop} (hd : cf_D M pc (.getfield idx) 3 pc') (hf : cf_F (cf_own M) idx ci k 0 ty fin) (ho : cf_shl[o]? = some (.inl ci)) (kk : RP M pc' lv (.int (h.1 o k) :: st) h P) : RP M pc lv (.ref o :: st) h P := by
  intro g p l e s m args below meth c C H locs ls hP hS hL
  obtain ⟨hd, rfl⟩ := hd
  have hkd : cf_kd ci k = 0 := by obtain ⟨_, _, _, _, _, _, _, _, _, _, q, _⟩ := hf; exact q
  refine cf_getW hd hf ho C hP ?_
  rw [cf_fv0 hkd]
  exact kk g p l e s m args below meth c C H locs ls hP hS hL
theorem rp_getJ {M : cf_M} {pc pc' idx ci k o : Nat} {ty : FieldType} {fin : Bool} {lv : List (Nat × Value)} {st : List Value} {h : cf_H} {P : Option Value → cf_H → Prop} (hd : cf_D M pc (.getfield idx) 3 pc') (hf : cf_F (cf_own M) idx ci k 1 ty fin) (ho : cf_shl[o]? = some (.inl ci)) (kk : RP M pc' lv (.long (h.2.1 o k) :: st) h P) : RP M pc lv (.ref o :: st) h P := by
  intro g p l e s m args below meth c C H locs ls hP hS hL
  obtain ⟨hd, rfl⟩ := hd
  have hkd : cf_kd ci k = 1 := by obtain ⟨_, _, _, _, _, _, _, _, _, _, q, _⟩ := hf; exact q
  refine cf_getW hd hf ho C hP ?_
  rw [cf_fv1 hkd]
  exact kk g p l e s m args below meth c C H locs ls hP hS hL
theorem rp_getR {M : cf_M} {pc pc' idx ci k o : Nat} {ty : FieldType} {fin : Bool} {lv : List (Nat × Value)} {st : List Value} {h : cf_H} {P : Option Value → cf_H → Prop} {q : Nat} (hd : cf_D M pc (.getfield idx) 3 pc') (hf : cf_F (cf_own M) idx ci k 2 ty fin) (ho : cf_shl[o]? = some (.inl ci)) (hq : h.2.2.1 o k = some q) (kk : RP M pc' lv (.ref q :: st) h P) : RP M pc lv (.ref o :: st) h P := by
  intro g p l e s m args below meth c C H locs ls hP hS hL
  obtain ⟨hd, rfl⟩ := hd
  have hkd : cf_kd ci k = 2 := by obtain ⟨_, _, _, _, _, _, _, _, _, _, q, _⟩ := hf; exact q
  refine cf_getW hd hf ho C hP ?_
  rw [cf_fv2 hkd, hq]
  exact kk g p l e s m args below meth c C H locs ls hP hS hL
theorem rp_putI {M : cf_M} {pc pc' idx ci k o : Nat} {ty : FieldType} {lv : List (Nat × Value)} {st : List Value} {h : cf_H} {P : Option Value → cf_H → Prop} {x : Int32} (hd : cf_D M pc (.putfield idx) 3 pc') (hf : cf_F (cf_own M) idx ci k 0 ty false) (ho : cf_shl[o]? = some (.inl ci)) (hn : narrow ty (.int x) = .int x) (hfit : fits ty (.int x) = true) (kk : RP M pc' lv st (cf_pI h o k x) P) : RP M pc lv (.int x :: .ref o :: st) h P := by
  intro g p l e s m args below meth c C H locs ls hP hS hL
  obtain ⟨hd, rfl⟩ := hd
  refine cf_putW hd hf ho hn hfit C hP hS (h' := cf_pI h o k x) (fun hkd => by rw [cf_fv0 hkd]; exact congrArg _ (cf_u2_same _ _ _ _)) (fun j hj => by simp only [cf_fv, cf_pI]; rw [cf_u2_k _ _ hj]) (cf_oth (fun a ha b => by first | rfl | exact cf_u2_o _ _ ha) (fun a ha b => by first | rfl | exact cf_u2_o _ _ ha) (fun a ha b => by first | rfl | exact cf_u2_o _ _ ha) (fun a ha => rfl)) (fun H1 locs1 q1 q2 => kk g p l e s m args below meth c C H1 locs1 ls q1 q2 hL)
theorem rp_putJ {M : cf_M} {pc pc' idx ci k o : Nat} {ty : FieldType} {lv : List (Nat × Value)} {st : List Value} {h : cf_H} {P : Option Value → cf_H → Prop} {x : Int64} (hd : cf_D M pc (.putfield idx) 3 pc') (hf : cf_F (cf_own M) idx ci k 1 ty false) (ho : cf_shl[o]? = some (.inl ci)) (hn : narrow ty (.long x) = .long x) (hfit : fits ty (.long x) = true) (kk : RP M pc' lv st (cf_pJ h o k x) P) : RP M pc lv (.long x :: .ref o :: st) h P := by
  intro g p l e s m args below meth c C H locs ls hP hS hL
  obtain ⟨hd, rfl⟩ := hd
  refine cf_putW hd hf ho hn hfit C hP hS (h' := cf_pJ h o k x) (fun hkd => by rw [cf_fv1 hkd]; exact congrArg _ (cf_u2_same _ _ _ _)) (fun j hj => by simp only [cf_fv, cf_pJ]; rw [cf_u2_k _ _ hj]) (cf_oth (fun a ha b => by first | rfl | exact cf_u2_o _ _ ha) (fun a ha b => by first | rfl | exact cf_u2_o _ _ ha) (fun a ha b => by first | rfl | exact cf_u2_o _ _ ha) (fun a ha => rfl)) (fun H1 locs1 q1 q2 => kk g p l e s m args below meth c C H1 locs1 ls q1 q2 hL)
theorem rp_putR {M : cf_M} {pc pc' idx ci k o : Nat} {ty : FieldType} {lv : List (Nat × Value)} {st : List Value} {h : cf_H} {P : Option Value → cf_H → Prop} {x : Nat} (hd : cf_D M pc (.putfield idx) 3 pc') (hf : cf_F (cf_own M) idx ci k 2 ty false) (ho : cf_shl[o]? = some (.inl ci)) (hn : ∀ a, narrow ty (.ref a) = .ref a) (hfit : ∀ a, fits ty (.ref a) = true) (kk : RP M pc' lv st (cf_pR h o k (some x)) P) : RP M pc lv (.ref x :: .ref o :: st) h P := by
  intro g p l e s m args below meth c C H locs ls hP hS hL
  obtain ⟨hd, rfl⟩ := hd
  refine cf_putW hd hf ho (hn _) (hfit _) C hP hS (h' := cf_pR h o k (some x)) (fun hkd => by rw [cf_fv2 hkd]; show va_rf ((cf_u2 h.2.2.1 o k (some x) o k).map g.1) = _; rw [cf_u2_same]; rfl) (fun j hj => by simp only [cf_fv, cf_pR]; rw [cf_u2_k _ _ hj]) (cf_oth (fun a ha b => by first | rfl | exact cf_u2_o _ _ ha) (fun a ha b => by first | rfl | exact cf_u2_o _ _ ha) (fun a ha b => by first | rfl | exact cf_u2_o _ _ ha) (fun a ha => rfl)) (fun H1 locs1 q1 q2 => kk g p l e s m args below meth c C H1 locs1 ls q1 q2 hL)
theorem rp_iaload {M : cf_M} {pc pc' o n : Nat} {lv : List (Nat × Value)} {st : List Value} {h : cf_H} {P : Option Value → cf_H → Prop} {i : Int32} (hd : cf_D M pc .iaload 1 pc') (ho : cf_shl[o]? = some (.inr (0, n))) (hin : vp_in i n) (kk : RP M pc' lv (.int (h.2.2.2 o i.toNatClampNeg) :: st) h P) : RP M pc lv (.int i :: .ref o :: st) h P := by
  intro g p l e s m args below meth c C H locs ls hP hS hL
  obtain ⟨hd, rfl⟩ := hd
  obtain ⟨hx, hb, hml, hr, hown, hts, hlk, hK, hCK, hi⟩ := id C
  exact va_iald hx hb hK hP o 0 (cf_ws_at ho) rfl hin hd (kk g p l e s m args below meth c C H locs ls hP hS hL)
theorem rp_caload {M : cf_M} {pc pc' o n : Nat} {lv : List (Nat × Value)} {st : List Value} {h : cf_H} {P : Option Value → cf_H → Prop} {i : Int32} (hd : cf_D M pc .caload 1 pc') (ho : cf_shl[o]? = some (.inr (1, n))) (hin : vp_in i n) (kk : RP M pc' lv (.int (h.2.2.2 o i.toNatClampNeg) :: st) h P) : RP M pc lv (.int i :: .ref o :: st) h P := by
  intro g p l e s m args below meth c C H locs ls hP hS hL
  obtain ⟨hd, rfl⟩ := hd
  obtain ⟨hx, hb, hml, hr, hown, hts, hlk, hK, hCK, hi⟩ := id C
  exact va_cald hx hb hK hP o 1 (cf_ws_at ho) rfl hin hd (kk g p l e s m args below meth c C H locs ls hP hS hL)
theorem rp_aaload {M : cf_M} {pc pc' o n : Nat} {lv : List (Nat × Value)} {st : List Value} {h : cf_H} {P : Option Value → cf_H → Prop} {i : Int32} {q : Nat} (hd : cf_D M pc .aaload 1 pc') (ho : cf_shl[o]? = some (.inr (2, n))) (hin : vp_in i n) (hq : cf_RA i.toNatClampNeg = some q) (kk : RP M pc' lv (.ref q :: st) h P) : RP M pc lv (.int i :: .ref o :: st) h P := by
  intro g p l e s m args below meth c C H locs ls hP hS hL
  obtain ⟨hd, rfl⟩ := hd
  obtain ⟨hx, hb, hml, hr, hown, hts, hlk, hK, hCK, hi⟩ := id C
  refine va_aldq hx hb hK hP o 2 (cf_ws_at ho) rfl hin hd ?_
  show W _ _ _ _ _ _ _ _ _ _ _ _ _ _ _ (F0 _ _ _ (va_rf ((cf_RA i.toNatClampNeg).map g.1) :: _))
  rw [hq]
  exact kk g p l e s m args below meth c C H locs ls hP hS hL
theorem rp_iastore {M : cf_M} {pc pc' o n : Nat} {lv : List (Nat × Value)} {st : List Value} {h : cf_H} {P : Option Value → cf_H → Prop} {i : Int32} {x : Int32} (hd : cf_D M pc .iastore 1 pc') (ho : cf_shl[o]? = some (.inr (0, n))) (hin : vp_in i n) (kk : RP M pc' lv st (cf_pA h o i (x)) P) : RP M pc lv (.int x :: .int i :: .ref o :: st) h P := by
  intro g p l e s m args below meth c C H locs ls hP hS hL
  obtain ⟨hd, rfl⟩ := hd
  obtain ⟨hx, hb, hml, hr, hown, hts, hlk, hK, hCK, hi⟩ := id C
  refine va_iast hx hb hK hP (cf_wD h hi) hS o 0 (cf_ws_at ho) rfl hin hd (fun H1 locs1 q1 _ q3 => kk g p l e s m args below meth c C H1 locs1 ls ?_ q3 hL)
  rw [cf_ws_set (h := h) (h' := cf_pA h o i (x)) ho (by show (Sum.inl (g.2.2 0, n, Sum.inl (cf_u1 h.2.2.2 o _ o)) : va_E) = _; rw [cf_u1_same]) (cf_oth (fun a ha b => rfl) (fun a ha b => rfl) (fun a ha b => rfl) (fun a ha => cf_u1_o _ _ ha))] at q1
  exact q1
theorem rp_castore {M : cf_M} {pc pc' o n : Nat} {lv : List (Nat × Value)} {st : List Value} {h : cf_H} {P : Option Value → cf_H → Prop} {i : Int32} {x : Int32} (hd : cf_D M pc .castore 1 pc') (ho : cf_shl[o]? = some (.inr (1, n))) (hin : vp_in i n) (kk : RP M pc' lv st (cf_pA h o i (vp_nar .char x)) P) : RP M pc lv (.int x :: .int i :: .ref o :: st) h P := by
  intro g p l e s m args below meth c C H locs ls hP hS hL
  obtain ⟨hd, rfl⟩ := hd
  obtain ⟨hx, hb, hml, hr, hown, hts, hlk, hK, hCK, hi⟩ := id C
  refine va_cast hx hb hK hP (cf_wD h hi) hS o 1 (cf_ws_at ho) rfl hin hd (fun H1 locs1 q1 _ q3 => kk g p l e s m args below meth c C H1 locs1 ls ?_ q3 hL)
  rw [cf_ws_set (h := h) (h' := cf_pA h o i (vp_nar .char x)) ho (by show (Sum.inl (g.2.2 1, n, Sum.inl (cf_u1 h.2.2.2 o _ o)) : va_E) = _; rw [cf_u1_same]) (cf_oth (fun a ha b => rfl) (fun a ha b => rfl) (fun a ha b => rfl) (fun a ha => cf_u1_o _ _ ha))] at q1
  exact q1
theorem rp_alen {M : cf_M} {pc pc' o n : Nat} {lv : List (Nat × Value)} {st : List Value} {h : cf_H} {P : Option Value → cf_H → Prop} {t : Nat} {ty : FieldType} {v : Int32} (hd : cf_D M pc .arraylength 1 pc') (ho : cf_shl[o]? = some (.inr (t, n))) (ht : ∀ dA, (cf_tys dA)[t]? = some (dA t, ty)) (hv : Int32.ofNat n = v) (kk : RP M pc' lv (.int v :: st) h P) : RP M pc lv (.ref o :: st) h P := by
  intro g p l e s m args below meth c C H locs ls hP hS hL
  obtain ⟨hd, rfl⟩ := hd
  obtain ⟨hx, hb, hml, hr, hown, hts, hlk, hK, hCK, hi⟩ := id C
  exact va_alen hx hb hK hP o t (cf_ws_at ho) (ht _) hv hd (kk g p l e s m args below meth c C H locs ls hP hS hL)
theorem rp_ialoadK {M : cf_M} {pc pc' o n : Nat} {lv : List (Nat × Value)} {st : List Value} {h : cf_H} {P : Option Value → cf_H → Prop} {i : Int32} {f : Nat → Value} {v : Value} (hd : cf_D M pc .iaload 1 pc') (ho : cf_ka o = some (.int, n, f)) (hin : vp_in i n) (hv : f i.toNatClampNeg = v) (ht : ∀ ad, cf_tr ad v = v) (kk : RP M pc' lv (v :: st) h P) : RP M pc lv (.int i :: .ref o :: st) h P := by
  intro g p l e s m args below meth c C H locs ls hP hS hL
  obtain ⟨hd, rfl⟩ := hd
  obtain ⟨hx, hb, hml, hr, hown, hts, hlk, hK, hCK, hi⟩ := id C
  refine va_ti hx hb (hCK.2.1 o _ _ _ ho) hS hin (hv.trans (ht g.1).symm) hd (kk g p l e s m args below meth c C H locs ls hP hS hL)
theorem rp_laloadK {M : cf_M} {pc pc' o n : Nat} {lv : List (Nat × Value)} {st : List Value} {h : cf_H} {P : Option Value → cf_H → Prop} {i : Int32} {f : Nat → Value} {v : Value} (hd : cf_D M pc .laload 1 pc') (ho : cf_ka o = some (.long, n, f)) (hin : vp_in i n) (hv : f i.toNatClampNeg = v) (ht : ∀ ad, cf_tr ad v = v) (kk : RP M pc' lv (v :: st) h P) : RP M pc lv (.int i :: .ref o :: st) h P := by
  intro g p l e s m args below meth c C H locs ls hP hS hL
  obtain ⟨hd, rfl⟩ := hd
  obtain ⟨hx, hb, hml, hr, hown, hts, hlk, hK, hCK, hi⟩ := id C
  refine va_tl hx hb (hCK.2.1 o _ _ _ ho) hS hin (hv.trans (ht g.1).symm) hd (kk g p l e s m args below meth c C H locs ls hP hS hL)
theorem rp_baloadK {M : cf_M} {pc pc' o n : Nat} {lv : List (Nat × Value)} {st : List Value} {h : cf_H} {P : Option Value → cf_H → Prop} {i : Int32} {f : Nat → Value} {v : Value} (hd : cf_D M pc .baload 1 pc') (ho : cf_ka o = some (.byte, n, f)) (hin : vp_in i n) (hv : f i.toNatClampNeg = v) (ht : ∀ ad, cf_tr ad v = v) (kk : RP M pc' lv (v :: st) h P) : RP M pc lv (.int i :: .ref o :: st) h P := by
  intro g p l e s m args below meth c C H locs ls hP hS hL
  obtain ⟨hd, rfl⟩ := hd
  obtain ⟨hx, hb, hml, hr, hown, hts, hlk, hK, hCK, hi⟩ := id C
  refine va_tb hx hb (hCK.2.1 o _ _ _ ho) hS hin (hv.trans (ht g.1).symm) hd (kk g p l e s m args below meth c C H locs ls hP hS hL)
theorem rp_alenK {M : cf_M} {pc pc' o n : Nat} {lv : List (Nat × Value)} {st : List Value} {h : cf_H} {P : Option Value → cf_H → Prop} {f : Nat → Value} {ty : FieldType} {v : Int32} (hd : cf_D M pc .arraylength 1 pc') (ho : cf_ka o = some (ty, n, f)) (hv : Int32.ofNat n = v) (kk : RP M pc' lv (.int v :: st) h P) : RP M pc lv (.ref o :: st) h P := by
  intro g p l e s m args below meth c C H locs ls hP hS hL
  obtain ⟨hd, rfl⟩ := hd
  obtain ⟨hx, hb, hml, hr, hown, hts, hlk, hK, hCK, hi⟩ := id C
  exact va_tlen hx hb (hCK.2.1 o _ _ _ ho) hS hv hd (kk g p l e s m args below meth c C H locs ls hP hS hL)
theorem rp_gets {M : cf_M} {pc pc' idx : Nat} {lv : List (Nat × Value)} {st : List Value} {h : cf_H} {P : Option Value → cf_H → Prop} {C n d : String} {v : Value} (hd : cf_D M pc (.getstatic idx) 3 pc') (hq : (C, n, d, v) ∈ cf_sts) (hw : Cond.fieldLink (cf_own M) idx C n d ∈ cf_T) (kk : RP M pc' lv (v :: st) h P) : RP M pc lv st h P := by
  intro g p l e s m args below meth c C0 H locs ls hP hS hL
  obtain ⟨hd, rfl⟩ := hd
  obtain ⟨hx, hb, hml, hr, hown, hts, hlk, hK, hCK, hi⟩ := id C0
  exact va_gets hx hb (hCK.1 _ hq) hS hown (hts _ hw) (fun x h => h) hd (kk g p l e s m args below meth c C0 H locs ls hP hS hL)
theorem rp_getsN {M : cf_M} {pc pc' idx : Nat} {lv : List (Nat × Value)} {st : List Value} {h : cf_H} {P : Option Value → cf_H → Prop} {C n d host : String} {v : Value} (hd : cf_D M pc (.getstatic idx) 3 pc') (hq : (C, n, d, v) ∈ cf_sts) (hw : Cond.fieldLinkNest (cf_own M) idx C n d host ∈ lw_tbl) (kk : RP M pc' lv (v :: st) h P) : RP M pc lv st h P := by
  intro g p l e s m args below meth c C0 H locs ls hP hS hL
  obtain ⟨hd, rfl⟩ := hd
  obtain ⟨hx, hb, hml, hr, hown, hts, hlk, hK, hCK, hi⟩ := id C0
  exact va_getsN hx hb (hCK.1 _ hq) hS hown (va_Nw.use rfl (hCK.2.2.2.2.1 _ _ _ _ _ _ hw)) (fun x h => h) hd (kk g p l e s m args below meth c C0 H locs ls hP hS hL)
theorem rp_getsQ {M : cf_M} {pc pc' idx : Nat} {lv : List (Nat × Value)} {st : List Value} {h : cf_H} {P : Option Value → cf_H → Prop} (hd : cf_D M pc (.getstatic idx) 3 pc') (hw : Cond.fieldLink (cf_own M) idx "jdk/internal/util/Preconditions" "SIOOBE_FORMATTER" "Ljava/util/function/BiFunction;" ∈ cf_T) (k1 : RP M pc' lv (.null :: st) h P) (k2 : RP M pc' lv (.ref 199 :: st) h P) : RP M pc lv st h P := by
  intro g p l e s m args below meth c C H locs ls hP hS hL
  obtain ⟨hd, rfl⟩ := hd
  obtain ⟨hx, hb, hml, hr, hown, hts, hlk, hK, hCK, hi⟩ := id C
  rcases hCK.2.2.2.1 with hz | hz
  · exact va_gets hx hb hz hS hown (hts _ hw) (fun x h => h) hd (k1 g p l e s m args below meth c C H locs ls hP hS hL)
  · exact va_gets hx hb hz hS hown (hts _ hw) (fun x h => h) hd (k2 g p l e s m args below meth c C H locs ls hP hS hL)
theorem rp_ldcS {M : cf_M} {pc pc' idx : Nat} {lv : List (Nat × Value)} {st : List Value} {h : cf_H} {P : Option Value → cf_H → Prop} {i : Nat} {tx : String} (hd : cf_D M pc (.ldc idx) 2 pc') (hq : cf_strs[i]? = some (cf_own M, idx, tx)) (kk : RP M pc' lv (.ref (110 + i) :: st) h P) : RP M pc lv st h P := by
  intro g p l e s m args below meth c C H locs ls hP hS hL
  obtain ⟨hd, rfl⟩ := hd
  obtain ⟨hx, hb, hml, hr, hown, hts, hlk, hK, hCK, hi⟩ := id C
  exact va_ldcS hx hb hown (hCK.2.2.1 _ _ _ _ hq).1 hd (kk g p l e s m args below meth c C H locs ls hP hS hL)
theorem rp_getSv {M : cf_M} {pc pc' idx : Nat} {lv : List (Nat × Value)} {st : List Value} {h : cf_H} {P : Option Value → cf_H → Prop} {i : Nat} {q : String × Nat × String} (hd : cf_D M pc (.getfield idx) 3 pc') (hq : cf_strs[i]? = some q) (hw : Cond.fieldLink (cf_own M) idx "java/lang/String" "value" "[B" ∈ cf_T) (kk : RP M pc' lv (.ref (130 + i) :: st) h P) : RP M pc lv (.ref (110 + i) :: st) h P := by
  intro g p l e s m args below meth c C H locs ls hP hS hL
  obtain ⟨hd, rfl⟩ := hd
  obtain ⟨hx, hb, hml, hr, hown, hts, hlk, hK, hCK, hi⟩ := id C
  exact vk_getf hx hb (hCK.2.2.1 _ _ _ _ hq).2.2.2 hS hown (hts _ hw) (fun x h => h) hd (kk g p l e s m args below meth c C H locs ls hP hS hL)
theorem rp_getSc {M : cf_M} {pc pc' idx : Nat} {lv : List (Nat × Value)} {st : List Value} {h : cf_H} {P : Option Value → cf_H → Prop} {i : Nat} {q : String × Nat × String} (hd : cf_D M pc (.getfield idx) 3 pc') (hq : cf_strs[i]? = some q) (hw : Cond.fieldLink (cf_own M) idx "java/lang/String" "coder" "B" ∈ cf_T) (kk : RP M pc' lv (.int 0 :: st) h P) : RP M pc lv (.ref (110 + i) :: st) h P := by
  intro g p l e s m args below meth c C H locs ls hP hS hL
  obtain ⟨hd, rfl⟩ := hd
  obtain ⟨hx, hb, hml, hr, hown, hts, hlk, hK, hCK, hi⟩ := id C
  exact vk_getf hx hb (hCK.2.2.1 _ _ _ _ hq).2.2.1 hS hown (hts _ hw) (fun x h => h) hd (kk g p l e s m args below meth c C H locs ls hP hS hL)
