/-! CALLS -/
theorem cf_good {ws : List Cond} (h : ∀ w ∈ ws, w ∈ cf_T) : GoodIn cf_T ws := fun w hw => ⟨h w hw, good_of_word (List.mem_filter.mp (h w hw)).2⟩
theorem cf_E.at {g : cf_G} {s U : State} (hE : cf_E g s s.heap) (hq : ∀ a : Nat, a < s.heap.size → ¬ cf_A g.1 a → U.heap[a]? = s.heap[a]?) (hW : s.WarmedH U.vm) : cf_E g U U.heap := by
  obtain ⟨hK, ⟨h1, h2, h3, h4, h5, h6⟩, hi⟩ := hE
  have hvm := hW.alike
  refine ⟨va_K.moved hvm hK, ⟨fun q hm => va_Z.moved hvm ((h1 q hm).kept hq), fun k ty n f hk => va_T.moved hvm ((h2 k ty n f hk).kept hq), fun i own idx tx hi => ?_, ?_, fun a i b n d z hm => (h5 a i b n d z hm).warmF hW, fun a i x z hm => (h6 a i x z hm).warmM hW⟩, hi⟩
  · obtain ⟨a, b, c, d⟩ := h3 i own idx tx hi
    exact ⟨a.warm hW, va_O.moved hvm (b.kept hq), va_OF.moved hvm (c.kept hq), va_OF.moved hvm (d.kept hq)⟩
  · rcases h4 with h | h
    · exact Or.inl (va_Z.moved hvm (h.kept hq))
    · exact Or.inr (va_Z.moved hvm (h.kept hq))
theorem cf_E.same {g : cf_G} {U V : State} (hE : cf_E g U U.heap) (hv : V.vm = U.vm) (hh : V.heap = U.heap) : cf_E g V V.heap := by
  obtain ⟨hK, ⟨h1, h2, h3, h4, h5, h6⟩, hi⟩ := hE
  have hvm : U.vm.Alike V.vm := by rw [hv]; exact Vm.Alike.refl _
  rw [hh]
  refine ⟨va_K.moved hvm hK, ⟨fun q hm => va_Z.moved hvm (h1 q hm), fun k ty n f hk => va_T.moved hvm (h2 k ty n f hk), fun i own idx tx hi => ?_, ?_, fun a i b n d z hm => va_Nw.same rfl hv.symm (h5 a i b n d z hm), fun a i x z hm => va_Nw.same rfl hv.symm (h6 a i x z hm)⟩, hi⟩
  · obtain ⟨a, b, c, d⟩ := h3 i own idx tx hi
    exact ⟨vk_R.same hv a, va_O.moved hvm b, va_OF.moved hvm c, va_OF.moved hvm d⟩
  · rcases h4 with h | h
    · exact Or.inl (va_Z.moved hvm h)
    · exact Or.inr (va_Z.moved hvm h)
def cf_Pc (g : cf_G) (vs : List Value) (h : cf_H) : Array Value → State → Prop := fun a U => a = (vs.map (cf_tr g.1)).toArray ∧ va_P g.2.1 cf_cl (cf_ws g h) U.heap ∧ cf_E g U U.heap
theorem cf_blind (g : cf_G) (vs : List Value) (h : cf_H) : FrameBlind (cf_Pc g vs h) := fun a U gg mk q => ⟨q.1, q.2.1, cf_E.same q.2.2 rfl rfl⟩
def cf_c2 (v : Value) : Bool := match v with
  | .long _ => true
  | .double _ => true
  | _ => false
def cf_args : Nat → List Value → List (Nat × Value)
  | _, [] => []
  | i, v :: vs => (i, v) :: cf_args (bif cf_c2 v then i + 2 else i + 1) vs
theorem cf_args_mem (ad : Nat → Nat) : ∀ (vs : List Value) (i j : Nat) (v : Value), cf_lk (cf_args i vs) j = some v → (j, cf_tr ad v) ∈ lv_args i (vs.map (cf_tr ad)) := by
  intro vs
  induction vs with
  | nil => intro i j v h; cases h
  | cons w vs ih =>
    intro i j v h
    unfold cf_args cf_lk at h
    simp only [List.map_cons, lv_args]
    cases hb : Nat.beq i j with
    | true =>
      rw [hb] at h
      have : i = j := Nat.eq_of_beq_eq_true hb
      subst this
      cases h
      exact List.mem_cons_self
    | false =>
      rw [hb] at h
      refine List.mem_cons_of_mem _ ?_
      rw [cf_tr_cat]
      have := ih _ j v h
      cases w <;> exact this
theorem cf_slots (ad : Nat → Nat) : ∀ vs : List Value, (lg_sl (vs.map (cf_tr ad))).length = (vs.map Value.category).sum := by
  intro vs
  induction vs with
  | nil => rfl
  | cons v vs ih =>
    have e : lg_sl ((v :: vs).map (cf_tr ad)) = (if (cf_tr ad v).category = 2 then [.val (cf_tr ad v), .second] else [.val (cf_tr ad v)]) ++ lg_sl (vs.map (cf_tr ad)) := by
      simp [lg_sl]
    rw [e, List.length_append, ih, cf_tr_cat]
    simp only [List.map_cons, List.sum_cons]
    rcases lv_cat v with h | h <;> simp [h]
theorem cf_cats (ad : Nat → Nat) (vs : List Value) : ((vs.map (cf_tr ad)).map fun v => v.category).sum = (vs.map Value.category).sum := by
  rw [List.map_map]
  congr 1
  apply List.map_congr_left
  intro v _
  exact cf_tr_cat ad v
theorem cf_ofW {l : Launch} {y : MethodName} {ws ws' : List Cond} {rm : Room} {Pc : Array Value → State → Prop} {Qc : Array Value → State → Outcome → State → Prop} {mc ms : Nat} {free : Addr → Prop} {cc : ByteArray} {maxL : Nat} {ret : Option FieldType}
    (hy : plainFor y = true) (hw : ws = Cond.code y cc maxL ret :: ws')
    (body : ∀ p e s m args below meth c s₁, BodyLoose p l y (headSpec ws rm) cc maxL ret e s m args below meth c s₁ → c.maxLocals = maxL → Pc args s →
      W p l e (headSpec ws rm).room s m args below meth c s.heap [] 0 0 (MQ below Qc args s mc ms free) (entryFrame m args maxL)) : Met l y ws rm Pc Qc mc ms free := by
  refine MetFree.of_bodySF (code := cc) (maxLocals := maxL) (ret := ret) hy ?_ ?_
  · intro args s m h hn
    obtain ⟨meth, c, h1, h2, h3, h4, h5, h6, -, -⟩ := Cond.code_spec hn (atoms_spec (ws := ws) h _ (by rw [hw]; exact List.mem_cons_self))
    exact ⟨meth, c, h1, h2, h3, h4, h5, h6⟩
  · intro p e s m args below meth c s₁ B hml hP _
    have hh0 : s₁.heap = s.heap := by rw [B.state]; rfl
    obtain ⟨t, a1, o, b1, b2, b3⟩ := body p e s m args below meth c s₁ B hml hP s₁ hh0 (Stand.of_body B)
    exact ⟨t, o, a1, b1, b2, ⟨b3.1, b3.2⟩⟩
theorem cf_met {g : cf_G} {Y : cf_M} {vs : List Value} {h : cf_H} {P : Option Value → cf_H → Prop} (l : Launch) (hy : plainFor Y.1 = true) (hfit : (vs.map Value.category).sum ≤ cf_mL Y) (hR : RP Y 0 (cf_args 0 vs) [] h P) : Met l Y.1 (cf_wsM Y) (cf_rm Y) (cf_Pc g vs h) (cf_Qc g P) 0 0 (cf_A g.1) := by
  refine cf_ofW (cc := cf_code Y) (maxL := cf_mL Y) (ret := cf_ret Y) (ws' := cf_T) hy rfl ?_
  intro p e s m args below meth c s₁ B hml hv
  obtain ⟨rfl, hP, hE⟩ := hv
  have hts := atoms_spec (ws := cf_wsM Y) B.pre
  have hown : s.vm.findClass (cf_own Y) = some m.cls := findClass_of_methodNamed B.named
  have hl := lv_entry (vs.map (cf_tr g.1)) (n := cf_mL Y) (by rw [cf_slots]; exact hfit)
  rw [lg_entry_eq]
  exact hR g p l e s m _ below meth c ⟨B.exec, B.bytes, hml, B.returns, hown, fun w hw => hts w (List.mem_cons_of_mem _ hw), B.notSynchronized, hE⟩ s.heap [] _ hP va_S.rf ⟨_, hl, fun i v hi _ => cf_args_mem g.1 vs 0 i v hi⟩
def cf_Y (Y : cf_M) (n : Nat) : Prop := Cond.code Y.1 (cf_code Y) (cf_mL Y) (cf_ret Y) ∈ cf_T ∧ plainFor Y.1 = true ∧ (Y.1.cls ≠ "java/lang/invoke/MethodHandle" ∧ Y.1.cls ≠ "java/lang/invoke/VarHandle" ∧ (parseMethodDescriptor Y.1.desc).map (fun d => d.parameters.length) = some n) ∧ Cond.initialized Y.1.cls ∈ cf_T
def cf_cv (own : String) (idx : Nat) (Y : cf_M) : Prop := Cond.methodLink own idx Y.1 ∈ cf_T ∧ Cond.instanceMethod Y.1 ∈ cf_T ∧ Cond.selects Y.1.cls Y.1 Y.1 ∈ cf_T
def cf_cs (own : String) (idx : Nat) (Y : cf_M) : Prop := (Cond.methodLink own idx Y.1 ∈ cf_T ∨ ∃ host, Cond.methodLinkNest own idx Y.1 host ∈ lw_tbl) ∧ Cond.static Y.1 ∈ cf_T
def cf_rl (Y : cf_M) (R : Room) : Prop := (cf_rm Y).frames + 1 ≤ R.frames ∧ 8 + (cf_mL Y + 11) + (cf_rm Y).locals ≤ R.locals
def cf_rv (o : Nat) (C : String) : Prop := (∃ ci T N, cf_shl[o]? = some (.inl ci) ∧ cf_cl[ci]? = some (C, T, N)) ∨ (∃ i q, o = 110 + i ∧ cf_strs[i]? = some q ∧ C = "java/lang/String")
section CFR
variable {g : cf_G} {M Y : cf_M} {n pc idx o : Nat} {As rest : List Value} {h : cf_H} {P1 : Option Value → cf_H → Prop} {p : Program} {l : Launch} {e : Env} {R : Room} {s : State} {m : MethodId} {args : Array Value} {below : List Frame} {meth : Method} {c : Code} {H : Heap} {locs : List Loc} {cells slots : Nat} {Q : State → Prop} {ls : Array Slot}
theorem cf_callW {a : Array Value} {st0 rest' : List Value} {A0 : Nat → Prop} {H0 : Heap} (hr : va_Run p l e R s m args below meth c H locs cells slots 0 0 (F0 m pc ls st0) rest' (cf_Qc g P1 a) (cf_A g.1)) (hS : va_S A0 H0 H locs) (hA : ∀ q, cf_A g.1 q → A0 q)
    (kk : ∀ (r : Option Value) (h' : cf_H) (H1 : Heap) (locs1 : List Loc), P1 r h' → va_P g.2.1 cf_cl (cf_ws g h') H1 → va_S A0 H0 H1 locs1 → W p l e R s m args below meth c H1 locs1 cells slots Q (F0 m (pc + 3) ls ((r.map (cf_tr g.1)).toList ++ rest'))) : W p l e R s m args below meth c H locs cells slots Q (F0 m pc ls st0) := by
  intro T hT X
  obtain ⟨v, st₀, t, T', L, h0, X', hL, e1, e2, ⟨⟨r, h', hv, hp, hb⟩, hz, hk⟩, st⟩ := hr T hT X
  cases hv
  rw [h0] at hz hk
  obtain ⟨t2, a1, b1⟩ := kk r h' T'.heap (locs ++ L) hp (by rw [e1]; exact hb)
    ⟨Nat.le_trans hS.1 (by rw [e1]; exact hz), fun q h1 h2 => by rw [e1, hk q (Nat.lt_of_lt_of_le h1 hS.1) (fun z => h2 (hA q z))]; exact hS.2.1 q h1 h2, fun q hq => by
      rcases List.mem_append.mp hq with h | h
      · exact hS.2.2 q h
      · exact hA _ (hL q h)⟩ T' rfl X'
  exact ⟨t2, st t2 a1, b1⟩
theorem cf_runV (C0 : cf_C g M p s m args meth c) (hP : va_P g.2.1 cf_cl (cf_ws g h) H) (hq : ∀ a : Nat, a < s.heap.size → ¬ cf_A g.1 a → H[a]? = s.heap[a]?) (hY : cf_Y Y n) (hw : cf_cv (cf_own M) idx Y) (hR : cf_rl Y R) (hrv : cf_rv o Y.1.cls) (hlen : As.length = n) (hfit : ((Value.ref o :: As).map Value.category).sum ≤ cf_mL Y) (hst : (rest.map Value.category).sum ≤ 8) (hls : ls.size = cf_mL M)
    (hd : decode (cf_code M) pc = .ok (.invokevirtual idx, 3)) (hb : RP Y 0 (cf_args 0 (.ref o :: As)) [] h P1) (hc : cells ≤ R.cells ∧ slots ≤ R.slots) :
    va_Run p l e R s m args below meth c H locs cells slots 0 0 (F0 m pc ls ((As.map (cf_tr g.1)).reverse ++ .ref (g.1 o) :: rest.map (cf_tr g.1))) (rest.map (cf_tr g.1)) (cf_Qc g P1 (Value.ref (g.1 o) :: As.map (cf_tr g.1)).toArray) (cf_A g.1) := by
  obtain ⟨hx, hbc, hml, hr, hown, hts, hlk, hE⟩ := C0
  obtain ⟨hco, hpl, hnm, hini⟩ := hY
  obtain ⟨hl, hin, hsel⟩ := hw
  have hgood : GoodIn cf_T (wsV (cf_own M) idx Y.1.cls Y.1 (cf_wsM Y)) := cf_good (fun w hw => by
    unfold wsV at hw
    rcases List.mem_append.mp hw with hw | hw
    · simp only [List.mem_cons, List.not_mem_nil, or_false] at hw
      rcases hw with rfl | rfl | rfl | rfl
      · exact hl
      · exact hin
      · exact hsel
      · exact hini
    · rcases List.mem_cons.mp hw with rfl | hw
      · exact hco
      · exact hw)
  refine va_runV (cc := cf_code M) (nL := cf_mL M) (C := Y.1.cls) (As := As.map (cf_tr g.1)) (n := n) ⟨hx, hbc, hml, hown, hts⟩ (cf_met (g := g) (vs := .ref o :: As) l hpl hfit hb) (cwV n hts hgood rfl rfl rfl ⟨rfl, hnm⟩ hR) ⟨cf_blind _ _ _, ?_, fun U hU hW => ⟨rfl, by rw [hU]; exact hP, hE.at (by rw [hU]; exact hq) hW⟩⟩ rfl (by simpa using hlen) hls rfl (lv_room (by rw [cf_cats]; exact hst)) hd hc
  rcases hrv with ⟨ci, T, N, h1, h2⟩ | ⟨i, q, h1, h2, h3⟩
  · exact va_recv hE.1 hP h2 (cf_ws_at h1)
  · subst h1
    rw [h3]
    obtain ⟨_, hO, _⟩ := hE.2.1.2.2.1 i _ _ _ h2
    obtain ⟨cell, q1, q2, q3, q4⟩ := hO
    exact ⟨cell, by rw [hq _ (Array.getElem?_eq_some_iff.mp q1).1 q4]; exact q1, q2, q3⟩
theorem cf_runS (C0 : cf_C g M p s m args meth c) (hP : va_P g.2.1 cf_cl (cf_ws g h) H) (hq : ∀ a : Nat, a < s.heap.size → ¬ cf_A g.1 a → H[a]? = s.heap[a]?) (hY : cf_Y Y n) (hw : cf_cs (cf_own M) idx Y) (hR : cf_rl Y R) (hlen : As.length = n) (hfit : (As.map Value.category).sum ≤ cf_mL Y) (hst : (rest.map Value.category).sum ≤ 8) (hls : ls.size = cf_mL M)
    (hd : decode (cf_code M) pc = .ok (.invokestatic idx, 3)) (hb : RP Y 0 (cf_args 0 As) [] h P1) (hc : cells ≤ R.cells ∧ slots ≤ R.slots) :
    va_Run p l e R s m args below meth c H locs cells slots 0 0 (F0 m pc ls ((As.map (cf_tr g.1)).reverse ++ rest.map (cf_tr g.1))) (rest.map (cf_tr g.1)) (cf_Qc g P1 (As.map (cf_tr g.1)).toArray) (cf_A g.1) := by
  obtain ⟨hx, hbc, hml, hr, hown, hts, hlk, hE⟩ := C0
  obtain ⟨hco, hpl, hnm, hini⟩ := hY
  obtain ⟨hl, hstt⟩ := hw
  have hg0 : GoodIn cf_T (cf_wsM Y) := cf_good (fun w hw => by
    rcases List.mem_cons.mp hw with rfl | hw
    · exact hco
    · exact hw)
  have hp : PreS s H (cf_Pc g As h) (As.map (cf_tr g.1)) := ⟨cf_blind _ _ _, fun U hU hW => ⟨rfl, by rw [hU]; exact hP, hE.at (by rw [hU]; exact hq) hW⟩⟩
  rcases hl with hl | ⟨host, hl⟩
  · have hgood : GoodIn cf_T (va_wsS (cf_own M) idx Y.1 (cf_wsM Y)) := cf_good (fun w hw => by
      unfold va_wsS at hw
      rcases List.mem_append.mp hw with hw | hw
      · simp only [List.mem_cons, List.not_mem_nil, or_false] at hw
        rcases hw with rfl | rfl | rfl
        · exact hl
        · exact hstt
        · exact hini
      · exact (hg0 w hw).1)
    exact va_runS (cc := cf_code M) (nL := cf_mL M) (As := As.map (cf_tr g.1)) (n := n) ⟨hx, hbc, hml, hown, hts⟩ (cf_met (g := g) (vs := As) l hpl hfit hb) (va_cwS n hts hgood rfl rfl rfl hnm hR) hp rfl (by simpa using hlen) hls rfl (lv_room (by rw [cf_cats]; exact hst)) hd hc
  · exact va_runSN (cc := cf_code M) (nL := cf_mL M) (As := As.map (cf_tr g.1)) (n := n) ⟨hx, hbc, hml, hown, hts⟩ (cf_met (g := g) (vs := As) l hpl hfit hb) ⟨va_cnB n hts hg0 rfl rfl rfl (hE.2.1.2.2.2.2.2 _ _ _ _ hl) (hts _ hini) hnm hR, hts _ hstt, trivial⟩ hp rfl (by simpa using hlen) hls rfl (lv_room (by rw [cf_cats]; exact hst)) hd hc
end CFR
def cf_push (r : Option Value) (st : List Value) : List Value := match r with
  | some v => v :: st
  | none => st
theorem cf_push_tr (ad : Nat → Nat) (r : Option Value) (st : List Value) : (r.map (cf_tr ad)).toList ++ st.map (cf_tr ad) = (cf_push r st).map (cf_tr ad) := by cases r <;> rfl
def cf_qv (M : cf_M) (idx : Nat) (Y : cf_M) (n : Nat) : Prop := cf_cv (cf_own M) idx Y ∧ cf_Y Y n ∧ cf_rl Y (cf_rm M)
def cf_qs (M : cf_M) (idx : Nat) (Y : cf_M) (n : Nat) : Prop := cf_cs (cf_own M) idx Y ∧ cf_Y Y n ∧ cf_rl Y (cf_rm M)
theorem rp_callV {M Y : cf_M} {pc pc' idx o n : Nat} {lv : List (Nat × Value)} {st As : List Value} {h : cf_H} {P : Option Value → cf_H → Prop} (hd : cf_D M pc (.invokevirtual idx) 3 pc') (hw : cf_qv M idx Y n) (hrv : cf_rv o Y.1.cls) (hlen : As.length = n) (hfit : ((Value.ref o :: As).map Value.category).sum ≤ cf_mL Y) (hst : (st.map Value.category).sum ≤ 8)
    (k : RP Y 0 (cf_args 0 (.ref o :: As)) [] h (fun r h' => RP M pc' lv (cf_push r st) h' P)) : RP M pc lv (As.reverse ++ .ref o :: st) h P := by
  intro g p l e s m args below meth c C H locs ls hP hS hL
  obtain ⟨hd, rfl⟩ := hd
  obtain ⟨hw, hY, hR⟩ := hw
  have hls : ls.size = cf_mL M := by obtain ⟨_, h1, _⟩ := hL; exact h1.1
  have hr := cf_runV (l := l) (e := e) (below := below) (locs := locs) (cells := 0) (slots := 0) (R := cf_rm M) C hP hS.2.1 hY hw hR hrv hlen hfit hst hls hd k ⟨Nat.zero_le _, Nat.zero_le _⟩
  have e1 : (As.reverse ++ .ref o :: st).map (cf_tr g.1) = (As.map (cf_tr g.1)).reverse ++ .ref (g.1 o) :: st.map (cf_tr g.1) := by simp [cf_tr]
  rw [e1]
  refine cf_callW hr hS (fun _ z => z) (fun r h' H1 locs1 q1 q2 q3 => ?_)
  rw [cf_push_tr]
  exact q1 g p l e s m args below meth c C H1 locs1 ls q2 q3 hL
theorem rp_callS {M Y : cf_M} {pc pc' idx n : Nat} {lv : List (Nat × Value)} {st As : List Value} {h : cf_H} {P : Option Value → cf_H → Prop} (hd : cf_D M pc (.invokestatic idx) 3 pc') (hw : cf_qs M idx Y n) (hlen : As.length = n) (hfit : (As.map Value.category).sum ≤ cf_mL Y) (hst : (st.map Value.category).sum ≤ 8)
    (k : RP Y 0 (cf_args 0 As) [] h (fun r h' => RP M pc' lv (cf_push r st) h' P)) : RP M pc lv (As.reverse ++ st) h P := by
  intro g p l e s m args below meth c C H locs ls hP hS hL
  obtain ⟨hd, rfl⟩ := hd
  obtain ⟨hw, hY, hR⟩ := hw
  have hls : ls.size = cf_mL M := by obtain ⟨_, h1, _⟩ := hL; exact h1.1
  have hr := cf_runS (l := l) (e := e) (below := below) (locs := locs) (cells := 0) (slots := 0) (R := cf_rm M) C hP hS.2.1 hY hw hR hlen hfit hst hls hd k ⟨Nat.zero_le _, Nat.zero_le _⟩
  have e1 : (As.reverse ++ st).map (cf_tr g.1) = (As.map (cf_tr g.1)).reverse ++ st.map (cf_tr g.1) := by simp
  rw [e1]
  refine cf_callW hr hS (fun _ z => z) (fun r h' H1 locs1 q1 q2 q3 => ?_)
  rw [cf_push_tr]
  exact q1 g p l e s m args below meth c C H1 locs1 ls q2 q3 hL

theorem rp_callV0 {M Y : cf_M} {pc pc' idx o : Nat} {lv : List (Nat × Value)} {st : List Value} {h : cf_H} {P : Option Value → cf_H → Prop} (hd : cf_D M pc (.invokevirtual idx) 3 pc') (hw : cf_qv M idx Y 0) (hrv : cf_rv o Y.1.cls) (hfit : (([.ref o] : List Value).map Value.category).sum ≤ cf_mL Y) (hst : (st.map Value.category).sum ≤ 8) (k : RP Y 0 (cf_args 0 [.ref o]) [] h (fun r h' => RP M pc' lv (cf_push r st) h' P)) : RP M pc lv (.ref o :: st) h P := rp_callV (As := []) hd hw hrv rfl hfit hst k
theorem rp_callV1 {M Y : cf_M} {pc pc' idx o : Nat} {lv : List (Nat × Value)} {st : List Value} {a1 : Value} {h : cf_H} {P : Option Value → cf_H → Prop} (hd : cf_D M pc (.invokevirtual idx) 3 pc') (hw : cf_qv M idx Y 1) (hrv : cf_rv o Y.1.cls) (hfit : (([.ref o, a1] : List Value).map Value.category).sum ≤ cf_mL Y) (hst : (st.map Value.category).sum ≤ 8) (k : RP Y 0 (cf_args 0 [.ref o, a1]) [] h (fun r h' => RP M pc' lv (cf_push r st) h' P)) : RP M pc lv (a1 :: .ref o :: st) h P := rp_callV (As := [a1]) hd hw hrv rfl hfit hst k
theorem rp_callS1 {M Y : cf_M} {pc pc' idx : Nat} {lv : List (Nat × Value)} {st : List Value} {a1 : Value} {h : cf_H} {P : Option Value → cf_H → Prop} (hd : cf_D M pc (.invokestatic idx) 3 pc') (hw : cf_qs M idx Y 1) (hfit : (([a1] : List Value).map Value.category).sum ≤ cf_mL Y) (hst : (st.map Value.category).sum ≤ 8) (k : RP Y 0 (cf_args 0 [a1]) [] h (fun r h' => RP M pc' lv (cf_push r st) h' P)) : RP M pc lv (a1 :: st) h P := rp_callS (As := [a1]) hd hw rfl hfit hst k
theorem rp_callV2 {M Y : cf_M} {pc pc' idx o : Nat} {lv : List (Nat × Value)} {st : List Value} {a1 a2 : Value} {h : cf_H} {P : Option Value → cf_H → Prop} (hd : cf_D M pc (.invokevirtual idx) 3 pc') (hw : cf_qv M idx Y 2) (hrv : cf_rv o Y.1.cls) (hfit : (([.ref o, a1, a2] : List Value).map Value.category).sum ≤ cf_mL Y) (hst : (st.map Value.category).sum ≤ 8) (k : RP Y 0 (cf_args 0 [.ref o, a1, a2]) [] h (fun r h' => RP M pc' lv (cf_push r st) h' P)) : RP M pc lv (a2 :: a1 :: .ref o :: st) h P := rp_callV (As := [a1, a2]) hd hw hrv rfl hfit hst k
theorem rp_callS2 {M Y : cf_M} {pc pc' idx : Nat} {lv : List (Nat × Value)} {st : List Value} {a1 a2 : Value} {h : cf_H} {P : Option Value → cf_H → Prop} (hd : cf_D M pc (.invokestatic idx) 3 pc') (hw : cf_qs M idx Y 2) (hfit : (([a1, a2] : List Value).map Value.category).sum ≤ cf_mL Y) (hst : (st.map Value.category).sum ≤ 8) (k : RP Y 0 (cf_args 0 [a1, a2]) [] h (fun r h' => RP M pc' lv (cf_push r st) h' P)) : RP M pc lv (a2 :: a1 :: st) h P := rp_callS (As := [a1, a2]) hd hw rfl hfit hst k
theorem rp_callV3 {M Y : cf_M} {pc pc' idx o : Nat} {lv : List (Nat × Value)} {st : List Value} {a1 a2 a3 : Value} {h : cf_H} {P : Option Value → cf_H → Prop} (hd : cf_D M pc (.invokevirtual idx) 3 pc') (hw : cf_qv M idx Y 3) (hrv : cf_rv o Y.1.cls) (hfit : (([.ref o, a1, a2, a3] : List Value).map Value.category).sum ≤ cf_mL Y) (hst : (st.map Value.category).sum ≤ 8) (k : RP Y 0 (cf_args 0 [.ref o, a1, a2, a3]) [] h (fun r h' => RP M pc' lv (cf_push r st) h' P)) : RP M pc lv (a3 :: a2 :: a1 :: .ref o :: st) h P := rp_callV (As := [a1, a2, a3]) hd hw hrv rfl hfit hst k
theorem rp_callS3 {M Y : cf_M} {pc pc' idx : Nat} {lv : List (Nat × Value)} {st : List Value} {a1 a2 a3 : Value} {h : cf_H} {P : Option Value → cf_H → Prop} (hd : cf_D M pc (.invokestatic idx) 3 pc') (hw : cf_qs M idx Y 3) (hfit : (([a1, a2, a3] : List Value).map Value.category).sum ≤ cf_mL Y) (hst : (st.map Value.category).sum ≤ 8) (k : RP Y 0 (cf_args 0 [a1, a2, a3]) [] h (fun r h' => RP M pc' lv (cf_push r st) h' P)) : RP M pc lv (a3 :: a2 :: a1 :: st) h P := rp_callS (As := [a1, a2, a3]) hd hw rfl hfit hst k
theorem rp_callV4 {M Y : cf_M} {pc pc' idx o : Nat} {lv : List (Nat × Value)} {st : List Value} {a1 a2 a3 a4 : Value} {h : cf_H} {P : Option Value → cf_H → Prop} (hd : cf_D M pc (.invokevirtual idx) 3 pc') (hw : cf_qv M idx Y 4) (hrv : cf_rv o Y.1.cls) (hfit : (([.ref o, a1, a2, a3, a4] : List Value).map Value.category).sum ≤ cf_mL Y) (hst : (st.map Value.category).sum ≤ 8) (k : RP Y 0 (cf_args 0 [.ref o, a1, a2, a3, a4]) [] h (fun r h' => RP M pc' lv (cf_push r st) h' P)) : RP M pc lv (a4 :: a3 :: a2 :: a1 :: .ref o :: st) h P := rp_callV (As := [a1, a2, a3, a4]) hd hw hrv rfl hfit hst k
theorem rp_callS4 {M Y : cf_M} {pc pc' idx : Nat} {lv : List (Nat × Value)} {st : List Value} {a1 a2 a3 a4 : Value} {h : cf_H} {P : Option Value → cf_H → Prop} (hd : cf_D M pc (.invokestatic idx) 3 pc') (hw : cf_qs M idx Y 4) (hfit : (([a1, a2, a3, a4] : List Value).map Value.category).sum ≤ cf_mL Y) (hst : (st.map Value.category).sum ≤ 8) (k : RP Y 0 (cf_args 0 [a1, a2, a3, a4]) [] h (fun r h' => RP M pc' lv (cf_push r st) h' P)) : RP M pc lv (a4 :: a3 :: a2 :: a1 :: st) h P := rp_callS (As := [a1, a2, a3, a4]) hd hw rfl hfit hst k
theorem rp_callV5 {M Y : cf_M} {pc pc' idx o : Nat} {lv : List (Nat × Value)} {st : List Value} {a1 a2 a3 a4 a5 : Value} {h : cf_H} {P : Option Value → cf_H → Prop} (hd : cf_D M pc (.invokevirtual idx) 3 pc') (hw : cf_qv M idx Y 5) (hrv : cf_rv o Y.1.cls) (hfit : (([.ref o, a1, a2, a3, a4, a5] : List Value).map Value.category).sum ≤ cf_mL Y) (hst : (st.map Value.category).sum ≤ 8) (k : RP Y 0 (cf_args 0 [.ref o, a1, a2, a3, a4, a5]) [] h (fun r h' => RP M pc' lv (cf_push r st) h' P)) : RP M pc lv (a5 :: a4 :: a3 :: a2 :: a1 :: .ref o :: st) h P := rp_callV (As := [a1, a2, a3, a4, a5]) hd hw hrv rfl hfit hst k
theorem rp_callS5 {M Y : cf_M} {pc pc' idx : Nat} {lv : List (Nat × Value)} {st : List Value} {a1 a2 a3 a4 a5 : Value} {h : cf_H} {P : Option Value → cf_H → Prop} (hd : cf_D M pc (.invokestatic idx) 3 pc') (hw : cf_qs M idx Y 5) (hfit : (([a1, a2, a3, a4, a5] : List Value).map Value.category).sum ≤ cf_mL Y) (hst : (st.map Value.category).sum ≤ 8) (k : RP Y 0 (cf_args 0 [a1, a2, a3, a4, a5]) [] h (fun r h' => RP M pc' lv (cf_push r st) h' P)) : RP M pc lv (a5 :: a4 :: a3 :: a2 :: a1 :: st) h P := rp_callS (As := [a1, a2, a3, a4, a5]) hd hw rfl hfit hst k
