/-! CONSTRUCTORS: what stands in the heap behind each -/
theorem di_tok_0 : decode prog_9_method_1_code 0 = .ok (.aload_n 0, 1) := by decide +kernel
theorem di_tok_1 : decode prog_9_method_1_code 1 = .ok (.invokespecial 3, 3) := by decide +kernel
theorem di_tok_4 : decode prog_9_method_1_code 4 = .ok (.aload_n 0, 1) := by decide +kernel
theorem di_tok_5 : decode prog_9_method_1_code 5 = .ok (.bipush 40, 2) := by decide +kernel
theorem di_tok_7 : decode prog_9_method_1_code 7 = .ok (.newarray .int, 2) := by decide +kernel
theorem di_tok_9 : decode prog_9_method_1_code 9 = .ok (.putfield 9, 3) := by decide +kernel
theorem di_tok_12 : decode prog_9_method_1_code 12 = .ok (.aload_n 0, 1) := by decide +kernel
theorem di_tok_13 : decode prog_9_method_1_code 13 = .ok (.bipush 40, 2) := by decide +kernel
theorem di_tok_15 : decode prog_9_method_1_code 15 = .ok (.newarray .int, 2) := by decide +kernel
theorem di_tok_17 : decode prog_9_method_1_code 17 = .ok (.putfield 15, 3) := by decide +kernel
theorem di_tok_20 : decode prog_9_method_1_code 20 = .ok (.aload_n 0, 1) := by decide +kernel
theorem di_tok_21 : decode prog_9_method_1_code 21 = .ok (.bipush 40, 2) := by decide +kernel
theorem di_tok_23 : decode prog_9_method_1_code 23 = .ok (.newarray .int, 2) := by decide +kernel
theorem di_tok_25 : decode prog_9_method_1_code 25 = .ok (.putfield 18, 3) := by decide +kernel
theorem di_tok_28 : decode prog_9_method_1_code 28 = .ok (.aload_n 0, 1) := by decide +kernel
theorem di_tok_29 : decode prog_9_method_1_code 29 = .ok (.iconst 0, 1) := by decide +kernel
theorem di_tok_30 : decode prog_9_method_1_code 30 = .ok (.putfield 21, 3) := by decide +kernel
theorem di_tok_33 : decode prog_9_method_1_code 33 = .ok (.return_, 1) := by decide +kernel
def yi_tok : MethodName := ⟨"CellFormatter$Tokens", "<init>", "()V"⟩
set_option maxHeartbeats 4000000 in
set_option maxRecDepth 100000 in
theorem ci_tok (l : Launch) (D : va_G) (d0 d1 : ClassId) (h0 : Nat) (sz : Nat) : Met l yi_tok (.code yi_tok prog_9_method_1_code 1 none :: cf_T) ({ frames := 1, cells := 3, slots := 120, locals := 12 }) (va_Pc [.ref h0] (fun U => U.heap.size = sz ∧ va_P D cf_cl [(h0, .inr (7, [.null, .null, .null, .int 0]))] U.heap ∧ va_K D cf_cl [(d0, .int), (d1, .char)] U ∧ va_D (fun _ => True) [(h0, .inr (7, [.null, .null, .null, .int 0]))])) (va_Qv (fun _ : Unit => True) (fun _ t => ∃ q7_1 q15_2 q23_3 : Nat, va_P D cf_cl [(h0, .inr (7, [.ref q7_1, .ref q15_2, .ref q23_3, .int 0])), (q7_1, .inl (d0, 40, .inl (fun _ => 0))), (q15_2, .inl (d0, 40, .inl (fun _ => 0))), (q23_3, .inl (d0, 40, .inl (fun _ => 0)))] t.heap ∧ va_K D cf_cl [(d0, .int), (d1, .char)] t ∧ va_D (va_A [(h0, .inr (7, [.null, .null, .null, .int 0]))] sz) [(h0, .inr (7, [.ref q7_1, .ref q15_2, .ref q23_3, .int 0])), (q7_1, .inl (d0, 40, .inl (fun _ => 0))), (q15_2, .inl (d0, 40, .inl (fun _ => 0))), (q23_3, .inl (d0, 40, .inl (fun _ => 0)))]) (va_A [(h0, .inr (7, [.null, .null, .null, .int 0]))] sz)) 3 120 (va_A [(h0, .inr (7, [.null, .null, .null, .int 0]))] sz) := by
  refine cf_ofW (cc := prog_9_method_1_code) (maxL := 1) (ret := none) (ws' := cf_T) (by decide) rfl ?_
  intro p e s m args below meth c s₁ B hml hv
  rw [show (headSpec (.code yi_tok prog_9_method_1_code 1 none :: cf_T) ({ frames := 1, cells := 3, slots := 120, locals := 12 } : Room)).room = ({ frames := 1, cells := 3, slots := 120, locals := 12 } : Room) from rfl]
  obtain ⟨rfl, hsz, hP, hK, hD0⟩ := hv
  have hx := B.exec
  have hb := B.bytes
  have hr := B.returns
  have hts := atoms_spec (ws := .code yi_tok prog_9_method_1_code 1 none :: cf_T) B.pre
  have hT : ∀ w ∈ cf_T, w.before _ s = true := fun w hw => hts w (List.mem_cons_of_mem _ hw)
  have hown : s.vm.findClass "CellFormatter$Tokens" = some m.cls := findClass_of_methodNamed B.named
  have hlocks := B.notSynchronized
  have hin : meth.name = "<init>" := (name_of_methodNamed B.named B.method).1
  subst hsz
  have hD := hD0.self (sz := s.heap.size)
  generalize hAe : va_A [(h0, .inr (7, [.null, .null, .null, .int 0]))] s.heap.size = A at hD ⊢
  have hA : ∀ q : Nat, s.heap.size ≤ q → A q := fun q h => by rw [← hAe]; exact Or.inr h
  have hS : va_S A s.heap s.heap [] := va_S.rf
  have hl := lv_entry ([.ref h0]) (n := 1) (Nat.le_of_ble_eq_true rfl)
  rw [lg_entry_eq]
  generalize (lg_sl ([.ref h0]) ++ List.replicate (1 - (lg_sl ([.ref h0])).length) Slot.unset).toArray = ls at hl ⊢
  have hl : lv_has ls 1 [(0, .ref h0)] := hl
  have hP : va_P D cf_cl [(h0, .inr (7, [.null, .null, .null, .int 0]))] s.heap := hP
  refine lv_aload_n hx hb di_tok_0 rfl (lv_at hl 0 rfl) ?_
  refine W.objInit hx hb hown (hT _ (cf_in 115 (by decide +kernel) (by decide +kernel))) (hT _ (cf_in 108 (by decide +kernel) (by decide +kernel))) (hT _ (cf_in 109 (by decide +kernel) (by decide +kernel))) rfl (by rw [hml]; exact hl.1) rfl di_tok_1 (Nat.le_of_ble_eq_true rfl) (Nat.le_of_ble_eq_true rfl) ?_
  refine W.eq (g2 := F0 m 4 ls []) rfl ?_
  refine lv_aload_n hx hb di_tok_4 rfl (lv_at hl 0 rfl) ?_
  refine lv_bipush (v := 40) hx hb di_tok_5 (by decide) ?_
  refine va_newa (ty := .int) (a0 := (40, .inl (fun _ => 0))) hx hb (hT _ (cf_in 131 (by decide +kernel) (by decide +kernel))) rfl hK hP hD hS hA (fun _ => rfl) (by decide) rfl (by decide) (Nat.le_of_ble_eq_true rfl) (Nat.le_of_ble_eq_true rfl) di_tok_7 (fun q7_1 cA H hK2 hP hD hS => ?_)
  have eA : cA = d0 := by
    have e1 : s.vm.findClass ("[" ++ FieldType.int.toString) = some cA := (hK2.2 2 _ rfl).2
    have e2 : s.vm.findClass ("[" ++ FieldType.int.toString) = some d0 := (hK.2 0 _ rfl).2
    exact Option.some.inj (e1.symm.trans e2)
  rw [eA] at hP hD
  have hP : va_P D cf_cl [(h0, .inr (7, [.null, .null, .null, .int 0])), (q7_1, .inl (d0, 40, .inl (fun _ => 0)))] H := hP
  have hD : va_D A [(h0, .inr (7, [.null, .null, .null, .int 0])), (q7_1, .inl (d0, 40, .inl (fun _ => 0)))] := hD
  refine W.widen (k := 1) (n := 40) (by omega) (by omega) ?_
  refine va_putF (D := D) (ci := 7) (v := .ref q7_1) (ty := .array .int) (C := RX7) (T := TX7) (N := 4) hx hb hT inX7 tyX7 tyX7_ok nmX7 hown hK hP hD hS 0 rfl rfl 0 (by decide) (hT _ (cf_in 116 (by decide +kernel) (by decide +kernel))) (fun _ h9 => h9) rfl hin rfl (by decide +kernel) rfl rfl (Nat.le_of_ble_eq_true rfl) di_tok_9 (fun H locs hP hD hS => ?_)
  have hP : va_P D cf_cl [(h0, .inr (7, [.ref q7_1, .null, .null, .int 0])), (q7_1, .inl (d0, 40, .inl (fun _ => 0)))] H := hP
  have hD : va_D A [(h0, .inr (7, [.ref q7_1, .null, .null, .int 0])), (q7_1, .inl (d0, 40, .inl (fun _ => 0)))] := hD
  refine lv_aload_n hx hb di_tok_12 rfl (lv_at hl 0 rfl) ?_
  refine lv_bipush (v := 40) hx hb di_tok_13 (by decide) ?_
  refine va_newa (ty := .int) (a0 := (40, .inl (fun _ => 0))) hx hb (hT _ (cf_in 131 (by decide +kernel) (by decide +kernel))) rfl hK hP hD hS hA (fun _ => rfl) (by decide) rfl (by decide) (Nat.le_of_ble_eq_true rfl) (Nat.le_of_ble_eq_true rfl) di_tok_15 (fun q15_2 cA H hK2 hP hD hS => ?_)
  have eA : cA = d0 := by
    have e1 : s.vm.findClass ("[" ++ FieldType.int.toString) = some cA := (hK2.2 2 _ rfl).2
    have e2 : s.vm.findClass ("[" ++ FieldType.int.toString) = some d0 := (hK.2 0 _ rfl).2
    exact Option.some.inj (e1.symm.trans e2)
  rw [eA] at hP hD
  have hP : va_P D cf_cl [(h0, .inr (7, [.ref q7_1, .null, .null, .int 0])), (q7_1, .inl (d0, 40, .inl (fun _ => 0))), (q15_2, .inl (d0, 40, .inl (fun _ => 0)))] H := hP
  have hD : va_D A [(h0, .inr (7, [.ref q7_1, .null, .null, .int 0])), (q7_1, .inl (d0, 40, .inl (fun _ => 0))), (q15_2, .inl (d0, 40, .inl (fun _ => 0)))] := hD
  refine W.widen (k := 2) (n := 80) (by omega) (by omega) ?_
  refine va_putF (D := D) (ci := 7) (v := .ref q15_2) (ty := .array .int) (C := RX7) (T := TX7) (N := 4) hx hb hT inX7 tyX7 tyX7_ok nmX7 hown hK hP hD hS 0 rfl rfl 1 (by decide) (hT _ (cf_in 117 (by decide +kernel) (by decide +kernel))) (fun _ h9 => h9) rfl hin rfl (by decide +kernel) rfl rfl (Nat.le_of_ble_eq_true rfl) di_tok_17 (fun H locs hP hD hS => ?_)
  have hP : va_P D cf_cl [(h0, .inr (7, [.ref q7_1, .ref q15_2, .null, .int 0])), (q7_1, .inl (d0, 40, .inl (fun _ => 0))), (q15_2, .inl (d0, 40, .inl (fun _ => 0)))] H := hP
  have hD : va_D A [(h0, .inr (7, [.ref q7_1, .ref q15_2, .null, .int 0])), (q7_1, .inl (d0, 40, .inl (fun _ => 0))), (q15_2, .inl (d0, 40, .inl (fun _ => 0)))] := hD
  refine lv_aload_n hx hb di_tok_20 rfl (lv_at hl 0 rfl) ?_
  refine lv_bipush (v := 40) hx hb di_tok_21 (by decide) ?_
  refine va_newa (ty := .int) (a0 := (40, .inl (fun _ => 0))) hx hb (hT _ (cf_in 131 (by decide +kernel) (by decide +kernel))) rfl hK hP hD hS hA (fun _ => rfl) (by decide) rfl (by decide) (Nat.le_of_ble_eq_true rfl) (Nat.le_of_ble_eq_true rfl) di_tok_23 (fun q23_3 cA H hK2 hP hD hS => ?_)
  have eA : cA = d0 := by
    have e1 : s.vm.findClass ("[" ++ FieldType.int.toString) = some cA := (hK2.2 2 _ rfl).2
    have e2 : s.vm.findClass ("[" ++ FieldType.int.toString) = some d0 := (hK.2 0 _ rfl).2
    exact Option.some.inj (e1.symm.trans e2)
  rw [eA] at hP hD
  have hP : va_P D cf_cl [(h0, .inr (7, [.ref q7_1, .ref q15_2, .null, .int 0])), (q7_1, .inl (d0, 40, .inl (fun _ => 0))), (q15_2, .inl (d0, 40, .inl (fun _ => 0))), (q23_3, .inl (d0, 40, .inl (fun _ => 0)))] H := hP
  have hD : va_D A [(h0, .inr (7, [.ref q7_1, .ref q15_2, .null, .int 0])), (q7_1, .inl (d0, 40, .inl (fun _ => 0))), (q15_2, .inl (d0, 40, .inl (fun _ => 0))), (q23_3, .inl (d0, 40, .inl (fun _ => 0)))] := hD
  refine W.widen (k := 3) (n := 120) (by omega) (by omega) ?_
  refine va_putF (D := D) (ci := 7) (v := .ref q23_3) (ty := .array .int) (C := RX7) (T := TX7) (N := 4) hx hb hT inX7 tyX7 tyX7_ok nmX7 hown hK hP hD hS 0 rfl rfl 2 (by decide) (hT _ (cf_in 118 (by decide +kernel) (by decide +kernel))) (fun _ h9 => h9) rfl hin rfl (by decide +kernel) rfl rfl (Nat.le_of_ble_eq_true rfl) di_tok_25 (fun H locs hP hD hS => ?_)
  have hP : va_P D cf_cl [(h0, .inr (7, [.ref q7_1, .ref q15_2, .ref q23_3, .int 0])), (q7_1, .inl (d0, 40, .inl (fun _ => 0))), (q15_2, .inl (d0, 40, .inl (fun _ => 0))), (q23_3, .inl (d0, 40, .inl (fun _ => 0)))] H := hP
  have hD : va_D A [(h0, .inr (7, [.ref q7_1, .ref q15_2, .ref q23_3, .int 0])), (q7_1, .inl (d0, 40, .inl (fun _ => 0))), (q15_2, .inl (d0, 40, .inl (fun _ => 0))), (q23_3, .inl (d0, 40, .inl (fun _ => 0)))] := hD
  refine lv_aload_n hx hb di_tok_28 rfl (lv_at hl 0 rfl) ?_
  refine lv_iconst (v := 0) hx hb di_tok_29 (by decide) ?_
  refine va_put (D := D) (ci := 7) (v := .int 0) (ty := .int) (C := RX7) (T := TX7) (N := 4) hx hb hT inX7 tyX7 tyX7_ok nmX7 hown hK hP hD hS 0 rfl rfl 3 (by decide) (hT _ (cf_in 119 (by decide +kernel) (by decide +kernel))) (fun _ h9 => h9) rfl (by decide +kernel) rfl rfl (Nat.le_of_ble_eq_true rfl) di_tok_30 (fun H locs hP hD hS => ?_)
  have hP : va_P D cf_cl [(h0, .inr (7, [.ref q7_1, .ref q15_2, .ref q23_3, .int 0])), (q7_1, .inl (d0, 40, .inl (fun _ => 0))), (q15_2, .inl (d0, 40, .inl (fun _ => 0))), (q23_3, .inl (d0, 40, .inl (fun _ => 0)))] H := hP
  have hD : va_D A [(h0, .inr (7, [.ref q7_1, .ref q15_2, .ref q23_3, .int 0])), (q7_1, .inl (d0, 40, .inl (fun _ => 0))), (q15_2, .inl (d0, 40, .inl (fun _ => 0))), (q23_3, .inl (d0, 40, .inl (fun _ => 0)))] := hD
  have hP9 := hP.sub (ws' := [(h0, .inr (7, [.ref q7_1, .ref q15_2, .ref q23_3, .int 0])), (q7_1, .inl (d0, 40, .inl (fun _ => 0))), (q15_2, .inl (d0, 40, .inl (fun _ => 0))), (q23_3, .inl (d0, 40, .inl (fun _ => 0)))]) [0, 1, 2, 3] rfl
  have hD9 := hD.sub (ws' := [(h0, .inr (7, [.ref q7_1, .ref q15_2, .ref q23_3, .int 0])), (q7_1, .inl (d0, 40, .inl (fun _ => 0))), (q15_2, .inl (d0, 40, .inl (fun _ => 0))), (q23_3, .inl (d0, 40, .inl (fun _ => 0)))]) [0, 1, 2, 3] (by decide) rfl
  have hK9 := hK.sub (tys' := [(d0, .int), (d1, .char)]) [0, 1] rfl
  exact W.vret hx hb hr (fun t ht hW => ⟨⟨(), rfl, trivial, q7_1, q15_2, q23_3, by rw [ht]; exact hP9, va_K.moved hW.alike hK9, hD9⟩, hS.F ht⟩) hS.2.2 di_tok_33
