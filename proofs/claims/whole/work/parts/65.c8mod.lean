/-! CONSTRUCTORS: what stands in the heap behind each -/
theorem di_mod_0 : decode prog_11_method_1_code 0 = .ok (.aload_n 0, 1) := by decide +kernel
theorem di_mod_1 : decode prog_11_method_1_code 1 = .ok (.invokespecial 1, 3) := by decide +kernel
theorem di_mod_4 : decode prog_11_method_1_code 4 = .ok (.aload_n 0, 1) := by decide +kernel
theorem di_mod_5 : decode prog_11_method_1_code 5 = .ok (.bipush 40, 2) := by decide +kernel
theorem di_mod_7 : decode prog_11_method_1_code 7 = .ok (.newarray .int, 2) := by decide +kernel
theorem di_mod_9 : decode prog_11_method_1_code 9 = .ok (.putfield 7, 3) := by decide +kernel
theorem di_mod_12 : decode prog_11_method_1_code 12 = .ok (.aload_n 0, 1) := by decide +kernel
theorem di_mod_13 : decode prog_11_method_1_code 13 = .ok (.bipush 40, 2) := by decide +kernel
theorem di_mod_15 : decode prog_11_method_1_code 15 = .ok (.newarray .int, 2) := by decide +kernel
theorem di_mod_17 : decode prog_11_method_1_code 17 = .ok (.putfield 13, 3) := by decide +kernel
theorem di_mod_20 : decode prog_11_method_1_code 20 = .ok (.aload_n 0, 1) := by decide +kernel
theorem di_mod_21 : decode prog_11_method_1_code 21 = .ok (.bipush 40, 2) := by decide +kernel
theorem di_mod_23 : decode prog_11_method_1_code 23 = .ok (.newarray .int, 2) := by decide +kernel
theorem di_mod_25 : decode prog_11_method_1_code 25 = .ok (.putfield 16, 3) := by decide +kernel
theorem di_mod_28 : decode prog_11_method_1_code 28 = .ok (.aload_n 0, 1) := by decide +kernel
theorem di_mod_29 : decode prog_11_method_1_code 29 = .ok (.bipush 40, 2) := by decide +kernel
theorem di_mod_31 : decode prog_11_method_1_code 31 = .ok (.newarray .int, 2) := by decide +kernel
theorem di_mod_33 : decode prog_11_method_1_code 33 = .ok (.putfield 19, 3) := by decide +kernel
theorem di_mod_36 : decode prog_11_method_1_code 36 = .ok (.aload_n 0, 1) := by decide +kernel
theorem di_mod_37 : decode prog_11_method_1_code 37 = .ok (.bipush 40, 2) := by decide +kernel
theorem di_mod_39 : decode prog_11_method_1_code 39 = .ok (.newarray .int, 2) := by decide +kernel
theorem di_mod_41 : decode prog_11_method_1_code 41 = .ok (.putfield 22, 3) := by decide +kernel
theorem di_mod_44 : decode prog_11_method_1_code 44 = .ok (.aload_n 0, 1) := by decide +kernel
theorem di_mod_45 : decode prog_11_method_1_code 45 = .ok (.bipush 42, 2) := by decide +kernel
theorem di_mod_47 : decode prog_11_method_1_code 47 = .ok (.newarray .int, 2) := by decide +kernel
theorem di_mod_49 : decode prog_11_method_1_code 49 = .ok (.putfield 25, 3) := by decide +kernel
theorem di_mod_52 : decode prog_11_method_1_code 52 = .ok (.aload_n 0, 1) := by decide +kernel
theorem di_mod_53 : decode prog_11_method_1_code 53 = .ok (.iconst (-1), 1) := by decide +kernel
theorem di_mod_54 : decode prog_11_method_1_code 54 = .ok (.putfield 28, 3) := by decide +kernel
theorem di_mod_57 : decode prog_11_method_1_code 57 = .ok (.aload_n 0, 1) := by decide +kernel
theorem di_mod_58 : decode prog_11_method_1_code 58 = .ok (.sipush 600, 3) := by decide +kernel
theorem di_mod_61 : decode prog_11_method_1_code 61 = .ok (.newarray .char, 2) := by decide +kernel
theorem di_mod_63 : decode prog_11_method_1_code 63 = .ok (.putfield 32, 3) := by decide +kernel
theorem di_mod_66 : decode prog_11_method_1_code 66 = .ok (.return_, 1) := by decide +kernel
def yi_mod : MethodName := ⟨"CellFormatterModel", "<init>", "()V"⟩
set_option maxHeartbeats 4000000 in
set_option maxRecDepth 100000 in
theorem ci_mod (l : Launch) (D : va_G) (d0 d1 : ClassId) (h0 : Nat) (sz : Nat) : Met l yi_mod (.code yi_mod prog_11_method_1_code 1 none :: cf_T) ({ frames := 1, cells := 7, slots := 842, locals := 12 }) (va_Pc [.ref h0] (fun U => U.heap.size = sz ∧ va_P D cf_cl [(h0, .inr (9, [.int 0, .null, .int 0, .null, .int 0, .null, .null, .null, .null, .int 0, .int 0, .int 0, .int 0, .int 0, .int 0, .int 0, .null, .long 0, .int 0, .int 0, .int 0]))] U.heap ∧ va_K D cf_cl [(d0, .int), (d1, .char)] U ∧ va_D (fun _ => True) [(h0, .inr (9, [.int 0, .null, .int 0, .null, .int 0, .null, .null, .null, .null, .int 0, .int 0, .int 0, .int 0, .int 0, .int 0, .int 0, .null, .long 0, .int 0, .int 0, .int 0]))])) (va_Qv (fun _ : Unit => True) (fun _ t => ∃ q7_1 q15_2 q23_3 q31_4 q39_5 q47_6 q61_7 : Nat, va_P D cf_cl [(h0, .inr (9, [.int 0, .ref q7_1, .int 0, .ref q15_2, .int 0, .ref q23_3, .ref q31_4, .ref q39_5, .ref q47_6, .int 0, .int 0, .int 0, .int 0, .int 0, .int (-1), .int 0, .ref q61_7, .long 0, .int 0, .int 0, .int 0])), (q7_1, .inl (d0, 40, .inl (fun _ => 0))), (q15_2, .inl (d0, 40, .inl (fun _ => 0))), (q23_3, .inl (d0, 40, .inl (fun _ => 0))), (q31_4, .inl (d0, 40, .inl (fun _ => 0))), (q39_5, .inl (d0, 40, .inl (fun _ => 0))), (q47_6, .inl (d0, 42, .inl (fun _ => 0))), (q61_7, .inl (d1, 600, .inl (fun _ => 0)))] t.heap ∧ va_K D cf_cl [(d0, .int), (d1, .char)] t ∧ va_D (va_A [(h0, .inr (9, [.int 0, .null, .int 0, .null, .int 0, .null, .null, .null, .null, .int 0, .int 0, .int 0, .int 0, .int 0, .int 0, .int 0, .null, .long 0, .int 0, .int 0, .int 0]))] sz) [(h0, .inr (9, [.int 0, .ref q7_1, .int 0, .ref q15_2, .int 0, .ref q23_3, .ref q31_4, .ref q39_5, .ref q47_6, .int 0, .int 0, .int 0, .int 0, .int 0, .int (-1), .int 0, .ref q61_7, .long 0, .int 0, .int 0, .int 0])), (q7_1, .inl (d0, 40, .inl (fun _ => 0))), (q15_2, .inl (d0, 40, .inl (fun _ => 0))), (q23_3, .inl (d0, 40, .inl (fun _ => 0))), (q31_4, .inl (d0, 40, .inl (fun _ => 0))), (q39_5, .inl (d0, 40, .inl (fun _ => 0))), (q47_6, .inl (d0, 42, .inl (fun _ => 0))), (q61_7, .inl (d1, 600, .inl (fun _ => 0)))]) (va_A [(h0, .inr (9, [.int 0, .null, .int 0, .null, .int 0, .null, .null, .null, .null, .int 0, .int 0, .int 0, .int 0, .int 0, .int 0, .int 0, .null, .long 0, .int 0, .int 0, .int 0]))] sz)) 7 842 (va_A [(h0, .inr (9, [.int 0, .null, .int 0, .null, .int 0, .null, .null, .null, .null, .int 0, .int 0, .int 0, .int 0, .int 0, .int 0, .int 0, .null, .long 0, .int 0, .int 0, .int 0]))] sz) := by
  refine cf_ofW (cc := prog_11_method_1_code) (maxL := 1) (ret := none) (ws' := cf_T) (by decide) rfl ?_
  intro p e s m args below meth c s₁ B hml hv
  rw [show (headSpec (.code yi_mod prog_11_method_1_code 1 none :: cf_T) ({ frames := 1, cells := 7, slots := 842, locals := 12 } : Room)).room = ({ frames := 1, cells := 7, slots := 842, locals := 12 } : Room) from rfl]
  obtain ⟨rfl, hsz, hP, hK, hD0⟩ := hv
  have hx := B.exec
  have hb := B.bytes
  have hr := B.returns
  have hts := atoms_spec (ws := .code yi_mod prog_11_method_1_code 1 none :: cf_T) B.pre
  have hT : ∀ w ∈ cf_T, w.before _ s = true := fun w hw => hts w (List.mem_cons_of_mem _ hw)
  have hown : s.vm.findClass "CellFormatterModel" = some m.cls := findClass_of_methodNamed B.named
  have hlocks := B.notSynchronized
  have hin : meth.name = "<init>" := (name_of_methodNamed B.named B.method).1
  subst hsz
  have hD := hD0.self (sz := s.heap.size)
  generalize hAe : va_A [(h0, .inr (9, [.int 0, .null, .int 0, .null, .int 0, .null, .null, .null, .null, .int 0, .int 0, .int 0, .int 0, .int 0, .int 0, .int 0, .null, .long 0, .int 0, .int 0, .int 0]))] s.heap.size = A at hD ⊢
  have hA : ∀ q : Nat, s.heap.size ≤ q → A q := fun q h => by rw [← hAe]; exact Or.inr h
  have hS : va_S A s.heap s.heap [] := va_S.rf
  have hl := lv_entry ([.ref h0]) (n := 1) (Nat.le_of_ble_eq_true rfl)
  rw [lg_entry_eq]
  generalize (lg_sl ([.ref h0]) ++ List.replicate (1 - (lg_sl ([.ref h0])).length) Slot.unset).toArray = ls at hl ⊢
  have hl : lv_has ls 1 [(0, .ref h0)] := hl
  have hP : va_P D cf_cl [(h0, .inr (9, [.int 0, .null, .int 0, .null, .int 0, .null, .null, .null, .null, .int 0, .int 0, .int 0, .int 0, .int 0, .int 0, .int 0, .null, .long 0, .int 0, .int 0, .int 0]))] s.heap := hP
  refine lv_aload_n hx hb di_mod_0 rfl (lv_at hl 0 rfl) ?_
  refine W.objInit hx hb hown (hT _ (cf_in 880 (by decide +kernel) (by decide +kernel))) (hT _ (cf_in 108 (by decide +kernel) (by decide +kernel))) (hT _ (cf_in 109 (by decide +kernel) (by decide +kernel))) rfl (by rw [hml]; exact hl.1) rfl di_mod_1 (Nat.le_of_ble_eq_true rfl) (Nat.le_of_ble_eq_true rfl) ?_
  refine W.eq (g2 := F0 m 4 ls []) rfl ?_
  refine lv_aload_n hx hb di_mod_4 rfl (lv_at hl 0 rfl) ?_
  refine lv_bipush (v := 40) hx hb di_mod_5 (by decide) ?_
  refine va_newa (ty := .int) (a0 := (40, .inl (fun _ => 0))) hx hb (hT _ (cf_in 131 (by decide +kernel) (by decide +kernel))) rfl hK hP hD hS hA (fun _ => rfl) (by decide) rfl (by decide) (Nat.le_of_ble_eq_true rfl) (Nat.le_of_ble_eq_true rfl) di_mod_7 (fun q7_1 cA H hK2 hP hD hS => ?_)
  have eA : cA = d0 := by
    have e1 : s.vm.findClass ("[" ++ FieldType.int.toString) = some cA := (hK2.2 2 _ rfl).2
    have e2 : s.vm.findClass ("[" ++ FieldType.int.toString) = some d0 := (hK.2 0 _ rfl).2
    exact Option.some.inj (e1.symm.trans e2)
  rw [eA] at hP hD
  have hP : va_P D cf_cl [(h0, .inr (9, [.int 0, .null, .int 0, .null, .int 0, .null, .null, .null, .null, .int 0, .int 0, .int 0, .int 0, .int 0, .int 0, .int 0, .null, .long 0, .int 0, .int 0, .int 0])), (q7_1, .inl (d0, 40, .inl (fun _ => 0)))] H := hP
  have hD : va_D A [(h0, .inr (9, [.int 0, .null, .int 0, .null, .int 0, .null, .null, .null, .null, .int 0, .int 0, .int 0, .int 0, .int 0, .int 0, .int 0, .null, .long 0, .int 0, .int 0, .int 0])), (q7_1, .inl (d0, 40, .inl (fun _ => 0)))] := hD
  refine W.widen (k := 1) (n := 40) (by omega) (by omega) ?_
  refine va_putF (D := D) (ci := 9) (v := .ref q7_1) (ty := .array .int) (C := RX9) (T := TX9) (N := 21) hx hb hT inX9 tyX9 tyX9_ok nmX9 hown hK hP hD hS 0 rfl rfl 1 (by decide) (hT _ (cf_in 882 (by decide +kernel) (by decide +kernel))) (fun _ h9 => h9) rfl hin rfl (by decide +kernel) rfl rfl (Nat.le_of_ble_eq_true rfl) di_mod_9 (fun H locs hP hD hS => ?_)
  have hP : va_P D cf_cl [(h0, .inr (9, [.int 0, .ref q7_1, .int 0, .null, .int 0, .null, .null, .null, .null, .int 0, .int 0, .int 0, .int 0, .int 0, .int 0, .int 0, .null, .long 0, .int 0, .int 0, .int 0])), (q7_1, .inl (d0, 40, .inl (fun _ => 0)))] H := hP
  have hD : va_D A [(h0, .inr (9, [.int 0, .ref q7_1, .int 0, .null, .int 0, .null, .null, .null, .null, .int 0, .int 0, .int 0, .int 0, .int 0, .int 0, .int 0, .null, .long 0, .int 0, .int 0, .int 0])), (q7_1, .inl (d0, 40, .inl (fun _ => 0)))] := hD
  refine lv_aload_n hx hb di_mod_12 rfl (lv_at hl 0 rfl) ?_
  refine lv_bipush (v := 40) hx hb di_mod_13 (by decide) ?_
  refine va_newa (ty := .int) (a0 := (40, .inl (fun _ => 0))) hx hb (hT _ (cf_in 131 (by decide +kernel) (by decide +kernel))) rfl hK hP hD hS hA (fun _ => rfl) (by decide) rfl (by decide) (Nat.le_of_ble_eq_true rfl) (Nat.le_of_ble_eq_true rfl) di_mod_15 (fun q15_2 cA H hK2 hP hD hS => ?_)
  have eA : cA = d0 := by
    have e1 : s.vm.findClass ("[" ++ FieldType.int.toString) = some cA := (hK2.2 2 _ rfl).2
    have e2 : s.vm.findClass ("[" ++ FieldType.int.toString) = some d0 := (hK.2 0 _ rfl).2
    exact Option.some.inj (e1.symm.trans e2)
  rw [eA] at hP hD
  have hP : va_P D cf_cl [(h0, .inr (9, [.int 0, .ref q7_1, .int 0, .null, .int 0, .null, .null, .null, .null, .int 0, .int 0, .int 0, .int 0, .int 0, .int 0, .int 0, .null, .long 0, .int 0, .int 0, .int 0])), (q7_1, .inl (d0, 40, .inl (fun _ => 0))), (q15_2, .inl (d0, 40, .inl (fun _ => 0)))] H := hP
  have hD : va_D A [(h0, .inr (9, [.int 0, .ref q7_1, .int 0, .null, .int 0, .null, .null, .null, .null, .int 0, .int 0, .int 0, .int 0, .int 0, .int 0, .int 0, .null, .long 0, .int 0, .int 0, .int 0])), (q7_1, .inl (d0, 40, .inl (fun _ => 0))), (q15_2, .inl (d0, 40, .inl (fun _ => 0)))] := hD
  refine W.widen (k := 2) (n := 80) (by omega) (by omega) ?_
  refine va_putF (D := D) (ci := 9) (v := .ref q15_2) (ty := .array .int) (C := RX9) (T := TX9) (N := 21) hx hb hT inX9 tyX9 tyX9_ok nmX9 hown hK hP hD hS 0 rfl rfl 3 (by decide) (hT _ (cf_in 884 (by decide +kernel) (by decide +kernel))) (fun _ h9 => h9) rfl hin rfl (by decide +kernel) rfl rfl (Nat.le_of_ble_eq_true rfl) di_mod_17 (fun H locs hP hD hS => ?_)
  have hP : va_P D cf_cl [(h0, .inr (9, [.int 0, .ref q7_1, .int 0, .ref q15_2, .int 0, .null, .null, .null, .null, .int 0, .int 0, .int 0, .int 0, .int 0, .int 0, .int 0, .null, .long 0, .int 0, .int 0, .int 0])), (q7_1, .inl (d0, 40, .inl (fun _ => 0))), (q15_2, .inl (d0, 40, .inl (fun _ => 0)))] H := hP
  have hD : va_D A [(h0, .inr (9, [.int 0, .ref q7_1, .int 0, .ref q15_2, .int 0, .null, .null, .null, .null, .int 0, .int 0, .int 0, .int 0, .int 0, .int 0, .int 0, .null, .long 0, .int 0, .int 0, .int 0])), (q7_1, .inl (d0, 40, .inl (fun _ => 0))), (q15_2, .inl (d0, 40, .inl (fun _ => 0)))] := hD
  refine lv_aload_n hx hb di_mod_20 rfl (lv_at hl 0 rfl) ?_
  refine lv_bipush (v := 40) hx hb di_mod_21 (by decide) ?_
  refine va_newa (ty := .int) (a0 := (40, .inl (fun _ => 0))) hx hb (hT _ (cf_in 131 (by decide +kernel) (by decide +kernel))) rfl hK hP hD hS hA (fun _ => rfl) (by decide) rfl (by decide) (Nat.le_of_ble_eq_true rfl) (Nat.le_of_ble_eq_true rfl) di_mod_23 (fun q23_3 cA H hK2 hP hD hS => ?_)
  have eA : cA = d0 := by
    have e1 : s.vm.findClass ("[" ++ FieldType.int.toString) = some cA := (hK2.2 2 _ rfl).2
    have e2 : s.vm.findClass ("[" ++ FieldType.int.toString) = some d0 := (hK.2 0 _ rfl).2
    exact Option.some.inj (e1.symm.trans e2)
  rw [eA] at hP hD
  have hP : va_P D cf_cl [(h0, .inr (9, [.int 0, .ref q7_1, .int 0, .ref q15_2, .int 0, .null, .null, .null, .null, .int 0, .int 0, .int 0, .int 0, .int 0, .int 0, .int 0, .null, .long 0, .int 0, .int 0, .int 0])), (q7_1, .inl (d0, 40, .inl (fun _ => 0))), (q15_2, .inl (d0, 40, .inl (fun _ => 0))), (q23_3, .inl (d0, 40, .inl (fun _ => 0)))] H := hP
  have hD : va_D A [(h0, .inr (9, [.int 0, .ref q7_1, .int 0, .ref q15_2, .int 0, .null, .null, .null, .null, .int 0, .int 0, .int 0, .int 0, .int 0, .int 0, .int 0, .null, .long 0, .int 0, .int 0, .int 0])), (q7_1, .inl (d0, 40, .inl (fun _ => 0))), (q15_2, .inl (d0, 40, .inl (fun _ => 0))), (q23_3, .inl (d0, 40, .inl (fun _ => 0)))] := hD
  refine W.widen (k := 3) (n := 120) (by omega) (by omega) ?_
  refine va_putF (D := D) (ci := 9) (v := .ref q23_3) (ty := .array .int) (C := RX9) (T := TX9) (N := 21) hx hb hT inX9 tyX9 tyX9_ok nmX9 hown hK hP hD hS 0 rfl rfl 5 (by decide) (hT _ (cf_in 886 (by decide +kernel) (by decide +kernel))) (fun _ h9 => h9) rfl hin rfl (by decide +kernel) rfl rfl (Nat.le_of_ble_eq_true rfl) di_mod_25 (fun H locs hP hD hS => ?_)
  have hP : va_P D cf_cl [(h0, .inr (9, [.int 0, .ref q7_1, .int 0, .ref q15_2, .int 0, .ref q23_3, .null, .null, .null, .int 0, .int 0, .int 0, .int 0, .int 0, .int 0, .int 0, .null, .long 0, .int 0, .int 0, .int 0])), (q7_1, .inl (d0, 40, .inl (fun _ => 0))), (q15_2, .inl (d0, 40, .inl (fun _ => 0))), (q23_3, .inl (d0, 40, .inl (fun _ => 0)))] H := hP
  have hD : va_D A [(h0, .inr (9, [.int 0, .ref q7_1, .int 0, .ref q15_2, .int 0, .ref q23_3, .null, .null, .null, .int 0, .int 0, .int 0, .int 0, .int 0, .int 0, .int 0, .null, .long 0, .int 0, .int 0, .int 0])), (q7_1, .inl (d0, 40, .inl (fun _ => 0))), (q15_2, .inl (d0, 40, .inl (fun _ => 0))), (q23_3, .inl (d0, 40, .inl (fun _ => 0)))] := hD
  refine lv_aload_n hx hb di_mod_28 rfl (lv_at hl 0 rfl) ?_
  refine lv_bipush (v := 40) hx hb di_mod_29 (by decide) ?_
  refine va_newa (ty := .int) (a0 := (40, .inl (fun _ => 0))) hx hb (hT _ (cf_in 131 (by decide +kernel) (by decide +kernel))) rfl hK hP hD hS hA (fun _ => rfl) (by decide) rfl (by decide) (Nat.le_of_ble_eq_true rfl) (Nat.le_of_ble_eq_true rfl) di_mod_31 (fun q31_4 cA H hK2 hP hD hS => ?_)
  have eA : cA = d0 := by
    have e1 : s.vm.findClass ("[" ++ FieldType.int.toString) = some cA := (hK2.2 2 _ rfl).2
    have e2 : s.vm.findClass ("[" ++ FieldType.int.toString) = some d0 := (hK.2 0 _ rfl).2
    exact Option.some.inj (e1.symm.trans e2)
  rw [eA] at hP hD
  have hP : va_P D cf_cl [(h0, .inr (9, [.int 0, .ref q7_1, .int 0, .ref q15_2, .int 0, .ref q23_3, .null, .null, .null, .int 0, .int 0, .int 0, .int 0, .int 0, .int 0, .int 0, .null, .long 0, .int 0, .int 0, .int 0])), (q7_1, .inl (d0, 40, .inl (fun _ => 0))), (q15_2, .inl (d0, 40, .inl (fun _ => 0))), (q23_3, .inl (d0, 40, .inl (fun _ => 0))), (q31_4, .inl (d0, 40, .inl (fun _ => 0)))] H := hP
  have hD : va_D A [(h0, .inr (9, [.int 0, .ref q7_1, .int 0, .ref q15_2, .int 0, .ref q23_3, .null, .null, .null, .int 0, .int 0, .int 0, .int 0, .int 0, .int 0, .int 0, .null, .long 0, .int 0, .int 0, .int 0])), (q7_1, .inl (d0, 40, .inl (fun _ => 0))), (q15_2, .inl (d0, 40, .inl (fun _ => 0))), (q23_3, .inl (d0, 40, .inl (fun _ => 0))), (q31_4, .inl (d0, 40, .inl (fun _ => 0)))] := hD
  refine W.widen (k := 4) (n := 160) (by omega) (by omega) ?_
  refine va_putF (D := D) (ci := 9) (v := .ref q31_4) (ty := .array .int) (C := RX9) (T := TX9) (N := 21) hx hb hT inX9 tyX9 tyX9_ok nmX9 hown hK hP hD hS 0 rfl rfl 6 (by decide) (hT _ (cf_in 887 (by decide +kernel) (by decide +kernel))) (fun _ h9 => h9) rfl hin rfl (by decide +kernel) rfl rfl (Nat.le_of_ble_eq_true rfl) di_mod_33 (fun H locs hP hD hS => ?_)
  have hP : va_P D cf_cl [(h0, .inr (9, [.int 0, .ref q7_1, .int 0, .ref q15_2, .int 0, .ref q23_3, .ref q31_4, .null, .null, .int 0, .int 0, .int 0, .int 0, .int 0, .int 0, .int 0, .null, .long 0, .int 0, .int 0, .int 0])), (q7_1, .inl (d0, 40, .inl (fun _ => 0))), (q15_2, .inl (d0, 40, .inl (fun _ => 0))), (q23_3, .inl (d0, 40, .inl (fun _ => 0))), (q31_4, .inl (d0, 40, .inl (fun _ => 0)))] H := hP
  have hD : va_D A [(h0, .inr (9, [.int 0, .ref q7_1, .int 0, .ref q15_2, .int 0, .ref q23_3, .ref q31_4, .null, .null, .int 0, .int 0, .int 0, .int 0, .int 0, .int 0, .int 0, .null, .long 0, .int 0, .int 0, .int 0])), (q7_1, .inl (d0, 40, .inl (fun _ => 0))), (q15_2, .inl (d0, 40, .inl (fun _ => 0))), (q23_3, .inl (d0, 40, .inl (fun _ => 0))), (q31_4, .inl (d0, 40, .inl (fun _ => 0)))] := hD
  refine lv_aload_n hx hb di_mod_36 rfl (lv_at hl 0 rfl) ?_
  refine lv_bipush (v := 40) hx hb di_mod_37 (by decide) ?_
  refine va_newa (ty := .int) (a0 := (40, .inl (fun _ => 0))) hx hb (hT _ (cf_in 131 (by decide +kernel) (by decide +kernel))) rfl hK hP hD hS hA (fun _ => rfl) (by decide) rfl (by decide) (Nat.le_of_ble_eq_true rfl) (Nat.le_of_ble_eq_true rfl) di_mod_39 (fun q39_5 cA H hK2 hP hD hS => ?_)
  have eA : cA = d0 := by
    have e1 : s.vm.findClass ("[" ++ FieldType.int.toString) = some cA := (hK2.2 2 _ rfl).2
    have e2 : s.vm.findClass ("[" ++ FieldType.int.toString) = some d0 := (hK.2 0 _ rfl).2
    exact Option.some.inj (e1.symm.trans e2)
  rw [eA] at hP hD
  have hP : va_P D cf_cl [(h0, .inr (9, [.int 0, .ref q7_1, .int 0, .ref q15_2, .int 0, .ref q23_3, .ref q31_4, .null, .null, .int 0, .int 0, .int 0, .int 0, .int 0, .int 0, .int 0, .null, .long 0, .int 0, .int 0, .int 0])), (q7_1, .inl (d0, 40, .inl (fun _ => 0))), (q15_2, .inl (d0, 40, .inl (fun _ => 0))), (q23_3, .inl (d0, 40, .inl (fun _ => 0))), (q31_4, .inl (d0, 40, .inl (fun _ => 0))), (q39_5, .inl (d0, 40, .inl (fun _ => 0)))] H := hP
  have hD : va_D A [(h0, .inr (9, [.int 0, .ref q7_1, .int 0, .ref q15_2, .int 0, .ref q23_3, .ref q31_4, .null, .null, .int 0, .int 0, .int 0, .int 0, .int 0, .int 0, .int 0, .null, .long 0, .int 0, .int 0, .int 0])), (q7_1, .inl (d0, 40, .inl (fun _ => 0))), (q15_2, .inl (d0, 40, .inl (fun _ => 0))), (q23_3, .inl (d0, 40, .inl (fun _ => 0))), (q31_4, .inl (d0, 40, .inl (fun _ => 0))), (q39_5, .inl (d0, 40, .inl (fun _ => 0)))] := hD
  refine W.widen (k := 5) (n := 200) (by omega) (by omega) ?_
  refine va_putF (D := D) (ci := 9) (v := .ref q39_5) (ty := .array .int) (C := RX9) (T := TX9) (N := 21) hx hb hT inX9 tyX9 tyX9_ok nmX9 hown hK hP hD hS 0 rfl rfl 7 (by decide) (hT _ (cf_in 888 (by decide +kernel) (by decide +kernel))) (fun _ h9 => h9) rfl hin rfl (by decide +kernel) rfl rfl (Nat.le_of_ble_eq_true rfl) di_mod_41 (fun H locs hP hD hS => ?_)
  have hP : va_P D cf_cl [(h0, .inr (9, [.int 0, .ref q7_1, .int 0, .ref q15_2, .int 0, .ref q23_3, .ref q31_4, .ref q39_5, .null, .int 0, .int 0, .int 0, .int 0, .int 0, .int 0, .int 0, .null, .long 0, .int 0, .int 0, .int 0])), (q7_1, .inl (d0, 40, .inl (fun _ => 0))), (q15_2, .inl (d0, 40, .inl (fun _ => 0))), (q23_3, .inl (d0, 40, .inl (fun _ => 0))), (q31_4, .inl (d0, 40, .inl (fun _ => 0))), (q39_5, .inl (d0, 40, .inl (fun _ => 0)))] H := hP
  have hD : va_D A [(h0, .inr (9, [.int 0, .ref q7_1, .int 0, .ref q15_2, .int 0, .ref q23_3, .ref q31_4, .ref q39_5, .null, .int 0, .int 0, .int 0, .int 0, .int 0, .int 0, .int 0, .null, .long 0, .int 0, .int 0, .int 0])), (q7_1, .inl (d0, 40, .inl (fun _ => 0))), (q15_2, .inl (d0, 40, .inl (fun _ => 0))), (q23_3, .inl (d0, 40, .inl (fun _ => 0))), (q31_4, .inl (d0, 40, .inl (fun _ => 0))), (q39_5, .inl (d0, 40, .inl (fun _ => 0)))] := hD
  refine lv_aload_n hx hb di_mod_44 rfl (lv_at hl 0 rfl) ?_
  refine lv_bipush (v := 42) hx hb di_mod_45 (by decide) ?_
  refine va_newa (ty := .int) (a0 := (42, .inl (fun _ => 0))) hx hb (hT _ (cf_in 131 (by decide +kernel) (by decide +kernel))) rfl hK hP hD hS hA (fun _ => rfl) (by decide) rfl (by decide) (Nat.le_of_ble_eq_true rfl) (Nat.le_of_ble_eq_true rfl) di_mod_47 (fun q47_6 cA H hK2 hP hD hS => ?_)
  have eA : cA = d0 := by
    have e1 : s.vm.findClass ("[" ++ FieldType.int.toString) = some cA := (hK2.2 2 _ rfl).2
    have e2 : s.vm.findClass ("[" ++ FieldType.int.toString) = some d0 := (hK.2 0 _ rfl).2
    exact Option.some.inj (e1.symm.trans e2)
  rw [eA] at hP hD
  have hP : va_P D cf_cl [(h0, .inr (9, [.int 0, .ref q7_1, .int 0, .ref q15_2, .int 0, .ref q23_3, .ref q31_4, .ref q39_5, .null, .int 0, .int 0, .int 0, .int 0, .int 0, .int 0, .int 0, .null, .long 0, .int 0, .int 0, .int 0])), (q7_1, .inl (d0, 40, .inl (fun _ => 0))), (q15_2, .inl (d0, 40, .inl (fun _ => 0))), (q23_3, .inl (d0, 40, .inl (fun _ => 0))), (q31_4, .inl (d0, 40, .inl (fun _ => 0))), (q39_5, .inl (d0, 40, .inl (fun _ => 0))), (q47_6, .inl (d0, 42, .inl (fun _ => 0)))] H := hP
  have hD : va_D A [(h0, .inr (9, [.int 0, .ref q7_1, .int 0, .ref q15_2, .int 0, .ref q23_3, .ref q31_4, .ref q39_5, .null, .int 0, .int 0, .int 0, .int 0, .int 0, .int 0, .int 0, .null, .long 0, .int 0, .int 0, .int 0])), (q7_1, .inl (d0, 40, .inl (fun _ => 0))), (q15_2, .inl (d0, 40, .inl (fun _ => 0))), (q23_3, .inl (d0, 40, .inl (fun _ => 0))), (q31_4, .inl (d0, 40, .inl (fun _ => 0))), (q39_5, .inl (d0, 40, .inl (fun _ => 0))), (q47_6, .inl (d0, 42, .inl (fun _ => 0)))] := hD
  refine W.widen (k := 6) (n := 242) (by omega) (by omega) ?_
  refine va_putF (D := D) (ci := 9) (v := .ref q47_6) (ty := .array .int) (C := RX9) (T := TX9) (N := 21) hx hb hT inX9 tyX9 tyX9_ok nmX9 hown hK hP hD hS 0 rfl rfl 8 (by decide) (hT _ (cf_in 889 (by decide +kernel) (by decide +kernel))) (fun _ h9 => h9) rfl hin rfl (by decide +kernel) rfl rfl (Nat.le_of_ble_eq_true rfl) di_mod_49 (fun H locs hP hD hS => ?_)
  have hP : va_P D cf_cl [(h0, .inr (9, [.int 0, .ref q7_1, .int 0, .ref q15_2, .int 0, .ref q23_3, .ref q31_4, .ref q39_5, .ref q47_6, .int 0, .int 0, .int 0, .int 0, .int 0, .int 0, .int 0, .null, .long 0, .int 0, .int 0, .int 0])), (q7_1, .inl (d0, 40, .inl (fun _ => 0))), (q15_2, .inl (d0, 40, .inl (fun _ => 0))), (q23_3, .inl (d0, 40, .inl (fun _ => 0))), (q31_4, .inl (d0, 40, .inl (fun _ => 0))), (q39_5, .inl (d0, 40, .inl (fun _ => 0))), (q47_6, .inl (d0, 42, .inl (fun _ => 0)))] H := hP
  have hD : va_D A [(h0, .inr (9, [.int 0, .ref q7_1, .int 0, .ref q15_2, .int 0, .ref q23_3, .ref q31_4, .ref q39_5, .ref q47_6, .int 0, .int 0, .int 0, .int 0, .int 0, .int 0, .int 0, .null, .long 0, .int 0, .int 0, .int 0])), (q7_1, .inl (d0, 40, .inl (fun _ => 0))), (q15_2, .inl (d0, 40, .inl (fun _ => 0))), (q23_3, .inl (d0, 40, .inl (fun _ => 0))), (q31_4, .inl (d0, 40, .inl (fun _ => 0))), (q39_5, .inl (d0, 40, .inl (fun _ => 0))), (q47_6, .inl (d0, 42, .inl (fun _ => 0)))] := hD
  refine lv_aload_n hx hb di_mod_52 rfl (lv_at hl 0 rfl) ?_
  refine lv_iconst (v := (-1)) hx hb di_mod_53 (by decide) ?_
  refine va_put (D := D) (ci := 9) (v := .int (-1)) (ty := .int) (C := RX9) (T := TX9) (N := 21) hx hb hT inX9 tyX9 tyX9_ok nmX9 hown hK hP hD hS 0 rfl rfl 14 (by decide) (hT _ (cf_in 895 (by decide +kernel) (by decide +kernel))) (fun _ h9 => h9) rfl (by decide +kernel) rfl rfl (Nat.le_of_ble_eq_true rfl) di_mod_54 (fun H locs hP hD hS => ?_)
  have hP : va_P D cf_cl [(h0, .inr (9, [.int 0, .ref q7_1, .int 0, .ref q15_2, .int 0, .ref q23_3, .ref q31_4, .ref q39_5, .ref q47_6, .int 0, .int 0, .int 0, .int 0, .int 0, .int (-1), .int 0, .null, .long 0, .int 0, .int 0, .int 0])), (q7_1, .inl (d0, 40, .inl (fun _ => 0))), (q15_2, .inl (d0, 40, .inl (fun _ => 0))), (q23_3, .inl (d0, 40, .inl (fun _ => 0))), (q31_4, .inl (d0, 40, .inl (fun _ => 0))), (q39_5, .inl (d0, 40, .inl (fun _ => 0))), (q47_6, .inl (d0, 42, .inl (fun _ => 0)))] H := hP
  have hD : va_D A [(h0, .inr (9, [.int 0, .ref q7_1, .int 0, .ref q15_2, .int 0, .ref q23_3, .ref q31_4, .ref q39_5, .ref q47_6, .int 0, .int 0, .int 0, .int 0, .int 0, .int (-1), .int 0, .null, .long 0, .int 0, .int 0, .int 0])), (q7_1, .inl (d0, 40, .inl (fun _ => 0))), (q15_2, .inl (d0, 40, .inl (fun _ => 0))), (q23_3, .inl (d0, 40, .inl (fun _ => 0))), (q31_4, .inl (d0, 40, .inl (fun _ => 0))), (q39_5, .inl (d0, 40, .inl (fun _ => 0))), (q47_6, .inl (d0, 42, .inl (fun _ => 0)))] := hD
  refine lv_aload_n hx hb di_mod_57 rfl (lv_at hl 0 rfl) ?_
  refine lv_sipush (v := 600) hx hb di_mod_58 (by decide) ?_
  refine va_newa (ty := .char) (a0 := (600, .inl (fun _ => 0))) hx hb (hT _ (cf_in 130 (by decide +kernel) (by decide +kernel))) rfl hK hP hD hS hA (fun _ => rfl) (by decide) rfl (by decide) (Nat.le_of_ble_eq_true rfl) (Nat.le_of_ble_eq_true rfl) di_mod_61 (fun q61_7 cA H hK2 hP hD hS => ?_)
  have eA : cA = d1 := by
    have e1 : s.vm.findClass ("[" ++ FieldType.char.toString) = some cA := (hK2.2 2 _ rfl).2
    have e2 : s.vm.findClass ("[" ++ FieldType.char.toString) = some d1 := (hK.2 1 _ rfl).2
    exact Option.some.inj (e1.symm.trans e2)
  rw [eA] at hP hD
  have hP : va_P D cf_cl [(h0, .inr (9, [.int 0, .ref q7_1, .int 0, .ref q15_2, .int 0, .ref q23_3, .ref q31_4, .ref q39_5, .ref q47_6, .int 0, .int 0, .int 0, .int 0, .int 0, .int (-1), .int 0, .null, .long 0, .int 0, .int 0, .int 0])), (q7_1, .inl (d0, 40, .inl (fun _ => 0))), (q15_2, .inl (d0, 40, .inl (fun _ => 0))), (q23_3, .inl (d0, 40, .inl (fun _ => 0))), (q31_4, .inl (d0, 40, .inl (fun _ => 0))), (q39_5, .inl (d0, 40, .inl (fun _ => 0))), (q47_6, .inl (d0, 42, .inl (fun _ => 0))), (q61_7, .inl (d1, 600, .inl (fun _ => 0)))] H := hP
  have hD : va_D A [(h0, .inr (9, [.int 0, .ref q7_1, .int 0, .ref q15_2, .int 0, .ref q23_3, .ref q31_4, .ref q39_5, .ref q47_6, .int 0, .int 0, .int 0, .int 0, .int 0, .int (-1), .int 0, .null, .long 0, .int 0, .int 0, .int 0])), (q7_1, .inl (d0, 40, .inl (fun _ => 0))), (q15_2, .inl (d0, 40, .inl (fun _ => 0))), (q23_3, .inl (d0, 40, .inl (fun _ => 0))), (q31_4, .inl (d0, 40, .inl (fun _ => 0))), (q39_5, .inl (d0, 40, .inl (fun _ => 0))), (q47_6, .inl (d0, 42, .inl (fun _ => 0))), (q61_7, .inl (d1, 600, .inl (fun _ => 0)))] := hD
  refine W.widen (k := 7) (n := 842) (by omega) (by omega) ?_
  refine va_putF (D := D) (ci := 9) (v := .ref q61_7) (ty := .array .char) (C := RX9) (T := TX9) (N := 21) hx hb hT inX9 tyX9 tyX9_ok nmX9 hown hK hP hD hS 0 rfl rfl 16 (by decide) (hT _ (cf_in 897 (by decide +kernel) (by decide +kernel))) (fun _ h9 => h9) rfl hin rfl (by decide +kernel) rfl rfl (Nat.le_of_ble_eq_true rfl) di_mod_63 (fun H locs hP hD hS => ?_)
  have hP : va_P D cf_cl [(h0, .inr (9, [.int 0, .ref q7_1, .int 0, .ref q15_2, .int 0, .ref q23_3, .ref q31_4, .ref q39_5, .ref q47_6, .int 0, .int 0, .int 0, .int 0, .int 0, .int (-1), .int 0, .ref q61_7, .long 0, .int 0, .int 0, .int 0])), (q7_1, .inl (d0, 40, .inl (fun _ => 0))), (q15_2, .inl (d0, 40, .inl (fun _ => 0))), (q23_3, .inl (d0, 40, .inl (fun _ => 0))), (q31_4, .inl (d0, 40, .inl (fun _ => 0))), (q39_5, .inl (d0, 40, .inl (fun _ => 0))), (q47_6, .inl (d0, 42, .inl (fun _ => 0))), (q61_7, .inl (d1, 600, .inl (fun _ => 0)))] H := hP
  have hD : va_D A [(h0, .inr (9, [.int 0, .ref q7_1, .int 0, .ref q15_2, .int 0, .ref q23_3, .ref q31_4, .ref q39_5, .ref q47_6, .int 0, .int 0, .int 0, .int 0, .int 0, .int (-1), .int 0, .ref q61_7, .long 0, .int 0, .int 0, .int 0])), (q7_1, .inl (d0, 40, .inl (fun _ => 0))), (q15_2, .inl (d0, 40, .inl (fun _ => 0))), (q23_3, .inl (d0, 40, .inl (fun _ => 0))), (q31_4, .inl (d0, 40, .inl (fun _ => 0))), (q39_5, .inl (d0, 40, .inl (fun _ => 0))), (q47_6, .inl (d0, 42, .inl (fun _ => 0))), (q61_7, .inl (d1, 600, .inl (fun _ => 0)))] := hD
  have hP9 := hP.sub (ws' := [(h0, .inr (9, [.int 0, .ref q7_1, .int 0, .ref q15_2, .int 0, .ref q23_3, .ref q31_4, .ref q39_5, .ref q47_6, .int 0, .int 0, .int 0, .int 0, .int 0, .int (-1), .int 0, .ref q61_7, .long 0, .int 0, .int 0, .int 0])), (q7_1, .inl (d0, 40, .inl (fun _ => 0))), (q15_2, .inl (d0, 40, .inl (fun _ => 0))), (q23_3, .inl (d0, 40, .inl (fun _ => 0))), (q31_4, .inl (d0, 40, .inl (fun _ => 0))), (q39_5, .inl (d0, 40, .inl (fun _ => 0))), (q47_6, .inl (d0, 42, .inl (fun _ => 0))), (q61_7, .inl (d1, 600, .inl (fun _ => 0)))]) [0, 1, 2, 3, 4, 5, 6, 7] rfl
  have hD9 := hD.sub (ws' := [(h0, .inr (9, [.int 0, .ref q7_1, .int 0, .ref q15_2, .int 0, .ref q23_3, .ref q31_4, .ref q39_5, .ref q47_6, .int 0, .int 0, .int 0, .int 0, .int 0, .int (-1), .int 0, .ref q61_7, .long 0, .int 0, .int 0, .int 0])), (q7_1, .inl (d0, 40, .inl (fun _ => 0))), (q15_2, .inl (d0, 40, .inl (fun _ => 0))), (q23_3, .inl (d0, 40, .inl (fun _ => 0))), (q31_4, .inl (d0, 40, .inl (fun _ => 0))), (q39_5, .inl (d0, 40, .inl (fun _ => 0))), (q47_6, .inl (d0, 42, .inl (fun _ => 0))), (q61_7, .inl (d1, 600, .inl (fun _ => 0)))]) [0, 1, 2, 3, 4, 5, 6, 7] (by decide) rfl
  have hK9 := hK.sub (tys' := [(d0, .int), (d1, .char)]) [0, 1] rfl
  exact W.vret hx hb hr (fun t ht hW => ⟨⟨(), rfl, trivial, q7_1, q15_2, q23_3, q31_4, q39_5, q47_6, q61_7, by rw [ht]; exact hP9, va_K.moved hW.alike hK9, hD9⟩, hS.F ht⟩) hS.2.2 di_mod_66
