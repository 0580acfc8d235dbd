/-! CONSTRUCTORS: what stands in the heap behind each -/
theorem di_scn_0 : decode prog_6_method_1_code 0 = .ok (.aload_n 0, 1) := by decide +kernel
theorem di_scn_1 : decode prog_6_method_1_code 1 = .ok (.invokespecial 3, 3) := by decide +kernel
theorem di_scn_4 : decode prog_6_method_1_code 4 = .ok (.aload_n 0, 1) := by decide +kernel
theorem di_scn_5 : decode prog_6_method_1_code 5 = .ok (.aload_n 1, 1) := by decide +kernel
theorem di_scn_6 : decode prog_6_method_1_code 6 = .ok (.putfield 9, 3) := by decide +kernel
theorem di_scn_9 : decode prog_6_method_1_code 9 = .ok (.aload_n 0, 1) := by decide +kernel
theorem di_scn_10 : decode prog_6_method_1_code 10 = .ok (.iconst 0, 1) := by decide +kernel
theorem di_scn_11 : decode prog_6_method_1_code 11 = .ok (.newarray .char, 2) := by decide +kernel
theorem di_scn_13 : decode prog_6_method_1_code 13 = .ok (.putfield 15, 3) := by decide +kernel
theorem di_scn_16 : decode prog_6_method_1_code 16 = .ok (.aload_n 0, 1) := by decide +kernel
theorem di_scn_17 : decode prog_6_method_1_code 17 = .ok (.iconst 0, 1) := by decide +kernel
theorem di_scn_18 : decode prog_6_method_1_code 18 = .ok (.putfield 19, 3) := by decide +kernel
theorem di_scn_21 : decode prog_6_method_1_code 21 = .ok (.return_, 1) := by decide +kernel
def yi_scn : MethodName := ⟨"CellFormatter$Scanner", "<init>", "(LCellFormatter$Tokens;)V"⟩
set_option maxHeartbeats 4000000 in
set_option maxRecDepth 100000 in
theorem ci_scn (l : Launch) (D : va_G) (d0 d1 : ClassId) (h0 t1 : Nat) (sz : Nat) : Met l yi_scn (.code yi_scn prog_6_method_1_code 2 none :: cf_T) ({ frames := 1, cells := 1, slots := 0, locals := 12 }) (va_Pc [.ref h0, .ref t1] (fun U => U.heap.size = sz ∧ va_P D cf_cl [(h0, .inr (4, [.null, .null, .int 0]))] U.heap ∧ va_K D cf_cl [(d0, .int), (d1, .char)] U ∧ va_D (fun _ => True) [(h0, .inr (4, [.null, .null, .int 0]))])) (va_Qv (fun _ : Unit => True) (fun _ t => ∃ q11_1 : Nat, va_P D cf_cl [(h0, .inr (4, [.ref t1, .ref q11_1, .int 0])), (q11_1, .inl (d1, 0, .inl (fun _ => 0)))] t.heap ∧ va_K D cf_cl [(d0, .int), (d1, .char)] t ∧ va_D (va_A [(h0, .inr (4, [.null, .null, .int 0]))] sz) [(h0, .inr (4, [.ref t1, .ref q11_1, .int 0])), (q11_1, .inl (d1, 0, .inl (fun _ => 0)))]) (va_A [(h0, .inr (4, [.null, .null, .int 0]))] sz)) 1 0 (va_A [(h0, .inr (4, [.null, .null, .int 0]))] sz) := by
  refine cf_ofW (cc := prog_6_method_1_code) (maxL := 2) (ret := none) (ws' := cf_T) (by decide) rfl ?_
  intro p e s m args below meth c s₁ B hml hv
  rw [show (headSpec (.code yi_scn prog_6_method_1_code 2 none :: cf_T) ({ frames := 1, cells := 1, slots := 0, locals := 12 } : Room)).room = ({ frames := 1, cells := 1, slots := 0, locals := 12 } : Room) from rfl]
  obtain ⟨rfl, hsz, hP, hK, hD0⟩ := hv
  have hx := B.exec
  have hb := B.bytes
  have hr := B.returns
  have hts := atoms_spec (ws := .code yi_scn prog_6_method_1_code 2 none :: cf_T) B.pre
  have hT : ∀ w ∈ cf_T, w.before _ s = true := fun w hw => hts w (List.mem_cons_of_mem _ hw)
  have hown : s.vm.findClass "CellFormatter$Scanner" = some m.cls := findClass_of_methodNamed B.named
  have hlocks := B.notSynchronized
  have hin : meth.name = "<init>" := (name_of_methodNamed B.named B.method).1
  subst hsz
  have hD := hD0.self (sz := s.heap.size)
  generalize hAe : va_A [(h0, .inr (4, [.null, .null, .int 0]))] s.heap.size = A at hD ⊢
  have hA : ∀ q : Nat, s.heap.size ≤ q → A q := fun q h => by rw [← hAe]; exact Or.inr h
  have hS : va_S A s.heap s.heap [] := va_S.rf
  have hl := lv_entry ([.ref h0, .ref t1]) (n := 2) (Nat.le_of_ble_eq_true rfl)
  rw [lg_entry_eq]
  generalize (lg_sl ([.ref h0, .ref t1]) ++ List.replicate (2 - (lg_sl ([.ref h0, .ref t1])).length) Slot.unset).toArray = ls at hl ⊢
  have hl : lv_has ls 2 [(0, .ref h0), (1, .ref t1)] := hl
  have hP : va_P D cf_cl [(h0, .inr (4, [.null, .null, .int 0]))] s.heap := hP
  refine lv_aload_n hx hb di_scn_0 rfl (lv_at hl 0 rfl) ?_
  refine W.objInit hx hb hown (hT _ (cf_in 137 (by decide +kernel) (by decide +kernel))) (hT _ (cf_in 108 (by decide +kernel) (by decide +kernel))) (hT _ (cf_in 109 (by decide +kernel) (by decide +kernel))) rfl (by rw [hml]; exact hl.1) rfl di_scn_1 (Nat.le_of_ble_eq_true rfl) (Nat.le_of_ble_eq_true rfl) ?_
  refine W.eq (g2 := F0 m 4 ls []) rfl ?_
  refine lv_aload_n hx hb di_scn_4 rfl (lv_at hl 0 rfl) ?_
  refine lv_aload_n hx hb di_scn_5 rfl (lv_at hl 1 rfl) ?_
  refine va_putF (D := D) (ci := 4) (v := .ref t1) (ty := .object "CellFormatter$Tokens") (C := RX4) (T := TX4) (N := 3) hx hb hT inX4 tyX4 tyX4_ok nmX4 hown hK hP hD hS 0 rfl rfl 0 (by decide) (hT _ (cf_in 138 (by decide +kernel) (by decide +kernel))) (fun _ h9 => h9) rfl hin rfl (by decide +kernel) rfl rfl (Nat.le_of_ble_eq_true rfl) di_scn_6 (fun H locs hP hD hS => ?_)
  have hP : va_P D cf_cl [(h0, .inr (4, [.ref t1, .null, .int 0]))] H := hP
  have hD : va_D A [(h0, .inr (4, [.ref t1, .null, .int 0]))] := hD
  refine lv_aload_n hx hb di_scn_9 rfl (lv_at hl 0 rfl) ?_
  refine lv_iconst (v := 0) hx hb di_scn_10 (by decide) ?_
  refine va_newa (ty := .char) (a0 := (0, .inl (fun _ => 0))) hx hb (hT _ (cf_in 130 (by decide +kernel) (by decide +kernel))) rfl hK hP hD hS hA (fun _ => rfl) (by decide) rfl (by decide) (Nat.le_of_ble_eq_true rfl) (Nat.le_of_ble_eq_true rfl) di_scn_11 (fun q11_1 cA H hK2 hP hD hS => ?_)
  have eA : cA = d1 := by
    have e1 : s.vm.findClass ("[" ++ FieldType.char.toString) = some cA := (hK2.2 2 _ rfl).2
    have e2 : s.vm.findClass ("[" ++ FieldType.char.toString) = some d1 := (hK.2 1 _ rfl).2
    exact Option.some.inj (e1.symm.trans e2)
  rw [eA] at hP hD
  have hP : va_P D cf_cl [(h0, .inr (4, [.ref t1, .null, .int 0])), (q11_1, .inl (d1, 0, .inl (fun _ => 0)))] H := hP
  have hD : va_D A [(h0, .inr (4, [.ref t1, .null, .int 0])), (q11_1, .inl (d1, 0, .inl (fun _ => 0)))] := hD
  refine W.widen (k := 1) (n := 0) (by omega) (by omega) ?_
  refine va_put (D := D) (ci := 4) (v := .ref q11_1) (ty := .array .char) (C := RX4) (T := TX4) (N := 3) hx hb hT inX4 tyX4 tyX4_ok nmX4 hown hK hP hD hS 0 rfl rfl 1 (by decide) (hT _ (cf_in 139 (by decide +kernel) (by decide +kernel))) (fun _ h9 => h9) rfl (by decide +kernel) rfl rfl (Nat.le_of_ble_eq_true rfl) di_scn_13 (fun H locs hP hD hS => ?_)
  have hP : va_P D cf_cl [(h0, .inr (4, [.ref t1, .ref q11_1, .int 0])), (q11_1, .inl (d1, 0, .inl (fun _ => 0)))] H := hP
  have hD : va_D A [(h0, .inr (4, [.ref t1, .ref q11_1, .int 0])), (q11_1, .inl (d1, 0, .inl (fun _ => 0)))] := hD
  refine lv_aload_n hx hb di_scn_16 rfl (lv_at hl 0 rfl) ?_
  refine lv_iconst (v := 0) hx hb di_scn_17 (by decide) ?_
  refine va_put (D := D) (ci := 4) (v := .int 0) (ty := .int) (C := RX4) (T := TX4) (N := 3) hx hb hT inX4 tyX4 tyX4_ok nmX4 hown hK hP hD hS 0 rfl rfl 2 (by decide) (hT _ (cf_in 140 (by decide +kernel) (by decide +kernel))) (fun _ h9 => h9) rfl (by decide +kernel) rfl rfl (Nat.le_of_ble_eq_true rfl) di_scn_18 (fun H locs hP hD hS => ?_)
  have hP : va_P D cf_cl [(h0, .inr (4, [.ref t1, .ref q11_1, .int 0])), (q11_1, .inl (d1, 0, .inl (fun _ => 0)))] H := hP
  have hD : va_D A [(h0, .inr (4, [.ref t1, .ref q11_1, .int 0])), (q11_1, .inl (d1, 0, .inl (fun _ => 0)))] := hD
  have hP9 := hP.sub (ws' := [(h0, .inr (4, [.ref t1, .ref q11_1, .int 0])), (q11_1, .inl (d1, 0, .inl (fun _ => 0)))]) [0, 1] rfl
  have hD9 := hD.sub (ws' := [(h0, .inr (4, [.ref t1, .ref q11_1, .int 0])), (q11_1, .inl (d1, 0, .inl (fun _ => 0)))]) [0, 1] (by decide) rfl
  have hK9 := hK.sub (tys' := [(d0, .int), (d1, .char)]) [0, 1] rfl
  exact W.vret hx hb hr (fun t ht hW => ⟨⟨(), rfl, trivial, q11_1, by rw [ht]; exact hP9, va_K.moved hW.alike hK9, hD9⟩, hS.F ht⟩) hS.2.2 di_scn_21
