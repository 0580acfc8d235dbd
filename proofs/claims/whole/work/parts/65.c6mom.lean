/-! CONSTRUCTORS: what stands in the heap behind each -/
theorem di_mom_0 : decode prog_4_method_1_code 0 = .ok (.aload_n 0, 1) := by decide +kernel
theorem di_mom_1 : decode prog_4_method_1_code 1 = .ok (.invokespecial 3, 3) := by decide +kernel
theorem di_mom_4 : decode prog_4_method_1_code 4 = .ok (.aload_n 0, 1) := by decide +kernel
theorem di_mom_5 : decode prog_4_method_1_code 5 = .ok (.aload_n 1, 1) := by decide +kernel
theorem di_mom_6 : decode prog_4_method_1_code 6 = .ok (.putfield 9, 3) := by decide +kernel
theorem di_mom_9 : decode prog_4_method_1_code 9 = .ok (.aload_n 0, 1) := by decide +kernel
theorem di_mom_10 : decode prog_4_method_1_code 10 = .ok (.aload_n 2, 1) := by decide +kernel
theorem di_mom_11 : decode prog_4_method_1_code 11 = .ok (.putfield 15, 3) := by decide +kernel
theorem di_mom_14 : decode prog_4_method_1_code 14 = .ok (.return_, 1) := by decide +kernel
def yi_mom : MethodName := ⟨"CellFormatter$MomentWriter", "<init>", "(LCellFormatter$Text;LCellFormatter$Calendar;)V"⟩
set_option maxHeartbeats 4000000 in
set_option maxRecDepth 100000 in
theorem ci_mom (l : Launch) (D : va_G) (d0 d1 : ClassId) (h0 t1 t2 : Nat) (sz : Nat) : Met l yi_mom (.code yi_mom prog_4_method_1_code 3 none :: cf_T) ({ frames := 1, cells := 0, slots := 0, locals := 12 }) (va_Pc [.ref h0, .ref t1, .ref t2] (fun U => U.heap.size = sz ∧ va_P D cf_cl [(h0, .inr (2, [.null, .null, .long 0, .int 0]))] U.heap ∧ va_K D cf_cl [(d0, .int), (d1, .char)] U ∧ va_D (fun _ => True) [(h0, .inr (2, [.null, .null, .long 0, .int 0]))])) (va_Qv (fun _ : Unit => True) (fun _ t => va_P D cf_cl [(h0, .inr (2, [.ref t1, .ref t2, .long 0, .int 0]))] t.heap ∧ va_K D cf_cl [(d0, .int), (d1, .char)] t ∧ va_D (va_A [(h0, .inr (2, [.null, .null, .long 0, .int 0]))] sz) [(h0, .inr (2, [.ref t1, .ref t2, .long 0, .int 0]))]) (va_A [(h0, .inr (2, [.null, .null, .long 0, .int 0]))] sz)) 0 0 (va_A [(h0, .inr (2, [.null, .null, .long 0, .int 0]))] sz) := by
  refine cf_ofW (cc := prog_4_method_1_code) (maxL := 3) (ret := none) (ws' := cf_T) (by decide) rfl ?_
  intro p e s m args below meth c s₁ B hml hv
  rw [show (headSpec (.code yi_mom prog_4_method_1_code 3 none :: cf_T) ({ frames := 1, cells := 0, slots := 0, locals := 12 } : Room)).room = ({ frames := 1, cells := 0, slots := 0, locals := 12 } : Room) from rfl]
  obtain ⟨rfl, hsz, hP, hK, hD0⟩ := hv
  have hx := B.exec
  have hb := B.bytes
  have hr := B.returns
  have hts := atoms_spec (ws := .code yi_mom prog_4_method_1_code 3 none :: cf_T) B.pre
  have hT : ∀ w ∈ cf_T, w.before _ s = true := fun w hw => hts w (List.mem_cons_of_mem _ hw)
  have hown : s.vm.findClass "CellFormatter$MomentWriter" = some m.cls := findClass_of_methodNamed B.named
  have hlocks := B.notSynchronized
  have hin : meth.name = "<init>" := (name_of_methodNamed B.named B.method).1
  subst hsz
  have hD := hD0.self (sz := s.heap.size)
  generalize hAe : va_A [(h0, .inr (2, [.null, .null, .long 0, .int 0]))] s.heap.size = A at hD ⊢
  have hA : ∀ q : Nat, s.heap.size ≤ q → A q := fun q h => by rw [← hAe]; exact Or.inr h
  have hS : va_S A s.heap s.heap [] := va_S.rf
  have hl := lv_entry ([.ref h0, .ref t1, .ref t2]) (n := 3) (Nat.le_of_ble_eq_true rfl)
  rw [lg_entry_eq]
  generalize (lg_sl ([.ref h0, .ref t1, .ref t2]) ++ List.replicate (3 - (lg_sl ([.ref h0, .ref t1, .ref t2])).length) Slot.unset).toArray = ls at hl ⊢
  have hl : lv_has ls 3 [(0, .ref h0), (1, .ref t1), (2, .ref t2)] := hl
  have hP : va_P D cf_cl [(h0, .inr (2, [.null, .null, .long 0, .int 0]))] s.heap := hP
  refine lv_aload_n hx hb di_mom_0 rfl (lv_at hl 0 rfl) ?_
  refine W.objInit hx hb hown (hT _ (cf_in 309 (by decide +kernel) (by decide +kernel))) (hT _ (cf_in 108 (by decide +kernel) (by decide +kernel))) (hT _ (cf_in 109 (by decide +kernel) (by decide +kernel))) rfl (by rw [hml]; exact hl.1) rfl di_mom_1 (Nat.le_of_ble_eq_true rfl) (Nat.le_of_ble_eq_true rfl) ?_
  refine W.eq (g2 := F0 m 4 ls []) rfl ?_
  refine lv_aload_n hx hb di_mom_4 rfl (lv_at hl 0 rfl) ?_
  refine lv_aload_n hx hb di_mom_5 rfl (lv_at hl 1 rfl) ?_
  refine va_putF (D := D) (ci := 2) (v := .ref t1) (ty := .object "CellFormatter$Text") (C := RX2) (T := TX2) (N := 4) hx hb hT inX2 tyX2 tyX2_ok nmX2 hown hK hP hD hS 0 rfl rfl 0 (by decide) (hT _ (cf_in 310 (by decide +kernel) (by decide +kernel))) (fun _ h9 => h9) rfl hin rfl (by decide +kernel) rfl rfl (Nat.le_of_ble_eq_true rfl) di_mom_6 (fun H locs hP hD hS => ?_)
  have hP : va_P D cf_cl [(h0, .inr (2, [.ref t1, .null, .long 0, .int 0]))] H := hP
  have hD : va_D A [(h0, .inr (2, [.ref t1, .null, .long 0, .int 0]))] := hD
  refine lv_aload_n hx hb di_mom_9 rfl (lv_at hl 0 rfl) ?_
  refine lv_aload_n hx hb di_mom_10 rfl (lv_at hl 2 rfl) ?_
  refine va_putF (D := D) (ci := 2) (v := .ref t2) (ty := .object "CellFormatter$Calendar") (C := RX2) (T := TX2) (N := 4) hx hb hT inX2 tyX2 tyX2_ok nmX2 hown hK hP hD hS 0 rfl rfl 1 (by decide) (hT _ (cf_in 311 (by decide +kernel) (by decide +kernel))) (fun _ h9 => h9) rfl hin rfl (by decide +kernel) rfl rfl (Nat.le_of_ble_eq_true rfl) di_mom_11 (fun H locs hP hD hS => ?_)
  have hP : va_P D cf_cl [(h0, .inr (2, [.ref t1, .ref t2, .long 0, .int 0]))] H := hP
  have hD : va_D A [(h0, .inr (2, [.ref t1, .ref t2, .long 0, .int 0]))] := hD
  have hP9 := hP.sub (ws' := [(h0, .inr (2, [.ref t1, .ref t2, .long 0, .int 0]))]) [0] rfl
  have hD9 := hD.sub (ws' := [(h0, .inr (2, [.ref t1, .ref t2, .long 0, .int 0]))]) [0] (by decide) rfl
  have hK9 := hK.sub (tys' := [(d0, .int), (d1, .char)]) [0, 1] rfl
  exact W.vret hx hb hr (fun t ht hW => ⟨⟨(), rfl, trivial, by rw [ht]; exact hP9, va_K.moved hW.alike hK9, hD9⟩, hS.F ht⟩) hS.2.2 di_mom_14
