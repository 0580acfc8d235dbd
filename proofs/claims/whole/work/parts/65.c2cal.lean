/-! CONSTRUCTORS: what stands in the heap behind each -/
theorem di_cal_0 : decode prog_2_method_1_code 0 = .ok (.aload_n 0, 1) := by decide +kernel
theorem di_cal_1 : decode prog_2_method_1_code 1 = .ok (.invokespecial 3, 3) := by decide +kernel
theorem di_cal_4 : decode prog_2_method_1_code 4 = .ok (.aload_n 0, 1) := by decide +kernel
theorem di_cal_5 : decode prog_2_method_1_code 5 = .ok (.iconst 0, 1) := by decide +kernel
theorem di_cal_6 : decode prog_2_method_1_code 6 = .ok (.putfield 9, 3) := by decide +kernel
theorem di_cal_9 : decode prog_2_method_1_code 9 = .ok (.return_, 1) := by decide +kernel
def yi_cal : MethodName := ⟨"CellFormatter$Calendar", "<init>", "()V"⟩
set_option maxHeartbeats 4000000 in
set_option maxRecDepth 100000 in
theorem ci_cal (l : Launch) (D : va_G) (d0 d1 : ClassId) (h0 : Nat) (sz : Nat) : Met l yi_cal (.code yi_cal prog_2_method_1_code 1 none :: cf_T) ({ frames := 1, cells := 0, slots := 0, locals := 12 }) (va_Pc [.ref h0] (fun U => U.heap.size = sz ∧ va_P D cf_cl [(h0, .inr (0, [.int 0, .int 0, .int 0, .int 0, .int 0]))] U.heap ∧ va_K D cf_cl [(d0, .int), (d1, .char)] U ∧ va_D (fun _ => True) [(h0, .inr (0, [.int 0, .int 0, .int 0, .int 0, .int 0]))])) (va_Qv (fun _ : Unit => True) (fun _ t => va_P D cf_cl [(h0, .inr (0, [.int 0, .int 0, .int 0, .int 0, .int 0]))] t.heap ∧ va_K D cf_cl [(d0, .int), (d1, .char)] t ∧ va_D (va_A [(h0, .inr (0, [.int 0, .int 0, .int 0, .int 0, .int 0]))] sz) [(h0, .inr (0, [.int 0, .int 0, .int 0, .int 0, .int 0]))]) (va_A [(h0, .inr (0, [.int 0, .int 0, .int 0, .int 0, .int 0]))] sz)) 0 0 (va_A [(h0, .inr (0, [.int 0, .int 0, .int 0, .int 0, .int 0]))] sz) := by
  refine cf_ofW (cc := prog_2_method_1_code) (maxL := 1) (ret := none) (ws' := cf_T) (by decide) rfl ?_
  intro p e s m args below meth c s₁ B hml hv
  rw [show (headSpec (.code yi_cal prog_2_method_1_code 1 none :: cf_T) ({ frames := 1, cells := 0, slots := 0, locals := 12 } : Room)).room = ({ frames := 1, cells := 0, slots := 0, locals := 12 } : Room) from rfl]
  obtain ⟨rfl, hsz, hP, hK, hD0⟩ := hv
  have hx := B.exec
  have hb := B.bytes
  have hr := B.returns
  have hts := atoms_spec (ws := .code yi_cal prog_2_method_1_code 1 none :: cf_T) B.pre
  have hT : ∀ w ∈ cf_T, w.before _ s = true := fun w hw => hts w (List.mem_cons_of_mem _ hw)
  have hown : s.vm.findClass "CellFormatter$Calendar" = some m.cls := findClass_of_methodNamed B.named
  have hlocks := B.notSynchronized
  have hin : meth.name = "<init>" := (name_of_methodNamed B.named B.method).1
  subst hsz
  have hD := hD0.self (sz := s.heap.size)
  generalize hAe : va_A [(h0, .inr (0, [.int 0, .int 0, .int 0, .int 0, .int 0]))] s.heap.size = A at hD ⊢
  have hA : ∀ q : Nat, s.heap.size ≤ q → A q := fun q h => by rw [← hAe]; exact Or.inr h
  have hS : va_S A s.heap s.heap [] := va_S.rf
  have hl := lv_entry ([.ref h0]) (n := 1) (Nat.le_of_ble_eq_true rfl)
  rw [lg_entry_eq]
  generalize (lg_sl ([.ref h0]) ++ List.replicate (1 - (lg_sl ([.ref h0])).length) Slot.unset).toArray = ls at hl ⊢
  have hl : lv_has ls 1 [(0, .ref h0)] := hl
  have hP : va_P D cf_cl [(h0, .inr (0, [.int 0, .int 0, .int 0, .int 0, .int 0]))] s.heap := hP
  refine lv_aload_n hx hb di_cal_0 rfl (lv_at hl 0 rfl) ?_
  refine W.objInit hx hb hown (hT _ (cf_in 223 (by decide +kernel) (by decide +kernel))) (hT _ (cf_in 108 (by decide +kernel) (by decide +kernel))) (hT _ (cf_in 109 (by decide +kernel) (by decide +kernel))) rfl (by rw [hml]; exact hl.1) rfl di_cal_1 (Nat.le_of_ble_eq_true rfl) (Nat.le_of_ble_eq_true rfl) ?_
  refine W.eq (g2 := F0 m 4 ls []) rfl ?_
  refine lv_aload_n hx hb di_cal_4 rfl (lv_at hl 0 rfl) ?_
  refine lv_iconst (v := 0) hx hb di_cal_5 (by decide) ?_
  refine va_put (D := D) (ci := 0) (v := .int 0) (ty := .boolean) (C := RX0) (T := TX0) (N := 5) hx hb hT inX0 tyX0 tyX0_ok nmX0 hown hK hP hD hS 0 rfl rfl 0 (by decide) (hT _ (cf_in 224 (by decide +kernel) (by decide +kernel))) (fun _ h9 => h9) rfl (by decide +kernel) rfl rfl (Nat.le_of_ble_eq_true rfl) di_cal_6 (fun H locs hP hD hS => ?_)
  have hP : va_P D cf_cl [(h0, .inr (0, [.int 0, .int 0, .int 0, .int 0, .int 0]))] H := hP
  have hD : va_D A [(h0, .inr (0, [.int 0, .int 0, .int 0, .int 0, .int 0]))] := hD
  have hP9 := hP.sub (ws' := [(h0, .inr (0, [.int 0, .int 0, .int 0, .int 0, .int 0]))]) [0] rfl
  have hD9 := hD.sub (ws' := [(h0, .inr (0, [.int 0, .int 0, .int 0, .int 0, .int 0]))]) [0] (by decide) rfl
  have hK9 := hK.sub (tys' := [(d0, .int), (d1, .char)]) [0, 1] rfl
  exact W.vret hx hb hr (fun t ht hW => ⟨⟨(), rfl, trivial, by rw [ht]; exact hP9, va_K.moved hW.alike hK9, hD9⟩, hS.F ht⟩) hS.2.2 di_cal_9
