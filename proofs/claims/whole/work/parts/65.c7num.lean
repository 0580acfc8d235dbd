/-! CONSTRUCTORS: what stands in the heap behind each -/
theorem di_num_0 : decode prog_5_method_1_code 0 = .ok (.aload_n 0, 1) := by decide +kernel
theorem di_num_1 : decode prog_5_method_1_code 1 = .ok (.invokespecial 3, 3) := by decide +kernel
theorem di_num_4 : decode prog_5_method_1_code 4 = .ok (.aload_n 0, 1) := by decide +kernel
theorem di_num_5 : decode prog_5_method_1_code 5 = .ok (.aload_n 1, 1) := by decide +kernel
theorem di_num_6 : decode prog_5_method_1_code 6 = .ok (.putfield 9, 3) := by decide +kernel
theorem di_num_9 : decode prog_5_method_1_code 9 = .ok (.aload_n 0, 1) := by decide +kernel
theorem di_num_10 : decode prog_5_method_1_code 10 = .ok (.new 15, 3) := by decide +kernel
theorem di_num_13 : decode prog_5_method_1_code 13 = .ok (.dup, 1) := by decide +kernel
theorem di_num_14 : decode prog_5_method_1_code 14 = .ok (.invokespecial 17, 3) := by decide +kernel
theorem di_num_17 : decode prog_5_method_1_code 17 = .ok (.putfield 18, 3) := by decide +kernel
theorem di_num_20 : decode prog_5_method_1_code 20 = .ok (.aload_n 0, 1) := by decide +kernel
theorem di_num_21 : decode prog_5_method_1_code 21 = .ok (.new 15, 3) := by decide +kernel
theorem di_num_24 : decode prog_5_method_1_code 24 = .ok (.dup, 1) := by decide +kernel
theorem di_num_25 : decode prog_5_method_1_code 25 = .ok (.invokespecial 17, 3) := by decide +kernel
theorem di_num_28 : decode prog_5_method_1_code 28 = .ok (.putfield 22, 3) := by decide +kernel
theorem di_num_31 : decode prog_5_method_1_code 31 = .ok (.return_, 1) := by decide +kernel
def yi_num : MethodName := ⟨"CellFormatter$NumberWriter", "<init>", "(LCellFormatter$Text;)V"⟩
set_option maxHeartbeats 4000000 in
set_option maxRecDepth 100000 in
theorem ci_num (l : Launch) (D : va_G) (d0 d1 : ClassId) (h0 t1 : Nat) (sz : Nat) : Met l yi_num (.code yi_num prog_5_method_1_code 2 none :: cf_T) ({ frames := 2, cells := 2, slots := 4, locals := 32 }) (va_Pc [.ref h0, .ref t1] (fun U => U.heap.size = sz ∧ va_P D cf_cl [(h0, .inr (3, [.null, .null, .null, .int 0, .int 0, .int 0, .int 0]))] U.heap ∧ va_K D cf_cl [(d0, .int), (d1, .char)] U ∧ va_D (fun _ => True) [(h0, .inr (3, [.null, .null, .null, .int 0, .int 0, .int 0, .int 0]))])) (va_Qv (fun _ : Unit => True) (fun _ t => ∃ q10_1 q21_3 : Nat, va_P D cf_cl [(h0, .inr (3, [.ref t1, .ref q10_1, .ref q21_3, .int 0, .int 0, .int 0, .int 0])), (q10_1, .inr (1, [.long 0, .int 0])), (q21_3, .inr (1, [.long 0, .int 0]))] t.heap ∧ va_K D cf_cl [(d0, .int), (d1, .char)] t ∧ va_D (va_A [(h0, .inr (3, [.null, .null, .null, .int 0, .int 0, .int 0, .int 0]))] sz) [(h0, .inr (3, [.ref t1, .ref q10_1, .ref q21_3, .int 0, .int 0, .int 0, .int 0])), (q10_1, .inr (1, [.long 0, .int 0])), (q21_3, .inr (1, [.long 0, .int 0]))]) (va_A [(h0, .inr (3, [.null, .null, .null, .int 0, .int 0, .int 0, .int 0]))] sz)) 2 4 (va_A [(h0, .inr (3, [.null, .null, .null, .int 0, .int 0, .int 0, .int 0]))] sz) := by
  refine cf_ofW (cc := prog_5_method_1_code) (maxL := 2) (ret := none) (ws' := cf_T) (by decide) rfl ?_
  intro p e s m args below meth c s₁ B hml hv
  rw [show (headSpec (.code yi_num prog_5_method_1_code 2 none :: cf_T) ({ frames := 2, cells := 2, slots := 4, locals := 32 } : Room)).room = ({ frames := 2, cells := 2, slots := 4, locals := 32 } : Room) from rfl]
  obtain ⟨rfl, hsz, hP, hK, hD0⟩ := hv
  have hx := B.exec
  have hb := B.bytes
  have hr := B.returns
  have hts := atoms_spec (ws := .code yi_num prog_5_method_1_code 2 none :: cf_T) B.pre
  have hT : ∀ w ∈ cf_T, w.before _ s = true := fun w hw => hts w (List.mem_cons_of_mem _ hw)
  have hown : s.vm.findClass "CellFormatter$NumberWriter" = some m.cls := findClass_of_methodNamed B.named
  have hlocks := B.notSynchronized
  have hin : meth.name = "<init>" := (name_of_methodNamed B.named B.method).1
  subst hsz
  have hD := hD0.self (sz := s.heap.size)
  generalize hAe : va_A [(h0, .inr (3, [.null, .null, .null, .int 0, .int 0, .int 0, .int 0]))] s.heap.size = A at hD ⊢
  have hA : ∀ q : Nat, s.heap.size ≤ q → A q := fun q h => by rw [← hAe]; exact Or.inr h
  have hS : va_S A s.heap s.heap [] := va_S.rf
  have hl := lv_entry ([.ref h0, .ref t1]) (n := 2) (Nat.le_of_ble_eq_true rfl)
  rw [lg_entry_eq]
  generalize (lg_sl ([.ref h0, .ref t1]) ++ List.replicate (2 - (lg_sl ([.ref h0, .ref t1])).length) Slot.unset).toArray = ls at hl ⊢
  have hl : lv_has ls 2 [(0, .ref h0), (1, .ref t1)] := hl
  have hP : va_P D cf_cl [(h0, .inr (3, [.null, .null, .null, .int 0, .int 0, .int 0, .int 0]))] s.heap := hP
  refine lv_aload_n hx hb di_num_0 rfl (lv_at hl 0 rfl) ?_
  refine W.objInit hx hb hown (hT _ (cf_in 268 (by decide +kernel) (by decide +kernel))) (hT _ (cf_in 108 (by decide +kernel) (by decide +kernel))) (hT _ (cf_in 109 (by decide +kernel) (by decide +kernel))) rfl (by rw [hml]; exact hl.1) rfl di_num_1 (Nat.le_of_ble_eq_true rfl) (Nat.le_of_ble_eq_true rfl) ?_
  refine W.eq (g2 := F0 m 4 ls []) rfl ?_
  refine lv_aload_n hx hb di_num_4 rfl (lv_at hl 0 rfl) ?_
  refine lv_aload_n hx hb di_num_5 rfl (lv_at hl 1 rfl) ?_
  refine va_putF (D := D) (ci := 3) (v := .ref t1) (ty := .object "CellFormatter$Text") (C := RX3) (T := TX3) (N := 7) hx hb hT inX3 tyX3 tyX3_ok nmX3 hown hK hP hD hS 0 rfl rfl 0 (by decide) (hT _ (cf_in 282 (by decide +kernel) (by decide +kernel))) (fun _ h9 => h9) rfl hin rfl (by decide +kernel) rfl rfl (Nat.le_of_ble_eq_true rfl) di_num_6 (fun H locs hP hD hS => ?_)
  have hP : va_P D cf_cl [(h0, .inr (3, [.ref t1, .null, .null, .int 0, .int 0, .int 0, .int 0]))] H := hP
  have hD : va_D A [(h0, .inr (3, [.ref t1, .null, .null, .int 0, .int 0, .int 0, .int 0]))] := hD
  refine lv_aload_n hx hb di_num_9 rfl (lv_at hl 0 rfl) ?_
  refine va_new (ci := 1) (fs := [.long 0, .int 0]) (C := RX1) (T := TX1) (N := 2) hx hb hT inX1 tyX1 tyX1_ok hown (hT _ (cf_in 269 (by decide +kernel) (by decide +kernel))) (hT _ (cf_in 270 (by decide +kernel) (by decide +kernel))) (hT _ (cf_in 93 (by decide +kernel) (by decide +kernel))) hK hP hD hS hA rfl (fun j hj => by rcases (show j = 0 ∨ j = 1 by omega) with rfl | rfl <;> rfl) (Nat.le_of_ble_eq_true rfl) (Nat.le_of_ble_eq_true rfl) di_num_10 (fun q10_1 H hP hD hS => ?_)
  have hP : va_P D cf_cl [(h0, .inr (3, [.ref t1, .null, .null, .int 0, .int 0, .int 0, .int 0])), (q10_1, .inr (1, [.long 0, .int 0]))] H := hP
  have hD : va_D A [(h0, .inr (3, [.ref t1, .null, .null, .int 0, .int 0, .int 0, .int 0])), (q10_1, .inr (1, [.long 0, .int 0]))] := hD
  refine W.widen (k := 1) (n := 2) (by omega) (by omega) ?_
  refine lv_dup hx hb di_num_13 rfl ?_
  have hPc := hP.sub (ws' := [(q10_1, .inr (1, [.long 0, .int 0]))]) [1] rfl
  have hDc := hD.sub (ws' := [(q10_1, .inr (1, [.long 0, .int 0]))]) [1] (by decide) rfl
  have hKc := hK.sub (tys' := [(d0, .int), (d1, .char)]) [0, 1] rfl
  have hFc := va_free (wc := [(q10_1, .inr (1, [.long 0, .int 0]))]) hD hS hA [1] rfl
  refine va_callv (va_runI (As := []) (rest := [.ref q10_1, .ref h0]) ⟨hx, hb, hml, hown, hT⟩ (ci_dec l D d0 d1 q10_1 H.size) (cwI 0 hT (cf_good (fun w hw => by rcases List.mem_cons.mp hw with rfl | hw; exact (cf_in 273 (by decide +kernel) (by decide +kernel)); exact hw)) rfl rfl rfl (hT _ (cf_in 93 (by decide +kernel) (by decide +kernel))) (hT _ (cf_in 271 (by decide +kernel) (by decide +kernel))) (hT _ (cf_in 272 (by decide +kernel) (by decide +kernel))) rfl (by decide +kernel) ⟨Nat.le_of_ble_eq_true rfl, Nat.le_of_ble_eq_true rfl⟩) ⟨fun a U g mk q => by obtain ⟨q0, q1, qP, qK, qD⟩ := q; exact ⟨q0, q1, qP, va_K.moved (u := U) (U := U.calling g mk a) (Vm.Alike.refl U.vm) qK, qD⟩, fun U hU hW => ⟨rfl, by rw [hU], by rw [hU]; exact hPc, va_K.moved hW.alike hKc, hDc.weaken (fun _ _ _ _ => trivial)⟩⟩ rfl rfl hl.1 rfl (lv_room (Nat.le_of_ble_eq_true rfl)) di_num_14 ⟨Nat.le_of_ble_eq_true rfl, Nat.le_of_ble_eq_true rfl⟩) hS (fun q _ h => hFc q h) hFc (fun u t H1 locs ht hvm hw hB hz1 hk1 hS => ?_)
  obtain ⟨hP1, hK1, hD1⟩ := hB
  rw [ht] at hP1
  obtain ⟨hP, hD⟩ := va_join (wr := [(h0, .inr (3, [.ref t1, .null, .null, .int 0, .int 0, .int 0, .int 0]))]) (w1 := [(q10_1, .inr (1, [.long 0, .int 0]))]) hP hD [1] [0] rfl rfl (by decide) (by decide) hk1 hFc hP1 hD1
  generalize H1 = H at hP hS ⊢
  have hP : va_P D cf_cl [(h0, .inr (3, [.ref t1, .null, .null, .int 0, .int 0, .int 0, .int 0])), (q10_1, .inr (1, [.long 0, .int 0]))] H := hP
  have hD : va_D A [(h0, .inr (3, [.ref t1, .null, .null, .int 0, .int 0, .int 0, .int 0])), (q10_1, .inr (1, [.long 0, .int 0]))] := hD
  refine W.widen (k := 1) (n := 2) (by omega) (by omega) ?_
  refine va_putF (D := D) (ci := 3) (v := .ref q10_1) (ty := .object "CellFormatter$Decimal") (C := RX3) (T := TX3) (N := 7) hx hb hT inX3 tyX3 tyX3_ok nmX3 hown hK hP hD hS 0 rfl rfl 1 (by decide) (hT _ (cf_in 283 (by decide +kernel) (by decide +kernel))) (fun _ h9 => h9) rfl hin rfl (by decide +kernel) rfl rfl (Nat.le_of_ble_eq_true rfl) di_num_17 (fun H locs hP hD hS => ?_)
  have hP : va_P D cf_cl [(h0, .inr (3, [.ref t1, .ref q10_1, .null, .int 0, .int 0, .int 0, .int 0])), (q10_1, .inr (1, [.long 0, .int 0]))] H := hP
  have hD : va_D A [(h0, .inr (3, [.ref t1, .ref q10_1, .null, .int 0, .int 0, .int 0, .int 0])), (q10_1, .inr (1, [.long 0, .int 0]))] := hD
  refine lv_aload_n hx hb di_num_20 rfl (lv_at hl 0 rfl) ?_
  refine va_new (ci := 1) (fs := [.long 0, .int 0]) (C := RX1) (T := TX1) (N := 2) hx hb hT inX1 tyX1 tyX1_ok hown (hT _ (cf_in 269 (by decide +kernel) (by decide +kernel))) (hT _ (cf_in 270 (by decide +kernel) (by decide +kernel))) (hT _ (cf_in 93 (by decide +kernel) (by decide +kernel))) hK hP hD hS hA rfl (fun j hj => by rcases (show j = 0 ∨ j = 1 by omega) with rfl | rfl <;> rfl) (Nat.le_of_ble_eq_true rfl) (Nat.le_of_ble_eq_true rfl) di_num_21 (fun q21_3 H hP hD hS => ?_)
  have hP : va_P D cf_cl [(h0, .inr (3, [.ref t1, .ref q10_1, .null, .int 0, .int 0, .int 0, .int 0])), (q10_1, .inr (1, [.long 0, .int 0])), (q21_3, .inr (1, [.long 0, .int 0]))] H := hP
  have hD : va_D A [(h0, .inr (3, [.ref t1, .ref q10_1, .null, .int 0, .int 0, .int 0, .int 0])), (q10_1, .inr (1, [.long 0, .int 0])), (q21_3, .inr (1, [.long 0, .int 0]))] := hD
  refine W.widen (k := 2) (n := 4) (by omega) (by omega) ?_
  refine lv_dup hx hb di_num_24 rfl ?_
  have hPc := hP.sub (ws' := [(q21_3, .inr (1, [.long 0, .int 0]))]) [2] rfl
  have hDc := hD.sub (ws' := [(q21_3, .inr (1, [.long 0, .int 0]))]) [2] (by decide) rfl
  have hKc := hK.sub (tys' := [(d0, .int), (d1, .char)]) [0, 1] rfl
  have hFc := va_free (wc := [(q21_3, .inr (1, [.long 0, .int 0]))]) hD hS hA [2] rfl
  refine va_callv (va_runI (As := []) (rest := [.ref q21_3, .ref h0]) ⟨hx, hb, hml, hown, hT⟩ (ci_dec l D d0 d1 q21_3 H.size) (cwI 0 hT (cf_good (fun w hw => by rcases List.mem_cons.mp hw with rfl | hw; exact (cf_in 273 (by decide +kernel) (by decide +kernel)); exact hw)) rfl rfl rfl (hT _ (cf_in 93 (by decide +kernel) (by decide +kernel))) (hT _ (cf_in 271 (by decide +kernel) (by decide +kernel))) (hT _ (cf_in 272 (by decide +kernel) (by decide +kernel))) rfl (by decide +kernel) ⟨Nat.le_of_ble_eq_true rfl, Nat.le_of_ble_eq_true rfl⟩) ⟨fun a U g mk q => by obtain ⟨q0, q1, qP, qK, qD⟩ := q; exact ⟨q0, q1, qP, va_K.moved (u := U) (U := U.calling g mk a) (Vm.Alike.refl U.vm) qK, qD⟩, fun U hU hW => ⟨rfl, by rw [hU], by rw [hU]; exact hPc, va_K.moved hW.alike hKc, hDc.weaken (fun _ _ _ _ => trivial)⟩⟩ rfl rfl hl.1 rfl (lv_room (Nat.le_of_ble_eq_true rfl)) di_num_25 ⟨Nat.le_of_ble_eq_true rfl, Nat.le_of_ble_eq_true rfl⟩) hS (fun q _ h => hFc q h) hFc (fun u t H1 locs ht hvm hw hB hz1 hk1 hS => ?_)
  obtain ⟨hP1, hK1, hD1⟩ := hB
  rw [ht] at hP1
  obtain ⟨hP, hD⟩ := va_join (wr := [(h0, .inr (3, [.ref t1, .ref q10_1, .null, .int 0, .int 0, .int 0, .int 0])), (q10_1, .inr (1, [.long 0, .int 0]))]) (w1 := [(q21_3, .inr (1, [.long 0, .int 0]))]) hP hD [2] [0, 1] rfl rfl (by decide) (by decide) hk1 hFc hP1 hD1
  generalize H1 = H at hP hS ⊢
  have hP : va_P D cf_cl [(h0, .inr (3, [.ref t1, .ref q10_1, .null, .int 0, .int 0, .int 0, .int 0])), (q10_1, .inr (1, [.long 0, .int 0])), (q21_3, .inr (1, [.long 0, .int 0]))] H := hP
  have hD : va_D A [(h0, .inr (3, [.ref t1, .ref q10_1, .null, .int 0, .int 0, .int 0, .int 0])), (q10_1, .inr (1, [.long 0, .int 0])), (q21_3, .inr (1, [.long 0, .int 0]))] := hD
  refine W.widen (k := 2) (n := 4) (by omega) (by omega) ?_
  refine va_putF (D := D) (ci := 3) (v := .ref q21_3) (ty := .object "CellFormatter$Decimal") (C := RX3) (T := TX3) (N := 7) hx hb hT inX3 tyX3 tyX3_ok nmX3 hown hK hP hD hS 0 rfl rfl 2 (by decide) (hT _ (cf_in 284 (by decide +kernel) (by decide +kernel))) (fun _ h9 => h9) rfl hin rfl (by decide +kernel) rfl rfl (Nat.le_of_ble_eq_true rfl) di_num_28 (fun H locs hP hD hS => ?_)
  have hP : va_P D cf_cl [(h0, .inr (3, [.ref t1, .ref q10_1, .ref q21_3, .int 0, .int 0, .int 0, .int 0])), (q10_1, .inr (1, [.long 0, .int 0])), (q21_3, .inr (1, [.long 0, .int 0]))] H := hP
  have hD : va_D A [(h0, .inr (3, [.ref t1, .ref q10_1, .ref q21_3, .int 0, .int 0, .int 0, .int 0])), (q10_1, .inr (1, [.long 0, .int 0])), (q21_3, .inr (1, [.long 0, .int 0]))] := hD
  have hP9 := hP.sub (ws' := [(h0, .inr (3, [.ref t1, .ref q10_1, .ref q21_3, .int 0, .int 0, .int 0, .int 0])), (q10_1, .inr (1, [.long 0, .int 0])), (q21_3, .inr (1, [.long 0, .int 0]))]) [0, 1, 2] rfl
  have hD9 := hD.sub (ws' := [(h0, .inr (3, [.ref t1, .ref q10_1, .ref q21_3, .int 0, .int 0, .int 0, .int 0])), (q10_1, .inr (1, [.long 0, .int 0])), (q21_3, .inr (1, [.long 0, .int 0]))]) [0, 1, 2] (by decide) rfl
  have hK9 := hK.sub (tys' := [(d0, .int), (d1, .char)]) [0, 1] rfl
  exact W.vret hx hb hr (fun t ht hW => ⟨⟨(), rfl, trivial, q10_1, q21_3, by rw [ht]; exact hP9, va_K.moved hW.alike hK9, hD9⟩, hS.F ht⟩) hS.2.2 di_num_31
