/-! THE REFERENCE: letters, token, compile's scan -/
theorem cf_pI_k {h : cf_H} {o k a b : Nat} {x : Int32} (hb : b ≠ k) : (cf_pI h o k x).1 a b = h.1 a b := cf_u2_k h.1 x hb
theorem cf_pI_o {h : cf_H} {o k a b : Nat} {x : Int32} (ha : a ≠ o) : (cf_pI h o k x).1 a b = h.1 a b := cf_u2_o h.1 x ha
theorem cf_pI_s {h : cf_H} {o k : Nat} {x : Int32} : (cf_pI h o k x).1 o k = x := cf_u2_same h.1 o k x
theorem cf_pJ_k {h : cf_H} {o k a b : Nat} {x : Int64} (hb : b ≠ k) : (cf_pJ h o k x).2.1 a b = h.2.1 a b := cf_u2_k h.2.1 x hb
theorem cf_pJ_o {h : cf_H} {o k a b : Nat} {x : Int64} (ha : a ≠ o) : (cf_pJ h o k x).2.1 a b = h.2.1 a b := cf_u2_o h.2.1 x ha
theorem cf_pJ_s {h : cf_H} {o k : Nat} {x : Int64} : (cf_pJ h o k x).2.1 o k = x := cf_u2_same h.2.1 o k x
theorem cf_pA_o {h : cf_H} {o a : Nat} {i x : Int32} (ha : a ≠ o) : (cf_pA h o i x).2.2.2 a = h.2.2.2 a := cf_u1_o h.2.2.2 _ ha
theorem cf_pA_s {h : cf_H} {o : Nat} {i x : Int32} : (cf_pA h o i x).2.2.2 o = upd (h.2.2.2 o) i.toNatClampNeg x := cf_u1_same h.2.2.2 o _
theorem cf_pA_1 {h : cf_H} {o : Nat} {i x : Int32} : (cf_pA h o i x).1 = h.1 := rfl
theorem cf_pI_4 {h : cf_H} {o k : Nat} {x : Int32} : (cf_pI h o k x).2.2.2 = h.2.2.2 := rfl
def r_bare (x : Int32) : Bool := decide (x = 32) || decide (x = 33) || decide (x = 36) || decide (x = 38) || decide (x = 39) || decide (x = 40) || decide (x = 41) || decide (x = 43) || decide (x = 45) || decide (x = 47) || decide (x = 58) || decide (x = 61) || decide (x = 94) || decide (x = 123) || decide (x = 125) || decide (x = 126)
def r_same (g : Nat → Int32) (c : Int32) : Nat → Nat → Nat
  | _, 0 => 0
  | q, k + 1 => bif decide (g q = c) then 1 + r_same g c (q + 1) k else 0
theorem r_same_le (g : Nat → Int32) (c : Int32) : ∀ k q, r_same g c q k ≤ k := by
  intro k
  induction k with
  | zero => intro q; exact Nat.le_refl _
  | succ k ih =>
    intro q
    unfold r_same
    cases decide (g q = c) with
    | false => exact Nat.zero_le _
    | true => have := ih (q + 1); show 1 + _ ≤ _; omega
def r_fit (c m : Int32) : Bool := if c = 121 then decide (m = 2) || decide (m = 4) else if c = 109 ∨ c = 100 then !decide (3 < m) else !decide (2 < m)
def r_let (g : Nat → Int32) (n p : Nat) : r_T := if r_fit (g p) (nI (r_same g (g p) p (n - p))) = true then (9, g p, nI (r_same g (g p) p (n - p)), p + r_same g (g p) p (n - p)) else (0, 0, 0, 0)
def r_tkD (g : Nat → Int32) (n p : Nat) : r_T := if g p = 91 then r_brk g p else if g p = 121 ∨ g p = 109 ∨ g p = 100 ∨ g p = 104 ∨ g p = 115 then r_let g n p else if g p = 65 ∧ g (p + 1) = 77 ∧ g (p + 2) = 47 ∧ g (p + 3) = 80 ∧ g (p + 4) = 77 then (10, 0, 0, p + 5) else (0, 0, 0, 0)
def r_tkC (g : Nat → Int32) (n p : Nat) : r_T := if r_bare (g p) = true then (1, nI p, nI (p + 1), p + 1) else if g p = 48 ∨ g p = 35 ∨ g p = 63 then (2, g p, 0, p + 1) else if g p = 46 then (3, 0, 0, p + 1) else if g p = 44 then (4, 0, 0, p + 1) else if g p = 37 then (5, 0, 0, p + 1) else if g p = 69 ∧ (g (p + 1) = 43 ∨ g (p + 1) = 45) then (6, g (p + 1), 0, p + 2) else r_tkD g n p
def r_tkB (g : Nat → Int32) (n p : Nat) : r_T := if g p = 95 ∧ ¬ g (p + 1) = 0 then (1, -1, 0, p + 2) else r_tkC g n p
def r_tok (g : Nat → Int32) (n p : Nat) : r_T := if g p = 34 then r_quo g n p else if g p = 92 ∧ ¬ g (p + 1) = 0 then (1, nI (p + 1), nI (p + 2), p + 2) else r_tkB g n p

set_option maxHeartbeats 4000000 in
set_option maxRecDepth 100000 in
theorem s_mod_bare {h : cf_H} {P : Option Value → cf_H → Prop} {x : Int32} (k : P (some (.int (cf_b (r_bare x)))) h) : RP k_mod_bare 0 [(0, .int x)] [] h P := by
  refine rp_iload_n (i := 0) d_mod_bare_0 rfl rfl ?_
  refine rp_bipush (v := 32) d_mod_bare_1 (by decide) ?_
  refine rp_icmp_eq (tgt := 96) d_mod_bare_3 (by decide) (fun c3 => ?_) (fun c3 => ?_)
  · refine rp_iconst (v := 1) d_mod_bare_96 (by decide) ?_
    refine rp_goto (tgt := 101) d_mod_bare_97 (by decide) ?_
    refine rp_ireturn (ty := .boolean) d_mod_bare_101 rfl (by first | rfl | decide | assumption) ?_
    simpa [cf_b, r_bare, c3] using k
  · refine rp_iload_n (i := 0) d_mod_bare_6 rfl rfl ?_
    refine rp_bipush (v := 33) d_mod_bare_7 (by decide) ?_
    refine rp_icmp_eq (tgt := 96) d_mod_bare_9 (by decide) (fun c9 => ?_) (fun c9 => ?_)
    · refine rp_iconst (v := 1) d_mod_bare_96 (by decide) ?_
      refine rp_goto (tgt := 101) d_mod_bare_97 (by decide) ?_
      refine rp_ireturn (ty := .boolean) d_mod_bare_101 rfl (by first | rfl | decide | assumption) ?_
      simpa [cf_b, r_bare, c3, c9] using k
    · refine rp_iload_n (i := 0) d_mod_bare_12 rfl rfl ?_
      refine rp_bipush (v := 36) d_mod_bare_13 (by decide) ?_
      refine rp_icmp_eq (tgt := 96) d_mod_bare_15 (by decide) (fun c15 => ?_) (fun c15 => ?_)
      · refine rp_iconst (v := 1) d_mod_bare_96 (by decide) ?_
        refine rp_goto (tgt := 101) d_mod_bare_97 (by decide) ?_
        refine rp_ireturn (ty := .boolean) d_mod_bare_101 rfl (by first | rfl | decide | assumption) ?_
        simpa [cf_b, r_bare, c3, c9, c15] using k
      · refine rp_iload_n (i := 0) d_mod_bare_18 rfl rfl ?_
        refine rp_bipush (v := 38) d_mod_bare_19 (by decide) ?_
        refine rp_icmp_eq (tgt := 96) d_mod_bare_21 (by decide) (fun c21 => ?_) (fun c21 => ?_)
        · refine rp_iconst (v := 1) d_mod_bare_96 (by decide) ?_
          refine rp_goto (tgt := 101) d_mod_bare_97 (by decide) ?_
          refine rp_ireturn (ty := .boolean) d_mod_bare_101 rfl (by first | rfl | decide | assumption) ?_
          simpa [cf_b, r_bare, c3, c9, c15, c21] using k
        · refine rp_iload_n (i := 0) d_mod_bare_24 rfl rfl ?_
          refine rp_bipush (v := 39) d_mod_bare_25 (by decide) ?_
          refine rp_icmp_eq (tgt := 96) d_mod_bare_27 (by decide) (fun c27 => ?_) (fun c27 => ?_)
          · refine rp_iconst (v := 1) d_mod_bare_96 (by decide) ?_
            refine rp_goto (tgt := 101) d_mod_bare_97 (by decide) ?_
            refine rp_ireturn (ty := .boolean) d_mod_bare_101 rfl (by first | rfl | decide | assumption) ?_
            simpa [cf_b, r_bare, c3, c9, c15, c21, c27] using k
          · refine rp_iload_n (i := 0) d_mod_bare_30 rfl rfl ?_
            refine rp_bipush (v := 40) d_mod_bare_31 (by decide) ?_
            refine rp_icmp_eq (tgt := 96) d_mod_bare_33 (by decide) (fun c33 => ?_) (fun c33 => ?_)
            · refine rp_iconst (v := 1) d_mod_bare_96 (by decide) ?_
              refine rp_goto (tgt := 101) d_mod_bare_97 (by decide) ?_
              refine rp_ireturn (ty := .boolean) d_mod_bare_101 rfl (by first | rfl | decide | assumption) ?_
              simpa [cf_b, r_bare, c3, c9, c15, c21, c27, c33] using k
            · refine rp_iload_n (i := 0) d_mod_bare_36 rfl rfl ?_
              refine rp_bipush (v := 41) d_mod_bare_37 (by decide) ?_
              refine rp_icmp_eq (tgt := 96) d_mod_bare_39 (by decide) (fun c39 => ?_) (fun c39 => ?_)
              · refine rp_iconst (v := 1) d_mod_bare_96 (by decide) ?_
                refine rp_goto (tgt := 101) d_mod_bare_97 (by decide) ?_
                refine rp_ireturn (ty := .boolean) d_mod_bare_101 rfl (by first | rfl | decide | assumption) ?_
                simpa [cf_b, r_bare, c3, c9, c15, c21, c27, c33, c39] using k
              · refine rp_iload_n (i := 0) d_mod_bare_42 rfl rfl ?_
                refine rp_bipush (v := 43) d_mod_bare_43 (by decide) ?_
                refine rp_icmp_eq (tgt := 96) d_mod_bare_45 (by decide) (fun c45 => ?_) (fun c45 => ?_)
                · refine rp_iconst (v := 1) d_mod_bare_96 (by decide) ?_
                  refine rp_goto (tgt := 101) d_mod_bare_97 (by decide) ?_
                  refine rp_ireturn (ty := .boolean) d_mod_bare_101 rfl (by first | rfl | decide | assumption) ?_
                  simpa [cf_b, r_bare, c3, c9, c15, c21, c27, c33, c39, c45] using k
                · refine rp_iload_n (i := 0) d_mod_bare_48 rfl rfl ?_
                  refine rp_bipush (v := 45) d_mod_bare_49 (by decide) ?_
                  refine rp_icmp_eq (tgt := 96) d_mod_bare_51 (by decide) (fun c51 => ?_) (fun c51 => ?_)
                  · refine rp_iconst (v := 1) d_mod_bare_96 (by decide) ?_
                    refine rp_goto (tgt := 101) d_mod_bare_97 (by decide) ?_
                    refine rp_ireturn (ty := .boolean) d_mod_bare_101 rfl (by first | rfl | decide | assumption) ?_
                    simpa [cf_b, r_bare, c3, c9, c15, c21, c27, c33, c39, c45, c51] using k
                  · refine rp_iload_n (i := 0) d_mod_bare_54 rfl rfl ?_
                    refine rp_bipush (v := 47) d_mod_bare_55 (by decide) ?_
                    refine rp_icmp_eq (tgt := 96) d_mod_bare_57 (by decide) (fun c57 => ?_) (fun c57 => ?_)
                    · refine rp_iconst (v := 1) d_mod_bare_96 (by decide) ?_
                      refine rp_goto (tgt := 101) d_mod_bare_97 (by decide) ?_
                      refine rp_ireturn (ty := .boolean) d_mod_bare_101 rfl (by first | rfl | decide | assumption) ?_
                      simpa [cf_b, r_bare, c3, c9, c15, c21, c27, c33, c39, c45, c51, c57] using k
                    · refine rp_iload_n (i := 0) d_mod_bare_60 rfl rfl ?_
                      refine rp_bipush (v := 58) d_mod_bare_61 (by decide) ?_
                      refine rp_icmp_eq (tgt := 96) d_mod_bare_63 (by decide) (fun c63 => ?_) (fun c63 => ?_)
                      · refine rp_iconst (v := 1) d_mod_bare_96 (by decide) ?_
                        refine rp_goto (tgt := 101) d_mod_bare_97 (by decide) ?_
                        refine rp_ireturn (ty := .boolean) d_mod_bare_101 rfl (by first | rfl | decide | assumption) ?_
                        simpa [cf_b, r_bare, c3, c9, c15, c21, c27, c33, c39, c45, c51, c57, c63] using k
                      · refine rp_iload_n (i := 0) d_mod_bare_66 rfl rfl ?_
                        refine rp_bipush (v := 61) d_mod_bare_67 (by decide) ?_
                        refine rp_icmp_eq (tgt := 96) d_mod_bare_69 (by decide) (fun c69 => ?_) (fun c69 => ?_)
                        · refine rp_iconst (v := 1) d_mod_bare_96 (by decide) ?_
                          refine rp_goto (tgt := 101) d_mod_bare_97 (by decide) ?_
                          refine rp_ireturn (ty := .boolean) d_mod_bare_101 rfl (by first | rfl | decide | assumption) ?_
                          simpa [cf_b, r_bare, c3, c9, c15, c21, c27, c33, c39, c45, c51, c57, c63, c69] using k
                        · refine rp_iload_n (i := 0) d_mod_bare_72 rfl rfl ?_
                          refine rp_bipush (v := 94) d_mod_bare_73 (by decide) ?_
                          refine rp_icmp_eq (tgt := 96) d_mod_bare_75 (by decide) (fun c75 => ?_) (fun c75 => ?_)
                          · refine rp_iconst (v := 1) d_mod_bare_96 (by decide) ?_
                            refine rp_goto (tgt := 101) d_mod_bare_97 (by decide) ?_
                            refine rp_ireturn (ty := .boolean) d_mod_bare_101 rfl (by first | rfl | decide | assumption) ?_
                            simpa [cf_b, r_bare, c3, c9, c15, c21, c27, c33, c39, c45, c51, c57, c63, c69, c75] using k
                          · refine rp_iload_n (i := 0) d_mod_bare_78 rfl rfl ?_
                            refine rp_bipush (v := 123) d_mod_bare_79 (by decide) ?_
                            refine rp_icmp_eq (tgt := 96) d_mod_bare_81 (by decide) (fun c81 => ?_) (fun c81 => ?_)
                            · refine rp_iconst (v := 1) d_mod_bare_96 (by decide) ?_
                              refine rp_goto (tgt := 101) d_mod_bare_97 (by decide) ?_
                              refine rp_ireturn (ty := .boolean) d_mod_bare_101 rfl (by first | rfl | decide | assumption) ?_
                              simpa [cf_b, r_bare, c3, c9, c15, c21, c27, c33, c39, c45, c51, c57, c63, c69, c75, c81] using k
                            · refine rp_iload_n (i := 0) d_mod_bare_84 rfl rfl ?_
                              refine rp_bipush (v := 125) d_mod_bare_85 (by decide) ?_
                              refine rp_icmp_eq (tgt := 96) d_mod_bare_87 (by decide) (fun c87 => ?_) (fun c87 => ?_)
                              · refine rp_iconst (v := 1) d_mod_bare_96 (by decide) ?_
                                refine rp_goto (tgt := 101) d_mod_bare_97 (by decide) ?_
                                refine rp_ireturn (ty := .boolean) d_mod_bare_101 rfl (by first | rfl | decide | assumption) ?_
                                simpa [cf_b, r_bare, c3, c9, c15, c21, c27, c33, c39, c45, c51, c57, c63, c69, c75, c81, c87] using k
                              · refine rp_iload_n (i := 0) d_mod_bare_90 rfl rfl ?_
                                refine rp_bipush (v := 126) d_mod_bare_91 (by decide) ?_
                                refine rp_icmp_ne (tgt := 100) d_mod_bare_93 (by decide) (fun c93 => ?_) (fun c93 => ?_)
                                · refine rp_iconst (v := 0) d_mod_bare_100 (by decide) ?_
                                  refine rp_ireturn (ty := .boolean) d_mod_bare_101 rfl (by first | rfl | decide | assumption) ?_
                                  simpa [cf_b, r_bare, c3, c9, c15, c21, c27, c33, c39, c45, c51, c57, c63, c69, c75, c81, c87, c93] using k
                                · refine rp_iconst (v := 1) d_mod_bare_96 (by decide) ?_
                                  refine rp_goto (tgt := 101) d_mod_bare_97 (by decide) ?_
                                  refine rp_ireturn (ty := .boolean) d_mod_bare_101 rfl (by first | rfl | decide | assumption) ?_
                                  simpa [cf_b, r_bare, c3, c9, c15, c21, c27, c33, c39, c45, c51, c57, c63, c69, c75, c81, c87, c93] using k
set_option maxHeartbeats 4000000 in
set_option maxRecDepth 100000 in
theorem l_mod_letters {h : cf_H} {P : Option Value → cf_H → Prop} (hR : cf_ok h) {n : Nat} (hn : h.1 19 0 = nI n) (h40 : n ≤ 40) {p : Nat} {c : Int32} (hc : ¬ c = 0) (hp : p < 2 ^ 28) : ∀ (r d : Nat), r = n - (p + d) → d < 2 ^ 28 → (k : RP k_mod_letters 25 [(0, .ref 19), (1, .int (nI p)), (2, .int c), (3, .int (nI (d + r_same (r_g h n) c (p + d) r)))] [] h P) → RP k_mod_letters 8 [(0, .ref 19), (1, .int (nI p)), (2, .int c), (3, .int (nI d))] [] h P := by
  intro r
  induction r with
  | zero =>
    intro d e hd k
    have hz : r_g h n (p + d) = 0 := by rw [r_g, r_at, if_neg (by omega)]
    refine rp_aload_n (i := 0) d_mod_letters_8 rfl rfl ?_
    refine rp_iload_n (i := 1) d_mod_letters_9 rfl rfl ?_
    refine rp_iload_n (i := 3) d_mod_letters_10 rfl rfl ?_
    refine rp_iadd d_mod_letters_11 ?_
    refine rp_callV1 d_mod_letters_12 q_mod_letters_51 (Or.inl ⟨_, _, _, rfl, rfl⟩) (Nat.le_of_ble_eq_true rfl) (Nat.le_of_ble_eq_true rfl) ?_
    refine s_mod_at (j := p + d) hR hn h40 (nI_add p d) (by omega) ?_
    refine rp_iload_n (i := 2) d_mod_letters_15 rfl rfl ?_
    refine rp_icmp_ne (tgt := 25) d_mod_letters_16 (by decide) (fun c16 => ?_) (fun c16 => ?_)
    · exact rp_lv _ rfl k
    · exact absurd (c16.symm.trans hz) hc
  | succ r ih =>
    intro d e hd k
    refine rp_aload_n (i := 0) d_mod_letters_8 rfl rfl ?_
    refine rp_iload_n (i := 1) d_mod_letters_9 rfl rfl ?_
    refine rp_iload_n (i := 3) d_mod_letters_10 rfl rfl ?_
    refine rp_iadd d_mod_letters_11 ?_
    refine rp_callV1 d_mod_letters_12 q_mod_letters_51 (Or.inl ⟨_, _, _, rfl, rfl⟩) (Nat.le_of_ble_eq_true rfl) (Nat.le_of_ble_eq_true rfl) ?_
    refine s_mod_at (j := p + d) hR hn h40 (nI_add p d) (by omega) ?_
    refine rp_iload_n (i := 2) d_mod_letters_15 rfl rfl ?_
    refine rp_icmp_ne (tgt := 25) d_mod_letters_16 (by decide) (fun c16 => ?_) (fun c16 => ?_)
    · rw [r_same, show decide (r_g h n (p + d) = c) = false by simp [c16]] at k
      exact rp_lv _ rfl k
    · refine rp_iinc (i := 3) (y := 1) d_mod_letters_19 rfl (by decide) rfl (Nat.le_of_ble_eq_true rfl) ?_
      refine rp_goto (tgt := 8) d_mod_letters_22 (by decide) ?_
      rw [r_same, show decide (r_g h n (p + d) = c) = true by simp [c16]] at k
      refine rp_lv [(0, .ref 19), (1, .int (nI p)), (2, .int c), (3, .int (nI (d + 1)))] (by simp only [nI_succ]; rfl) ?_
      refine ih (d + 1) (by omega) (by omega) ?_
      rw [show d + 1 + r_same (r_g h n) c (p + (d + 1)) r = d + (1 + r_same (r_g h n) c (p + d + 1) r) by rw [Nat.add_assoc, ← Nat.add_assoc p]]
      exact k
set_option maxHeartbeats 4000000 in
set_option maxRecDepth 100000 in
theorem s_mod_letters {h : cf_H} {P : Option Value → cf_H → Prop} (hR : cf_ok h) {n : Nat} (hn : h.1 19 0 = nI n) (h40 : n ≤ 40) {x : Int32} {p : Nat} (hx : x = nI p) (hp : p < 2 ^ 26) (hc : ¬ r_g h n p = 0) (k : P none (r_put h (r_let (r_g h n) n p))) : RP k_mod_letters 0 [(0, .ref 19), (1, .int x)] [] h P := by
  subst hx
  refine rp_aload_n (i := 0) d_mod_letters_0 rfl rfl ?_
  refine rp_iload_n (i := 1) d_mod_letters_1 rfl rfl ?_
  refine rp_callV1 d_mod_letters_2 q_mod_letters_51 (Or.inl ⟨_, _, _, rfl, rfl⟩) (Nat.le_of_ble_eq_true rfl) (Nat.le_of_ble_eq_true rfl) ?_
  refine s_mod_at (j := p) hR hn h40 (rfl) (by omega) ?_
  refine rp_istore_n (i := 2) d_mod_letters_5 rfl rfl (Nat.le_of_ble_eq_true rfl) ?_
  refine rp_iconst (v := 0) d_mod_letters_6 (by decide) ?_
  refine rp_istore_n (i := 3) d_mod_letters_7 rfl rfl (Nat.le_of_ble_eq_true rfl) ?_
  refine rp_lv [(0, .ref 19), (1, .int (nI p)), (2, .int (r_g h n p)), (3, .int (nI 0))] rfl ?_
  refine l_mod_letters hR hn h40 hc (by omega) (n - p) 0 (by omega) (by omega) ?_
  rw [Nat.zero_add, Nat.add_zero]
  have hle := r_same_le (r_g h n) (r_g h n p) (n - p) p
  rw [r_let] at k
  generalize r_same (r_g h n) (r_g h n p) p (n - p) = m at k hle ⊢
  generalize r_g h n p = c at k ⊢
  refine rp_iload_n (i := 2) d_mod_letters_25 rfl rfl ?_
  refine rp_bipush (v := 121) d_mod_letters_26 (by decide) ?_
  refine rp_icmp_ne (tgt := 49) d_mod_letters_28 (by decide) (fun c28 => ?_) (fun c28 => ?_)
  · refine rp_iload_n (i := 2) d_mod_letters_49 rfl rfl ?_
    refine rp_bipush (v := 109) d_mod_letters_50 (by decide) ?_
    refine rp_icmp_eq (tgt := 61) d_mod_letters_52 (by decide) (fun c52 => ?_) (fun c52 => ?_)
    · refine rp_iload_n (i := 3) d_mod_letters_61 rfl rfl ?_
      refine rp_iconst (v := 3) d_mod_letters_62 (by decide) ?_
      refine rp_icmp_gt (tgt := 70) d_mod_letters_63 (by decide) (fun c63 => ?_) (fun c63 => ?_)
      · refine rp_iconst (v := 0) d_mod_letters_70 (by decide) ?_
        refine rp_goto (tgt := 84) d_mod_letters_71 (by decide) ?_
        refine rp_istore (i := 4) d_mod_letters_84 rfl (Nat.le_of_ble_eq_true rfl) ?_
        refine rp_iload (i := 4) d_mod_letters_86 rfl ?_
        refine rp_if_eq (tgt := 102) d_mod_letters_88 (by decide) (fun c88 => ?_) (fun c88 => ?_)
        · refine rp_return d_mod_letters_102 rfl ?_
          first
          | (rw [if_pos (by simp [r_fit, c28, c52, c63, c88]), r_put_1 _ (by decide), ← nI_add] at k; exact k)
          | (rw [if_neg (by simp [r_fit, c28, c52, c63, c88]), r_put_0] at k; exact k)
        · exact absurd (by decide) c88
      · refine rp_iconst (v := 1) d_mod_letters_66 (by decide) ?_
        refine rp_goto (tgt := 84) d_mod_letters_67 (by decide) ?_
        refine rp_istore (i := 4) d_mod_letters_84 rfl (Nat.le_of_ble_eq_true rfl) ?_
        refine rp_iload (i := 4) d_mod_letters_86 rfl ?_
        refine rp_if_eq (tgt := 102) d_mod_letters_88 (by decide) (fun c88 => ?_) (fun c88 => ?_)
        · exact absurd c88 (by decide)
        · refine rp_aload_n (i := 0) d_mod_letters_91 rfl rfl ?_
          refine rp_bipush (v := 9) d_mod_letters_92 (by decide) ?_
          refine rp_iload_n (i := 2) d_mod_letters_94 rfl rfl ?_
          refine rp_iload_n (i := 3) d_mod_letters_95 rfl rfl ?_
          refine rp_iload_n (i := 1) d_mod_letters_96 rfl rfl ?_
          refine rp_iload_n (i := 3) d_mod_letters_97 rfl rfl ?_
          refine rp_iadd d_mod_letters_98 ?_
          refine rp_callV4 d_mod_letters_99 q_mod_letters_55 (Or.inl ⟨_, _, _, rfl, rfl⟩) (Nat.le_of_ble_eq_true rfl) (Nat.le_of_ble_eq_true rfl) ?_
          refine s_mod_meet ?_
          refine rp_return d_mod_letters_102 rfl ?_
          first
          | (rw [if_pos (by simp [r_fit, c28, c52, c63, c88]), r_put_1 _ (by decide), ← nI_add] at k; exact k)
          | (rw [if_neg (by simp [r_fit, c28, c52, c63, c88]), r_put_0] at k; exact k)
    · refine rp_iload_n (i := 2) d_mod_letters_55 rfl rfl ?_
      refine rp_bipush (v := 100) d_mod_letters_56 (by decide) ?_
      refine rp_icmp_ne (tgt := 74) d_mod_letters_58 (by decide) (fun c58 => ?_) (fun c58 => ?_)
      · refine rp_iload_n (i := 3) d_mod_letters_74 rfl rfl ?_
        refine rp_iconst (v := 2) d_mod_letters_75 (by decide) ?_
        refine rp_icmp_gt (tgt := 83) d_mod_letters_76 (by decide) (fun c76 => ?_) (fun c76 => ?_)
        · refine rp_iconst (v := 0) d_mod_letters_83 (by decide) ?_
          refine rp_istore (i := 4) d_mod_letters_84 rfl (Nat.le_of_ble_eq_true rfl) ?_
          refine rp_iload (i := 4) d_mod_letters_86 rfl ?_
          refine rp_if_eq (tgt := 102) d_mod_letters_88 (by decide) (fun c88 => ?_) (fun c88 => ?_)
          · refine rp_return d_mod_letters_102 rfl ?_
            first
            | (rw [if_pos (by simp [r_fit, c28, c52, c58, c76, c88]), r_put_1 _ (by decide), ← nI_add] at k; exact k)
            | (rw [if_neg (by simp [r_fit, c28, c52, c58, c76, c88]), r_put_0] at k; exact k)
          · exact absurd (by decide) c88
        · refine rp_iconst (v := 1) d_mod_letters_79 (by decide) ?_
          refine rp_goto (tgt := 84) d_mod_letters_80 (by decide) ?_
          refine rp_istore (i := 4) d_mod_letters_84 rfl (Nat.le_of_ble_eq_true rfl) ?_
          refine rp_iload (i := 4) d_mod_letters_86 rfl ?_
          refine rp_if_eq (tgt := 102) d_mod_letters_88 (by decide) (fun c88 => ?_) (fun c88 => ?_)
          · exact absurd c88 (by decide)
          · refine rp_aload_n (i := 0) d_mod_letters_91 rfl rfl ?_
            refine rp_bipush (v := 9) d_mod_letters_92 (by decide) ?_
            refine rp_iload_n (i := 2) d_mod_letters_94 rfl rfl ?_
            refine rp_iload_n (i := 3) d_mod_letters_95 rfl rfl ?_
            refine rp_iload_n (i := 1) d_mod_letters_96 rfl rfl ?_
            refine rp_iload_n (i := 3) d_mod_letters_97 rfl rfl ?_
            refine rp_iadd d_mod_letters_98 ?_
            refine rp_callV4 d_mod_letters_99 q_mod_letters_55 (Or.inl ⟨_, _, _, rfl, rfl⟩) (Nat.le_of_ble_eq_true rfl) (Nat.le_of_ble_eq_true rfl) ?_
            refine s_mod_meet ?_
            refine rp_return d_mod_letters_102 rfl ?_
            first
            | (rw [if_pos (by simp [r_fit, c28, c52, c58, c76, c88]), r_put_1 _ (by decide), ← nI_add] at k; exact k)
            | (rw [if_neg (by simp [r_fit, c28, c52, c58, c76, c88]), r_put_0] at k; exact k)
      · refine rp_iload_n (i := 3) d_mod_letters_61 rfl rfl ?_
        refine rp_iconst (v := 3) d_mod_letters_62 (by decide) ?_
        refine rp_icmp_gt (tgt := 70) d_mod_letters_63 (by decide) (fun c63 => ?_) (fun c63 => ?_)
        · refine rp_iconst (v := 0) d_mod_letters_70 (by decide) ?_
          refine rp_goto (tgt := 84) d_mod_letters_71 (by decide) ?_
          refine rp_istore (i := 4) d_mod_letters_84 rfl (Nat.le_of_ble_eq_true rfl) ?_
          refine rp_iload (i := 4) d_mod_letters_86 rfl ?_
          refine rp_if_eq (tgt := 102) d_mod_letters_88 (by decide) (fun c88 => ?_) (fun c88 => ?_)
          · refine rp_return d_mod_letters_102 rfl ?_
            first
            | (rw [if_pos (by simp [r_fit, c28, c52, c58, c63, c88]), r_put_1 _ (by decide), ← nI_add] at k; exact k)
            | (rw [if_neg (by simp [r_fit, c28, c52, c58, c63, c88]), r_put_0] at k; exact k)
          · exact absurd (by decide) c88
        · refine rp_iconst (v := 1) d_mod_letters_66 (by decide) ?_
          refine rp_goto (tgt := 84) d_mod_letters_67 (by decide) ?_
          refine rp_istore (i := 4) d_mod_letters_84 rfl (Nat.le_of_ble_eq_true rfl) ?_
          refine rp_iload (i := 4) d_mod_letters_86 rfl ?_
          refine rp_if_eq (tgt := 102) d_mod_letters_88 (by decide) (fun c88 => ?_) (fun c88 => ?_)
          · exact absurd c88 (by decide)
          · refine rp_aload_n (i := 0) d_mod_letters_91 rfl rfl ?_
            refine rp_bipush (v := 9) d_mod_letters_92 (by decide) ?_
            refine rp_iload_n (i := 2) d_mod_letters_94 rfl rfl ?_
            refine rp_iload_n (i := 3) d_mod_letters_95 rfl rfl ?_
            refine rp_iload_n (i := 1) d_mod_letters_96 rfl rfl ?_
            refine rp_iload_n (i := 3) d_mod_letters_97 rfl rfl ?_
            refine rp_iadd d_mod_letters_98 ?_
            refine rp_callV4 d_mod_letters_99 q_mod_letters_55 (Or.inl ⟨_, _, _, rfl, rfl⟩) (Nat.le_of_ble_eq_true rfl) (Nat.le_of_ble_eq_true rfl) ?_
            refine s_mod_meet ?_
            refine rp_return d_mod_letters_102 rfl ?_
            first
            | (rw [if_pos (by simp [r_fit, c28, c52, c58, c63, c88]), r_put_1 _ (by decide), ← nI_add] at k; exact k)
            | (rw [if_neg (by simp [r_fit, c28, c52, c58, c63, c88]), r_put_0] at k; exact k)
  · refine rp_iload_n (i := 3) d_mod_letters_31 rfl rfl ?_
    refine rp_iconst (v := 2) d_mod_letters_32 (by decide) ?_
    refine rp_icmp_eq (tgt := 41) d_mod_letters_33 (by decide) (fun c33 => ?_) (fun c33 => ?_)
    · refine rp_iconst (v := 1) d_mod_letters_41 (by decide) ?_
      refine rp_goto (tgt := 84) d_mod_letters_42 (by decide) ?_
      refine rp_istore (i := 4) d_mod_letters_84 rfl (Nat.le_of_ble_eq_true rfl) ?_
      refine rp_iload (i := 4) d_mod_letters_86 rfl ?_
      refine rp_if_eq (tgt := 102) d_mod_letters_88 (by decide) (fun c88 => ?_) (fun c88 => ?_)
      · exact absurd c88 (by decide)
      · refine rp_aload_n (i := 0) d_mod_letters_91 rfl rfl ?_
        refine rp_bipush (v := 9) d_mod_letters_92 (by decide) ?_
        refine rp_iload_n (i := 2) d_mod_letters_94 rfl rfl ?_
        refine rp_iload_n (i := 3) d_mod_letters_95 rfl rfl ?_
        refine rp_iload_n (i := 1) d_mod_letters_96 rfl rfl ?_
        refine rp_iload_n (i := 3) d_mod_letters_97 rfl rfl ?_
        refine rp_iadd d_mod_letters_98 ?_
        refine rp_callV4 d_mod_letters_99 q_mod_letters_55 (Or.inl ⟨_, _, _, rfl, rfl⟩) (Nat.le_of_ble_eq_true rfl) (Nat.le_of_ble_eq_true rfl) ?_
        refine s_mod_meet ?_
        refine rp_return d_mod_letters_102 rfl ?_
        first
        | (rw [if_pos (by simp [r_fit, c28, c33, c88]), r_put_1 _ (by decide), ← nI_add] at k; exact k)
        | (rw [if_neg (by simp [r_fit, c28, c33, c88]), r_put_0] at k; exact k)
    · refine rp_iload_n (i := 3) d_mod_letters_36 rfl rfl ?_
      refine rp_iconst (v := 4) d_mod_letters_37 (by decide) ?_
      refine rp_icmp_ne (tgt := 45) d_mod_letters_38 (by decide) (fun c38 => ?_) (fun c38 => ?_)
      · refine rp_iconst (v := 0) d_mod_letters_45 (by decide) ?_
        refine rp_goto (tgt := 84) d_mod_letters_46 (by decide) ?_
        refine rp_istore (i := 4) d_mod_letters_84 rfl (Nat.le_of_ble_eq_true rfl) ?_
        refine rp_iload (i := 4) d_mod_letters_86 rfl ?_
        refine rp_if_eq (tgt := 102) d_mod_letters_88 (by decide) (fun c88 => ?_) (fun c88 => ?_)
        · refine rp_return d_mod_letters_102 rfl ?_
          first
          | (rw [if_pos (by simp [r_fit, c28, c33, c38, c88]), r_put_1 _ (by decide), ← nI_add] at k; exact k)
          | (rw [if_neg (by simp [r_fit, c28, c33, c38, c88]), r_put_0] at k; exact k)
        · exact absurd (by decide) c88
      · refine rp_iconst (v := 1) d_mod_letters_41 (by decide) ?_
        refine rp_goto (tgt := 84) d_mod_letters_42 (by decide) ?_
        refine rp_istore (i := 4) d_mod_letters_84 rfl (Nat.le_of_ble_eq_true rfl) ?_
        refine rp_iload (i := 4) d_mod_letters_86 rfl ?_
        refine rp_if_eq (tgt := 102) d_mod_letters_88 (by decide) (fun c88 => ?_) (fun c88 => ?_)
        · exact absurd c88 (by decide)
        · refine rp_aload_n (i := 0) d_mod_letters_91 rfl rfl ?_
          refine rp_bipush (v := 9) d_mod_letters_92 (by decide) ?_
          refine rp_iload_n (i := 2) d_mod_letters_94 rfl rfl ?_
          refine rp_iload_n (i := 3) d_mod_letters_95 rfl rfl ?_
          refine rp_iload_n (i := 1) d_mod_letters_96 rfl rfl ?_
          refine rp_iload_n (i := 3) d_mod_letters_97 rfl rfl ?_
          refine rp_iadd d_mod_letters_98 ?_
          refine rp_callV4 d_mod_letters_99 q_mod_letters_55 (Or.inl ⟨_, _, _, rfl, rfl⟩) (Nat.le_of_ble_eq_true rfl) (Nat.le_of_ble_eq_true rfl) ?_
          refine s_mod_meet ?_
          refine rp_return d_mod_letters_102 rfl ?_
          first
          | (rw [if_pos (by simp [r_fit, c28, c33, c38, c88]), r_put_1 _ (by decide), ← nI_add] at k; exact k)
          | (rw [if_neg (by simp [r_fit, c28, c33, c38, c88]), r_put_0] at k; exact k)
set_option maxHeartbeats 4000000 in
set_option maxRecDepth 100000 in
theorem t_tokD {h : cf_H} {P : Option Value → cf_H → Prop} (hR : cf_ok h) {n : Nat} (hn : h.1 19 0 = nI n) (h40 : n ≤ 40) {p : Nat} (hp : p < 2 ^ 26) (k : P none (r_put h (r_tkD (r_g h n) n p))) : RP k_mod_token 225 [(0, .ref 19), (1, .int (nI p)), (2, .int (r_g h n p)), (3, .int (r_g h n (p + 1)))] [] h P := by
  refine rp_iload_n (i := 2) d_mod_token_225 rfl rfl ?_
  refine rp_bipush (v := 91) d_mod_token_226 (by decide) ?_
  refine rp_icmp_ne (tgt := 239) d_mod_token_228 (by decide) (fun c228 => ?_) (fun c228 => ?_)
  · refine rp_iload_n (i := 2) d_mod_token_239 rfl rfl ?_
    refine rp_bipush (v := 121) d_mod_token_240 (by decide) ?_
    refine rp_icmp_eq (tgt := 269) d_mod_token_242 (by decide) (fun c242 => ?_) (fun c242 => ?_)
    · refine rp_aload_n (i := 0) d_mod_token_269 rfl rfl ?_
      refine rp_iload_n (i := 1) d_mod_token_270 rfl rfl ?_
      refine rp_callV1 d_mod_token_271 q_mod_token_76 (Or.inl ⟨_, _, _, rfl, rfl⟩) (Nat.le_of_ble_eq_true rfl) (Nat.le_of_ble_eq_true rfl) ?_
      rw [show r_tkD (r_g h n) n p = r_let (r_g h n) n p by simp [r_tkD, c228, c242]] at k
      refine s_mod_letters hR hn h40 rfl hp (by simp [c228, c242]) ?_
      refine rp_goto (tgt := 336) d_mod_token_274 (by decide) ?_
      refine rp_return d_mod_token_336 rfl ?_
      first
      | exact k
      | (rw [show r_tkD (r_g h n) n p = (0, 0, 0, 0) by simp [r_tkD, c228, c242], r_put_0] at k; exact k)
    · refine rp_iload_n (i := 2) d_mod_token_245 rfl rfl ?_
      refine rp_bipush (v := 109) d_mod_token_246 (by decide) ?_
      refine rp_icmp_eq (tgt := 269) d_mod_token_248 (by decide) (fun c248 => ?_) (fun c248 => ?_)
      · refine rp_aload_n (i := 0) d_mod_token_269 rfl rfl ?_
        refine rp_iload_n (i := 1) d_mod_token_270 rfl rfl ?_
        refine rp_callV1 d_mod_token_271 q_mod_token_76 (Or.inl ⟨_, _, _, rfl, rfl⟩) (Nat.le_of_ble_eq_true rfl) (Nat.le_of_ble_eq_true rfl) ?_
        rw [show r_tkD (r_g h n) n p = r_let (r_g h n) n p by simp [r_tkD, c228, c242, c248]] at k
        refine s_mod_letters hR hn h40 rfl hp (by simp [c228, c242, c248]) ?_
        refine rp_goto (tgt := 336) d_mod_token_274 (by decide) ?_
        refine rp_return d_mod_token_336 rfl ?_
        first
        | exact k
        | (rw [show r_tkD (r_g h n) n p = (0, 0, 0, 0) by simp [r_tkD, c228, c242, c248], r_put_0] at k; exact k)
      · refine rp_iload_n (i := 2) d_mod_token_251 rfl rfl ?_
        refine rp_bipush (v := 100) d_mod_token_252 (by decide) ?_
        refine rp_icmp_eq (tgt := 269) d_mod_token_254 (by decide) (fun c254 => ?_) (fun c254 => ?_)
        · refine rp_aload_n (i := 0) d_mod_token_269 rfl rfl ?_
          refine rp_iload_n (i := 1) d_mod_token_270 rfl rfl ?_
          refine rp_callV1 d_mod_token_271 q_mod_token_76 (Or.inl ⟨_, _, _, rfl, rfl⟩) (Nat.le_of_ble_eq_true rfl) (Nat.le_of_ble_eq_true rfl) ?_
          rw [show r_tkD (r_g h n) n p = r_let (r_g h n) n p by simp [r_tkD, c228, c242, c248, c254]] at k
          refine s_mod_letters hR hn h40 rfl hp (by simp [c228, c242, c248, c254]) ?_
          refine rp_goto (tgt := 336) d_mod_token_274 (by decide) ?_
          refine rp_return d_mod_token_336 rfl ?_
          first
          | exact k
          | (rw [show r_tkD (r_g h n) n p = (0, 0, 0, 0) by simp [r_tkD, c228, c242, c248, c254], r_put_0] at k; exact k)
        · refine rp_iload_n (i := 2) d_mod_token_257 rfl rfl ?_
          refine rp_bipush (v := 104) d_mod_token_258 (by decide) ?_
          refine rp_icmp_eq (tgt := 269) d_mod_token_260 (by decide) (fun c260 => ?_) (fun c260 => ?_)
          · refine rp_aload_n (i := 0) d_mod_token_269 rfl rfl ?_
            refine rp_iload_n (i := 1) d_mod_token_270 rfl rfl ?_
            refine rp_callV1 d_mod_token_271 q_mod_token_76 (Or.inl ⟨_, _, _, rfl, rfl⟩) (Nat.le_of_ble_eq_true rfl) (Nat.le_of_ble_eq_true rfl) ?_
            rw [show r_tkD (r_g h n) n p = r_let (r_g h n) n p by simp [r_tkD, c228, c242, c248, c254, c260]] at k
            refine s_mod_letters hR hn h40 rfl hp (by simp [c228, c242, c248, c254, c260]) ?_
            refine rp_goto (tgt := 336) d_mod_token_274 (by decide) ?_
            refine rp_return d_mod_token_336 rfl ?_
            first
            | exact k
            | (rw [show r_tkD (r_g h n) n p = (0, 0, 0, 0) by simp [r_tkD, c228, c242, c248, c254, c260], r_put_0] at k; exact k)
          · refine rp_iload_n (i := 2) d_mod_token_263 rfl rfl ?_
            refine rp_bipush (v := 115) d_mod_token_264 (by decide) ?_
            refine rp_icmp_ne (tgt := 277) d_mod_token_266 (by decide) (fun c266 => ?_) (fun c266 => ?_)
            · refine rp_iload_n (i := 2) d_mod_token_277 rfl rfl ?_
              refine rp_bipush (v := 65) d_mod_token_278 (by decide) ?_
              refine rp_icmp_ne (tgt := 336) d_mod_token_280 (by decide) (fun c280 => ?_) (fun c280 => ?_)
              · refine rp_return d_mod_token_336 rfl ?_
                first
                | exact k
                | (rw [show r_tkD (r_g h n) n p = (0, 0, 0, 0) by simp [r_tkD, c228, c242, c248, c254, c260, c266, c280], r_put_0] at k; exact k)
              · refine rp_iload_n (i := 3) d_mod_token_283 rfl rfl ?_
                refine rp_bipush (v := 77) d_mod_token_284 (by decide) ?_
                refine rp_icmp_ne (tgt := 336) d_mod_token_286 (by decide) (fun c286 => ?_) (fun c286 => ?_)
                · refine rp_return d_mod_token_336 rfl ?_
                  first
                  | exact k
                  | (rw [show r_tkD (r_g h n) n p = (0, 0, 0, 0) by simp [r_tkD, c228, c242, c248, c254, c260, c266, c280, c286], r_put_0] at k; exact k)
                · refine rp_aload_n (i := 0) d_mod_token_289 rfl rfl ?_
                  refine rp_iload_n (i := 1) d_mod_token_290 rfl rfl ?_
                  refine rp_iconst (v := 2) d_mod_token_291 (by decide) ?_
                  refine rp_iadd d_mod_token_292 ?_
                  refine rp_callV1 d_mod_token_293 q_mod_token_51 (Or.inl ⟨_, _, _, rfl, rfl⟩) (Nat.le_of_ble_eq_true rfl) (Nat.le_of_ble_eq_true rfl) ?_
                  refine s_mod_at (j := p + 2) hR hn h40 (nI_add p 2) (by omega) ?_
                  refine rp_bipush (v := 47) d_mod_token_296 (by decide) ?_
                  refine rp_icmp_ne (tgt := 336) d_mod_token_298 (by decide) (fun c298 => ?_) (fun c298 => ?_)
                  · refine rp_return d_mod_token_336 rfl ?_
                    first
                    | exact k
                    | (rw [show r_tkD (r_g h n) n p = (0, 0, 0, 0) by simp [r_tkD, c228, c242, c248, c254, c260, c266, c280, c286, c298], r_put_0] at k; exact k)
                  · refine rp_aload_n (i := 0) d_mod_token_301 rfl rfl ?_
                    refine rp_iload_n (i := 1) d_mod_token_302 rfl rfl ?_
                    refine rp_iconst (v := 3) d_mod_token_303 (by decide) ?_
                    refine rp_iadd d_mod_token_304 ?_
                    refine rp_callV1 d_mod_token_305 q_mod_token_51 (Or.inl ⟨_, _, _, rfl, rfl⟩) (Nat.le_of_ble_eq_true rfl) (Nat.le_of_ble_eq_true rfl) ?_
                    refine s_mod_at (j := p + 3) hR hn h40 (nI_add p 3) (by omega) ?_
                    refine rp_bipush (v := 80) d_mod_token_308 (by decide) ?_
                    refine rp_icmp_ne (tgt := 336) d_mod_token_310 (by decide) (fun c310 => ?_) (fun c310 => ?_)
                    · refine rp_return d_mod_token_336 rfl ?_
                      first
                      | exact k
                      | (rw [show r_tkD (r_g h n) n p = (0, 0, 0, 0) by simp [r_tkD, c228, c242, c248, c254, c260, c266, c280, c286, c298, c310], r_put_0] at k; exact k)
                    · refine rp_aload_n (i := 0) d_mod_token_313 rfl rfl ?_
                      refine rp_iload_n (i := 1) d_mod_token_314 rfl rfl ?_
                      refine rp_iconst (v := 4) d_mod_token_315 (by decide) ?_
                      refine rp_iadd d_mod_token_316 ?_
                      refine rp_callV1 d_mod_token_317 q_mod_token_51 (Or.inl ⟨_, _, _, rfl, rfl⟩) (Nat.le_of_ble_eq_true rfl) (Nat.le_of_ble_eq_true rfl) ?_
                      refine s_mod_at (j := p + 4) hR hn h40 (nI_add p 4) (by omega) ?_
                      refine rp_bipush (v := 77) d_mod_token_320 (by decide) ?_
                      refine rp_icmp_ne (tgt := 336) d_mod_token_322 (by decide) (fun c322 => ?_) (fun c322 => ?_)
                      · refine rp_return d_mod_token_336 rfl ?_
                        first
                        | exact k
                        | (rw [show r_tkD (r_g h n) n p = (0, 0, 0, 0) by simp [r_tkD, c228, c242, c248, c254, c260, c266, c280, c286, c298, c310, c322], r_put_0] at k; exact k)
                      · refine rp_aload_n (i := 0) d_mod_token_325 rfl rfl ?_
                        refine rp_bipush (v := 10) d_mod_token_326 (by decide) ?_
                        refine rp_iconst (v := 0) d_mod_token_328 (by decide) ?_
                        refine rp_iconst (v := 0) d_mod_token_329 (by decide) ?_
                        refine rp_iload_n (i := 1) d_mod_token_330 rfl rfl ?_
                        refine rp_iconst (v := 5) d_mod_token_331 (by decide) ?_
                        refine rp_iadd d_mod_token_332 ?_
                        refine rp_callV4 d_mod_token_333 q_mod_token_55 (Or.inl ⟨_, _, _, rfl, rfl⟩) (Nat.le_of_ble_eq_true rfl) (Nat.le_of_ble_eq_true rfl) ?_
                        rw [show r_tkD (r_g h n) n p = (10, 0, 0, p + 5) by simp [r_tkD, c228, c242, c248, c254, c260, c266, c280, c286, c298, c310, c322], r_put_1 _ (by decide)] at k
                        simp only [← nI_add] at k
                        refine s_mod_meet ?_
                        refine rp_return d_mod_token_336 rfl ?_
                        first
                        | exact k
                        | (rw [show r_tkD (r_g h n) n p = (0, 0, 0, 0) by simp [r_tkD, c228, c242, c248, c254, c260, c266, c280, c286, c298, c310, c322], r_put_0] at k; exact k)
            · refine rp_aload_n (i := 0) d_mod_token_269 rfl rfl ?_
              refine rp_iload_n (i := 1) d_mod_token_270 rfl rfl ?_
              refine rp_callV1 d_mod_token_271 q_mod_token_76 (Or.inl ⟨_, _, _, rfl, rfl⟩) (Nat.le_of_ble_eq_true rfl) (Nat.le_of_ble_eq_true rfl) ?_
              rw [show r_tkD (r_g h n) n p = r_let (r_g h n) n p by simp [r_tkD, c228, c242, c248, c254, c260, c266]] at k
              refine s_mod_letters hR hn h40 rfl hp (by simp [c228, c242, c248, c254, c260, c266]) ?_
              refine rp_goto (tgt := 336) d_mod_token_274 (by decide) ?_
              refine rp_return d_mod_token_336 rfl ?_
              first
              | exact k
              | (rw [show r_tkD (r_g h n) n p = (0, 0, 0, 0) by simp [r_tkD, c228, c242, c248, c254, c260, c266], r_put_0] at k; exact k)
  · refine rp_aload_n (i := 0) d_mod_token_231 rfl rfl ?_
    refine rp_iload_n (i := 1) d_mod_token_232 rfl rfl ?_
    refine rp_callV1 d_mod_token_233 q_mod_token_73 (Or.inl ⟨_, _, _, rfl, rfl⟩) (Nat.le_of_ble_eq_true rfl) (Nat.le_of_ble_eq_true rfl) ?_
    rw [show r_tkD (r_g h n) n p = r_brk (r_g h n) p by simp [r_tkD, c228]] at k
    refine s_mod_bracket hR hn h40 rfl hp ?_
    refine rp_goto (tgt := 336) d_mod_token_236 (by decide) ?_
    refine rp_return d_mod_token_336 rfl ?_
    first
    | exact k
    | (rw [show r_tkD (r_g h n) n p = (0, 0, 0, 0) by simp [r_tkD, c228], r_put_0] at k; exact k)
set_option maxHeartbeats 4000000 in
set_option maxRecDepth 100000 in
theorem t_tokC {h : cf_H} {P : Option Value → cf_H → Prop} (hR : cf_ok h) {n : Nat} (hn : h.1 19 0 = nI n) (h40 : n ≤ 40) {p : Nat} (hp : p < 2 ^ 26) (k : P none (r_put h (r_tkC (r_g h n) n p))) : RP k_mod_token 83 [(0, .ref 19), (1, .int (nI p)), (2, .int (r_g h n p)), (3, .int (r_g h n (p + 1)))] [] h P := by
  refine rp_iload_n (i := 2) d_mod_token_83 rfl rfl ?_
  refine rp_callS1 d_mod_token_84 q_mod_token_70 (Nat.le_of_ble_eq_true rfl) (Nat.le_of_ble_eq_true rfl) ?_
  refine s_mod_bare ?_
  refine rp_if_eq (tgt := 105) d_mod_token_87 (by decide) (fun c87 => ?_) (fun c87 => ?_)
  · have hb : r_bare (r_g h n p) = false := (by cases e : r_bare (r_g h n p) with | false => rfl | true => rw [e] at c87; exact absurd c87 (by decide))
    refine rp_iload_n (i := 2) d_mod_token_105 rfl rfl ?_
    refine rp_bipush (v := 48) d_mod_token_106 (by decide) ?_
    refine rp_icmp_eq (tgt := 123) d_mod_token_108 (by decide) (fun c108 => ?_) (fun c108 => ?_)
    · refine rp_aload_n (i := 0) d_mod_token_123 rfl rfl ?_
      refine rp_iconst (v := 2) d_mod_token_124 (by decide) ?_
      refine rp_iload_n (i := 2) d_mod_token_125 rfl rfl ?_
      refine rp_iconst (v := 0) d_mod_token_126 (by decide) ?_
      refine rp_iload_n (i := 1) d_mod_token_127 rfl rfl ?_
      refine rp_iconst (v := 1) d_mod_token_128 (by decide) ?_
      refine rp_iadd d_mod_token_129 ?_
      refine rp_callV4 d_mod_token_130 q_mod_token_55 (Or.inl ⟨_, _, _, rfl, rfl⟩) (Nat.le_of_ble_eq_true rfl) (Nat.le_of_ble_eq_true rfl) ?_
      rw [show r_tkC (r_g h n) n p = (2, r_g h n p, 0, p + 1) by rw [r_tkC, if_neg (by rw [hb]; decide)]; simp [c108], r_put_1 _ (by decide)] at k
      simp only [← nI_add] at k
      refine s_mod_meet ?_
      refine rp_goto (tgt := 336) d_mod_token_133 (by decide) ?_
      refine rp_return d_mod_token_336 rfl ?_
      exact k
    · refine rp_iload_n (i := 2) d_mod_token_111 rfl rfl ?_
      refine rp_bipush (v := 35) d_mod_token_112 (by decide) ?_
      refine rp_icmp_eq (tgt := 123) d_mod_token_114 (by decide) (fun c114 => ?_) (fun c114 => ?_)
      · refine rp_aload_n (i := 0) d_mod_token_123 rfl rfl ?_
        refine rp_iconst (v := 2) d_mod_token_124 (by decide) ?_
        refine rp_iload_n (i := 2) d_mod_token_125 rfl rfl ?_
        refine rp_iconst (v := 0) d_mod_token_126 (by decide) ?_
        refine rp_iload_n (i := 1) d_mod_token_127 rfl rfl ?_
        refine rp_iconst (v := 1) d_mod_token_128 (by decide) ?_
        refine rp_iadd d_mod_token_129 ?_
        refine rp_callV4 d_mod_token_130 q_mod_token_55 (Or.inl ⟨_, _, _, rfl, rfl⟩) (Nat.le_of_ble_eq_true rfl) (Nat.le_of_ble_eq_true rfl) ?_
        rw [show r_tkC (r_g h n) n p = (2, r_g h n p, 0, p + 1) by rw [r_tkC, if_neg (by rw [hb]; decide)]; simp [c108, c114], r_put_1 _ (by decide)] at k
        simp only [← nI_add] at k
        refine s_mod_meet ?_
        refine rp_goto (tgt := 336) d_mod_token_133 (by decide) ?_
        refine rp_return d_mod_token_336 rfl ?_
        exact k
      · refine rp_iload_n (i := 2) d_mod_token_117 rfl rfl ?_
        refine rp_bipush (v := 63) d_mod_token_118 (by decide) ?_
        refine rp_icmp_ne (tgt := 136) d_mod_token_120 (by decide) (fun c120 => ?_) (fun c120 => ?_)
        · refine rp_iload_n (i := 2) d_mod_token_136 rfl rfl ?_
          refine rp_bipush (v := 46) d_mod_token_137 (by decide) ?_
          refine rp_icmp_ne (tgt := 155) d_mod_token_139 (by decide) (fun c139 => ?_) (fun c139 => ?_)
          · refine rp_iload_n (i := 2) d_mod_token_155 rfl rfl ?_
            refine rp_bipush (v := 44) d_mod_token_156 (by decide) ?_
            refine rp_icmp_ne (tgt := 174) d_mod_token_158 (by decide) (fun c158 => ?_) (fun c158 => ?_)
            · refine rp_iload_n (i := 2) d_mod_token_174 rfl rfl ?_
              refine rp_bipush (v := 37) d_mod_token_175 (by decide) ?_
              refine rp_icmp_ne (tgt := 193) d_mod_token_177 (by decide) (fun c177 => ?_) (fun c177 => ?_)
              · refine rp_iload_n (i := 2) d_mod_token_193 rfl rfl ?_
                refine rp_bipush (v := 69) d_mod_token_194 (by decide) ?_
                refine rp_icmp_ne (tgt := 225) d_mod_token_196 (by decide) (fun c196 => ?_) (fun c196 => ?_)
                · rw [show r_tkC (r_g h n) n p = r_tkD (r_g h n) n p by rw [r_tkC, if_neg (by rw [hb]; decide)]; simp [c108, c114, c120, c139, c158, c177, c196]] at k
                  refine rp_lv [(0, .ref 19), (1, .int (nI p)), (2, .int (r_g h n p)), (3, .int (r_g h n (p + 1)))] rfl ?_
                  exact t_tokD hR hn h40 hp k
                · refine rp_iload_n (i := 3) d_mod_token_199 rfl rfl ?_
                  refine rp_bipush (v := 43) d_mod_token_200 (by decide) ?_
                  refine rp_icmp_eq (tgt := 211) d_mod_token_202 (by decide) (fun c202 => ?_) (fun c202 => ?_)
                  · refine rp_aload_n (i := 0) d_mod_token_211 rfl rfl ?_
                    refine rp_bipush (v := 6) d_mod_token_212 (by decide) ?_
                    refine rp_iload_n (i := 3) d_mod_token_214 rfl rfl ?_
                    refine rp_iconst (v := 0) d_mod_token_215 (by decide) ?_
                    refine rp_iload_n (i := 1) d_mod_token_216 rfl rfl ?_
                    refine rp_iconst (v := 2) d_mod_token_217 (by decide) ?_
                    refine rp_iadd d_mod_token_218 ?_
                    refine rp_callV4 d_mod_token_219 q_mod_token_55 (Or.inl ⟨_, _, _, rfl, rfl⟩) (Nat.le_of_ble_eq_true rfl) (Nat.le_of_ble_eq_true rfl) ?_
                    rw [show r_tkC (r_g h n) n p = (6, r_g h n (p + 1), 0, p + 2) by rw [r_tkC, if_neg (by rw [hb]; decide)]; simp [c108, c114, c120, c139, c158, c177, c196, c202], r_put_1 _ (by decide)] at k
                    simp only [← nI_add] at k
                    refine s_mod_meet ?_
                    refine rp_goto (tgt := 336) d_mod_token_222 (by decide) ?_
                    refine rp_return d_mod_token_336 rfl ?_
                    exact k
                  · refine rp_iload_n (i := 3) d_mod_token_205 rfl rfl ?_
                    refine rp_bipush (v := 45) d_mod_token_206 (by decide) ?_
                    refine rp_icmp_ne (tgt := 225) d_mod_token_208 (by decide) (fun c208 => ?_) (fun c208 => ?_)
                    · rw [show r_tkC (r_g h n) n p = r_tkD (r_g h n) n p by rw [r_tkC, if_neg (by rw [hb]; decide)]; simp [c108, c114, c120, c139, c158, c177, c196, c202, c208]] at k
                      refine rp_lv [(0, .ref 19), (1, .int (nI p)), (2, .int (r_g h n p)), (3, .int (r_g h n (p + 1)))] rfl ?_
                      exact t_tokD hR hn h40 hp k
                    · refine rp_aload_n (i := 0) d_mod_token_211 rfl rfl ?_
                      refine rp_bipush (v := 6) d_mod_token_212 (by decide) ?_
                      refine rp_iload_n (i := 3) d_mod_token_214 rfl rfl ?_
                      refine rp_iconst (v := 0) d_mod_token_215 (by decide) ?_
                      refine rp_iload_n (i := 1) d_mod_token_216 rfl rfl ?_
                      refine rp_iconst (v := 2) d_mod_token_217 (by decide) ?_
                      refine rp_iadd d_mod_token_218 ?_
                      refine rp_callV4 d_mod_token_219 q_mod_token_55 (Or.inl ⟨_, _, _, rfl, rfl⟩) (Nat.le_of_ble_eq_true rfl) (Nat.le_of_ble_eq_true rfl) ?_
                      rw [show r_tkC (r_g h n) n p = (6, r_g h n (p + 1), 0, p + 2) by rw [r_tkC, if_neg (by rw [hb]; decide)]; simp [c108, c114, c120, c139, c158, c177, c196, c202, c208], r_put_1 _ (by decide)] at k
                      simp only [← nI_add] at k
                      refine s_mod_meet ?_
                      refine rp_goto (tgt := 336) d_mod_token_222 (by decide) ?_
                      refine rp_return d_mod_token_336 rfl ?_
                      exact k
              · refine rp_aload_n (i := 0) d_mod_token_180 rfl rfl ?_
                refine rp_iconst (v := 5) d_mod_token_181 (by decide) ?_
                refine rp_iconst (v := 0) d_mod_token_182 (by decide) ?_
                refine rp_iconst (v := 0) d_mod_token_183 (by decide) ?_
                refine rp_iload_n (i := 1) d_mod_token_184 rfl rfl ?_
                refine rp_iconst (v := 1) d_mod_token_185 (by decide) ?_
                refine rp_iadd d_mod_token_186 ?_
                refine rp_callV4 d_mod_token_187 q_mod_token_55 (Or.inl ⟨_, _, _, rfl, rfl⟩) (Nat.le_of_ble_eq_true rfl) (Nat.le_of_ble_eq_true rfl) ?_
                rw [show r_tkC (r_g h n) n p = (5, 0, 0, p + 1) by rw [r_tkC, if_neg (by rw [hb]; decide)]; simp [c108, c114, c120, c139, c158, c177], r_put_1 _ (by decide)] at k
                simp only [← nI_add] at k
                refine s_mod_meet ?_
                refine rp_goto (tgt := 336) d_mod_token_190 (by decide) ?_
                refine rp_return d_mod_token_336 rfl ?_
                exact k
            · refine rp_aload_n (i := 0) d_mod_token_161 rfl rfl ?_
              refine rp_iconst (v := 4) d_mod_token_162 (by decide) ?_
              refine rp_iconst (v := 0) d_mod_token_163 (by decide) ?_
              refine rp_iconst (v := 0) d_mod_token_164 (by decide) ?_
              refine rp_iload_n (i := 1) d_mod_token_165 rfl rfl ?_
              refine rp_iconst (v := 1) d_mod_token_166 (by decide) ?_
              refine rp_iadd d_mod_token_167 ?_
              refine rp_callV4 d_mod_token_168 q_mod_token_55 (Or.inl ⟨_, _, _, rfl, rfl⟩) (Nat.le_of_ble_eq_true rfl) (Nat.le_of_ble_eq_true rfl) ?_
              rw [show r_tkC (r_g h n) n p = (4, 0, 0, p + 1) by rw [r_tkC, if_neg (by rw [hb]; decide)]; simp [c108, c114, c120, c139, c158], r_put_1 _ (by decide)] at k
              simp only [← nI_add] at k
              refine s_mod_meet ?_
              refine rp_goto (tgt := 336) d_mod_token_171 (by decide) ?_
              refine rp_return d_mod_token_336 rfl ?_
              exact k
          · refine rp_aload_n (i := 0) d_mod_token_142 rfl rfl ?_
            refine rp_iconst (v := 3) d_mod_token_143 (by decide) ?_
            refine rp_iconst (v := 0) d_mod_token_144 (by decide) ?_
            refine rp_iconst (v := 0) d_mod_token_145 (by decide) ?_
            refine rp_iload_n (i := 1) d_mod_token_146 rfl rfl ?_
            refine rp_iconst (v := 1) d_mod_token_147 (by decide) ?_
            refine rp_iadd d_mod_token_148 ?_
            refine rp_callV4 d_mod_token_149 q_mod_token_55 (Or.inl ⟨_, _, _, rfl, rfl⟩) (Nat.le_of_ble_eq_true rfl) (Nat.le_of_ble_eq_true rfl) ?_
            rw [show r_tkC (r_g h n) n p = (3, 0, 0, p + 1) by rw [r_tkC, if_neg (by rw [hb]; decide)]; simp [c108, c114, c120, c139], r_put_1 _ (by decide)] at k
            simp only [← nI_add] at k
            refine s_mod_meet ?_
            refine rp_goto (tgt := 336) d_mod_token_152 (by decide) ?_
            refine rp_return d_mod_token_336 rfl ?_
            exact k
        · refine rp_aload_n (i := 0) d_mod_token_123 rfl rfl ?_
          refine rp_iconst (v := 2) d_mod_token_124 (by decide) ?_
          refine rp_iload_n (i := 2) d_mod_token_125 rfl rfl ?_
          refine rp_iconst (v := 0) d_mod_token_126 (by decide) ?_
          refine rp_iload_n (i := 1) d_mod_token_127 rfl rfl ?_
          refine rp_iconst (v := 1) d_mod_token_128 (by decide) ?_
          refine rp_iadd d_mod_token_129 ?_
          refine rp_callV4 d_mod_token_130 q_mod_token_55 (Or.inl ⟨_, _, _, rfl, rfl⟩) (Nat.le_of_ble_eq_true rfl) (Nat.le_of_ble_eq_true rfl) ?_
          rw [show r_tkC (r_g h n) n p = (2, r_g h n p, 0, p + 1) by rw [r_tkC, if_neg (by rw [hb]; decide)]; simp [c108, c114, c120], r_put_1 _ (by decide)] at k
          simp only [← nI_add] at k
          refine s_mod_meet ?_
          refine rp_goto (tgt := 336) d_mod_token_133 (by decide) ?_
          refine rp_return d_mod_token_336 rfl ?_
          exact k
  · refine rp_aload_n (i := 0) d_mod_token_90 rfl rfl ?_
    refine rp_iconst (v := 1) d_mod_token_91 (by decide) ?_
    refine rp_iload_n (i := 1) d_mod_token_92 rfl rfl ?_
    refine rp_iload_n (i := 1) d_mod_token_93 rfl rfl ?_
    refine rp_iconst (v := 1) d_mod_token_94 (by decide) ?_
    refine rp_iadd d_mod_token_95 ?_
    refine rp_iload_n (i := 1) d_mod_token_96 rfl rfl ?_
    refine rp_iconst (v := 1) d_mod_token_97 (by decide) ?_
    refine rp_iadd d_mod_token_98 ?_
    refine rp_callV4 d_mod_token_99 q_mod_token_55 (Or.inl ⟨_, _, _, rfl, rfl⟩) (Nat.le_of_ble_eq_true rfl) (Nat.le_of_ble_eq_true rfl) ?_
    rw [show r_tkC (r_g h n) n p = (1, nI p, nI (p + 1), p + 1) by have : r_bare (r_g h n p) = true := (by cases e : r_bare (r_g h n p) with | true => rfl | false => rw [e] at c87; exact absurd rfl c87); simp [r_tkC, this], r_put_1 _ (by decide)] at k
    simp only [← nI_add] at k
    refine s_mod_meet ?_
    refine rp_goto (tgt := 336) d_mod_token_102 (by decide) ?_
    refine rp_return d_mod_token_336 rfl ?_
    first
    | exact k
    | (rw [show r_tkC (r_g h n) n p = (0, 0, 0, 0) by simp [r_tkC, c87], r_put_0] at k; exact k)
set_option maxHeartbeats 4000000 in
set_option maxRecDepth 100000 in
theorem t_tokB {h : cf_H} {P : Option Value → cf_H → Prop} (hR : cf_ok h) {n : Nat} (hn : h.1 19 0 = nI n) (h40 : n ≤ 40) {p : Nat} (hp : p < 2 ^ 26) (k : P none (r_put h (r_tkB (r_g h n) n p))) : RP k_mod_token 60 [(0, .ref 19), (1, .int (nI p)), (2, .int (r_g h n p)), (3, .int (r_g h n (p + 1)))] [] h P := by
  refine rp_iload_n (i := 2) d_mod_token_60 rfl rfl ?_
  refine rp_bipush (v := 95) d_mod_token_61 (by decide) ?_
  refine rp_icmp_ne (tgt := 83) d_mod_token_63 (by decide) (fun c63 => ?_) (fun c63 => ?_)
  · rw [show r_tkB (r_g h n) n p = r_tkC (r_g h n) n p by simp [r_tkB, c63]] at k
    refine rp_lv [(0, .ref 19), (1, .int (nI p)), (2, .int (r_g h n p)), (3, .int (r_g h n (p + 1)))] rfl ?_
    exact t_tokC hR hn h40 hp k
  · refine rp_iload_n (i := 3) d_mod_token_66 rfl rfl ?_
    refine rp_if_eq (tgt := 83) d_mod_token_67 (by decide) (fun c67 => ?_) (fun c67 => ?_)
    · rw [show r_tkB (r_g h n) n p = r_tkC (r_g h n) n p by simp [r_tkB, c63, c67]] at k
      refine rp_lv [(0, .ref 19), (1, .int (nI p)), (2, .int (r_g h n p)), (3, .int (r_g h n (p + 1)))] rfl ?_
      exact t_tokC hR hn h40 hp k
    · refine rp_aload_n (i := 0) d_mod_token_70 rfl rfl ?_
      refine rp_iconst (v := 1) d_mod_token_71 (by decide) ?_
      refine rp_iconst (v := (-1)) d_mod_token_72 (by decide) ?_
      refine rp_iconst (v := 0) d_mod_token_73 (by decide) ?_
      refine rp_iload_n (i := 1) d_mod_token_74 rfl rfl ?_
      refine rp_iconst (v := 2) d_mod_token_75 (by decide) ?_
      refine rp_iadd d_mod_token_76 ?_
      refine rp_callV4 d_mod_token_77 q_mod_token_55 (Or.inl ⟨_, _, _, rfl, rfl⟩) (Nat.le_of_ble_eq_true rfl) (Nat.le_of_ble_eq_true rfl) ?_
      rw [show r_tkB (r_g h n) n p = (1, -1, 0, p + 2) by simp [r_tkB, c63, c67], r_put_1 _ (by decide)] at k
      simp only [← nI_add] at k
      refine s_mod_meet ?_
      refine rp_goto (tgt := 336) d_mod_token_80 (by decide) ?_
      refine rp_return d_mod_token_336 rfl ?_
      first
      | exact k
      | (rw [show r_tkB (r_g h n) n p = (0, 0, 0, 0) by simp [r_tkB, c63, c67], r_put_0] at k; exact k)
set_option maxHeartbeats 4000000 in
set_option maxRecDepth 100000 in
theorem t_tok5 {h : cf_H} {P : Option Value → cf_H → Prop} (hR : cf_ok h) {n : Nat} (hn : h.1 19 0 = nI n) (h40 : n ≤ 40) {p : Nat} (hp : p < 2 ^ 26) (k : P none (r_put h (r_tok (r_g h n) n p))) : RP k_mod_token 5 [(0, .ref 19), (1, .int (nI p))] [] h P := by
  refine rp_aload_n (i := 0) d_mod_token_5 rfl rfl ?_
  refine rp_iload_n (i := 1) d_mod_token_6 rfl rfl ?_
  refine rp_callV1 d_mod_token_7 q_mod_token_51 (Or.inl ⟨_, _, _, rfl, rfl⟩) (Nat.le_of_ble_eq_true rfl) (Nat.le_of_ble_eq_true rfl) ?_
  refine s_mod_at (j := p) hR hn h40 (rfl) (by omega) ?_
  refine rp_istore_n (i := 2) d_mod_token_10 rfl rfl (Nat.le_of_ble_eq_true rfl) ?_
  refine rp_aload_n (i := 0) d_mod_token_11 rfl rfl ?_
  refine rp_iload_n (i := 1) d_mod_token_12 rfl rfl ?_
  refine rp_iconst (v := 1) d_mod_token_13 (by decide) ?_
  refine rp_iadd d_mod_token_14 ?_
  refine rp_callV1 d_mod_token_15 q_mod_token_51 (Or.inl ⟨_, _, _, rfl, rfl⟩) (Nat.le_of_ble_eq_true rfl) (Nat.le_of_ble_eq_true rfl) ?_
  refine s_mod_at (j := p + 1) hR hn h40 (nI_add p 1) (by omega) ?_
  refine rp_istore_n (i := 3) d_mod_token_18 rfl rfl (Nat.le_of_ble_eq_true rfl) ?_
  refine rp_iload_n (i := 2) d_mod_token_19 rfl rfl ?_
  refine rp_bipush (v := 34) d_mod_token_20 (by decide) ?_
  refine rp_icmp_ne (tgt := 33) d_mod_token_22 (by decide) (fun c22 => ?_) (fun c22 => ?_)
  · refine rp_iload_n (i := 2) d_mod_token_33 rfl rfl ?_
    refine rp_bipush (v := 92) d_mod_token_34 (by decide) ?_
    refine rp_icmp_ne (tgt := 60) d_mod_token_36 (by decide) (fun c36 => ?_) (fun c36 => ?_)
    · rw [show r_tok (r_g h n) n p = r_tkB (r_g h n) n p by simp [r_tok, c22, c36]] at k
      refine rp_lv [(0, .ref 19), (1, .int (nI p)), (2, .int (r_g h n p)), (3, .int (r_g h n (p + 1)))] rfl ?_
      exact t_tokB hR hn h40 hp k
    · refine rp_iload_n (i := 3) d_mod_token_39 rfl rfl ?_
      refine rp_if_eq (tgt := 60) d_mod_token_40 (by decide) (fun c40 => ?_) (fun c40 => ?_)
      · rw [show r_tok (r_g h n) n p = r_tkB (r_g h n) n p by simp [r_tok, c22, c36, c40]] at k
        refine rp_lv [(0, .ref 19), (1, .int (nI p)), (2, .int (r_g h n p)), (3, .int (r_g h n (p + 1)))] rfl ?_
        exact t_tokB hR hn h40 hp k
      · refine rp_aload_n (i := 0) d_mod_token_43 rfl rfl ?_
        refine rp_iconst (v := 1) d_mod_token_44 (by decide) ?_
        refine rp_iload_n (i := 1) d_mod_token_45 rfl rfl ?_
        refine rp_iconst (v := 1) d_mod_token_46 (by decide) ?_
        refine rp_iadd d_mod_token_47 ?_
        refine rp_iload_n (i := 1) d_mod_token_48 rfl rfl ?_
        refine rp_iconst (v := 2) d_mod_token_49 (by decide) ?_
        refine rp_iadd d_mod_token_50 ?_
        refine rp_iload_n (i := 1) d_mod_token_51 rfl rfl ?_
        refine rp_iconst (v := 2) d_mod_token_52 (by decide) ?_
        refine rp_iadd d_mod_token_53 ?_
        refine rp_callV4 d_mod_token_54 q_mod_token_55 (Or.inl ⟨_, _, _, rfl, rfl⟩) (Nat.le_of_ble_eq_true rfl) (Nat.le_of_ble_eq_true rfl) ?_
        rw [show r_tok (r_g h n) n p = (1, nI (p + 1), nI (p + 2), p + 2) by simp [r_tok, c22, c36, c40], r_put_1 _ (by decide)] at k
        simp only [← nI_add] at k
        refine s_mod_meet ?_
        refine rp_goto (tgt := 336) d_mod_token_57 (by decide) ?_
        refine rp_return d_mod_token_336 rfl ?_
        exact k
  · refine rp_aload_n (i := 0) d_mod_token_25 rfl rfl ?_
    refine rp_iload_n (i := 1) d_mod_token_26 rfl rfl ?_
    refine rp_callV1 d_mod_token_27 q_mod_token_66 (Or.inl ⟨_, _, _, rfl, rfl⟩) (Nat.le_of_ble_eq_true rfl) (Nat.le_of_ble_eq_true rfl) ?_
    rw [show r_tok (r_g h n) n p = r_quo (r_g h n) n p by simp [r_tok, c22]] at k
    refine s_mod_quoted hR hn h40 rfl hp ?_
    refine rp_goto (tgt := 336) d_mod_token_30 (by decide) ?_
    refine rp_return d_mod_token_336 rfl ?_
    exact k
set_option maxHeartbeats 4000000 in
set_option maxRecDepth 100000 in
theorem s_mod_token {h : cf_H} {P : Option Value → cf_H → Prop} (hR : cf_ok h) {n : Nat} (hn : h.1 19 0 = nI n) (h40 : n ≤ 40) {x : Int32} {p : Nat} (hx : x = nI p) (hp : p < 2 ^ 26) (k : P none (r_put (cf_pI h 19 11 0) (r_tok (r_g h n) n p))) : RP k_mod_token 0 [(0, .ref 19), (1, .int x)] [] h P := by
  subst hx
  refine rp_aload_n (i := 0) d_mod_token_0 rfl rfl ?_
  refine rp_iconst (v := 0) d_mod_token_1 (by decide) ?_
  refine rp_putI d_mod_token_2 f_mod_39 rfl rfl rfl ?_
  have hR1 : cf_ok (cf_pI h 19 11 0) := hR
  have hn1 : (cf_pI h 19 11 0).1 19 0 = nI n := (cf_pI_k (by decide)).trans hn
  have hg1 : r_g (cf_pI h 19 11 0) n = r_g h n := rfl
  rw [← hg1] at k
  generalize cf_pI h 19 11 0 = h1 at hR1 hn1 k ⊢
  exact t_tok5 hR1 hn1 h40 hp k
