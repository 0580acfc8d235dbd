def c_cn2 (g : Nat → Int32) (p q : Nat) (neg : Bool) (tst : Int32) : Option (r_K × Nat) := if r_run g q 6 = 0 ∨ ¬ g (q + r_run g q 6) = 93 then none else some ((7, (bif neg then - c_val g q (r_run g q 6) 0 else c_val g q (r_run g q 6) 0), tst), q + r_run g q 6 + 1 - p)
def c_cnd (g : Nat → Int32) (p : Nat) : Option (r_K × Nat) :=
  if c_tst (r_cmp g (p + 1)) = 0 then none
  else if c_tst (r_cmp g (p + 1)) = 1 ∨ c_tst (r_cmp g (p + 1)) = 2 ∨ c_tst (r_cmp g (p + 1)) = 4 then (if g (p + 2) = 45 then c_cn2 g p (p + 3) true (c_tst (r_cmp g (p + 1))) else c_cn2 g p (p + 2) false (c_tst (r_cmp g (p + 1))))
  else (if g (p + 3) = 45 then c_cn2 g p (p + 4) true (c_tst (r_cmp g (p + 1))) else c_cn2 g p (p + 3) false (c_tst (r_cmp g (p + 1))))
def c_opn (h : cf_H) (t : Option (r_K × Nat)) : cf_H := match t with
  | some y => f_add h y.1.1 y.1.2.1 y.1.2.2
  | none => h
def c_wdn (t : Option (r_K × Nat)) : Int32 := match t with
  | some y => nI y.2
  | none => 0

set_option maxHeartbeats 4000000 in
set_option maxRecDepth 100000 in
theorem l_scn_cond {h : cf_H} {P : Option Value → cf_H → Prop} {n : Nat} (hS : c_S h n) {p q : Nat} {tst mi : Int32} (hq : q < 2 ^ 28) : ∀ (r d : Nat) (v : Int32), d + r = 6 → (k : RP k_scn_scanCondition 129 [(0, .ref 6), (1, .int (nI p)), (2, .int tst), (4, .int (nI q)), (5, .int mi), (6, .int (c_val (c_g h n) (q + d) (r_run (c_g h n) (q + d) r) v)), (7, .int (nI (d + r_run (c_g h n) (q + d) r)))] [] h P) → RP k_scn_scanCondition 80 [(0, .ref 6), (1, .int (nI p)), (2, .int tst), (4, .int (nI q)), (5, .int mi), (6, .int v), (7, .int (nI d))] [] h P := by
  obtain ⟨hR, hc, hn, h40, hv⟩ := id hS
  intro r
  induction r with
  | zero =>
    intro d v e k
    have e : d = 6 := e
    subst e
    refine rp_iload (i := 7) d_scn_scanCondition_80 rfl ?_
    refine rp_bipush (v := 6) d_scn_scanCondition_82 (by decide) ?_
    refine rp_icmp_ge (tgt := 129) d_scn_scanCondition_84 (by decide) (fun c84 => ?_) (fun c84 => ?_)
    · exact rp_lv _ rfl k
    · exact absurd (by decide) c84
  | succ r ih =>
    intro d v e k
    refine rp_iload (i := 7) d_scn_scanCondition_80 rfl ?_
    refine rp_bipush (v := 6) d_scn_scanCondition_82 (by decide) ?_
    refine rp_icmp_ge (tgt := 129) d_scn_scanCondition_84 (by decide) (fun c84 => ?_) (fun c84 => ?_)
    · exact absurd c84 (nI_ge (a := d) (b := 6) (by omega) (by decide))
    · refine rp_aload_n (i := 0) d_scn_scanCondition_87 rfl rfl ?_
      refine rp_aload_n (i := 0) d_scn_scanCondition_88 rfl rfl ?_
      refine rp_iload (i := 4) d_scn_scanCondition_89 rfl ?_
      refine rp_iload (i := 7) d_scn_scanCondition_91 rfl ?_
      refine rp_iadd d_scn_scanCondition_93 ?_
      refine rp_callV1 d_scn_scanCondition_94 q_scn_scanCondition_38 (Or.inl ⟨_, _, _, rfl, rfl⟩) (Nat.le_of_ble_eq_true rfl) (Nat.le_of_ble_eq_true rfl) ?_
      refine s_scn_at hS (j := q + d) (nI_add q d) (by omega) ?_
      refine rp_callV1 d_scn_scanCondition_97 q_scn_scanCondition_83 (Or.inl ⟨_, _, _, rfl, rfl⟩) (Nat.le_of_ble_eq_true rfl) (Nat.le_of_ble_eq_true rfl) ?_
      refine s_scn_isDigit ?_
      refine rp_if_eq (tgt := 129) d_scn_scanCondition_100 (by decide) (fun c100 => ?_) (fun c100 => ?_)
      · have hd : r_dg (c_g h n (q + d)) = false := by cases e2 : r_dg (c_g h n (q + d)) with | false => rfl | true => rw [e2] at c100; exact absurd c100 (by decide)
        rw [show r_run (c_g h n) (q + d) (r + 1) = 0 by rw [r_run, hd]; rfl] at k
        exact rp_lv _ rfl k
      · refine rp_iload (i := 6) d_scn_scanCondition_103 rfl ?_
        refine rp_bipush (v := 10) d_scn_scanCondition_105 (by decide) ?_
        refine rp_imul d_scn_scanCondition_107 ?_
        refine rp_aload_n (i := 0) d_scn_scanCondition_108 rfl rfl ?_
        refine rp_iload (i := 4) d_scn_scanCondition_109 rfl ?_
        refine rp_iload (i := 7) d_scn_scanCondition_111 rfl ?_
        refine rp_iadd d_scn_scanCondition_113 ?_
        refine rp_callV1 d_scn_scanCondition_114 q_scn_scanCondition_38 (Or.inl ⟨_, _, _, rfl, rfl⟩) (Nat.le_of_ble_eq_true rfl) (Nat.le_of_ble_eq_true rfl) ?_
        refine s_scn_at hS (j := q + d) (nI_add q d) (by omega) ?_
        refine rp_bipush (v := 48) d_scn_scanCondition_117 (by decide) ?_
        refine rp_isub d_scn_scanCondition_119 ?_
        refine rp_iadd d_scn_scanCondition_120 ?_
        refine rp_istore (i := 6) d_scn_scanCondition_121 rfl (Nat.le_of_ble_eq_true rfl) ?_
        refine rp_iinc (i := 7) (y := 1) d_scn_scanCondition_123 rfl (by decide) rfl (Nat.le_of_ble_eq_true rfl) ?_
        refine rp_goto (tgt := 80) d_scn_scanCondition_126 (by decide) ?_
        have hd : r_dg (c_g h n (q + d)) = true := by cases e2 : r_dg (c_g h n (q + d)) with | true => rfl | false => rw [e2] at c100; exact absurd rfl c100
        rw [show r_run (c_g h n) (q + d) (r + 1) = 1 + r_run (c_g h n) (q + d + 1) r by rw [r_run, hd]; rfl, Nat.add_comm 1, c_val] at k
        refine rp_lv [(0, .ref 6), (1, .int (nI p)), (2, .int tst), (4, .int (nI q)), (5, .int mi), (6, .int (v * 10 + (c_g h n (q + d) - 48))), (7, .int (nI (d + 1)))] (by simp only [nI_succ]; rfl) ?_
        refine ih (d + 1) _ (by omega) ?_
        rw [show d + 1 + r_run (c_g h n) (q + (d + 1)) r = d + (r_run (c_g h n) (q + d + 1) r + 1) by rw [Nat.add_assoc q d 1]; omega, ← Nat.add_assoc]
        exact k
set_option maxHeartbeats 4000000 in
set_option maxRecDepth 100000 in
theorem t_scn_cond1 {h : cf_H} {P : Option Value → cf_H → Prop} {n : Nat} (hS : c_S h n) {t : Nat} (ht : h.1 2 3 = nI t) (ht40 : t < 40) {p q : Nat} {tst : Int32} (hq : q < 2 ^ 28) (hp : p < q) (k : P (some (.int (c_wdn (c_cn2 (c_g h n) p q true tst)))) (c_opn h (c_cn2 (c_g h n) p q true tst))) : RP k_scn_scanCondition 80 [(0, .ref 6), (1, .int (nI p)), (2, .int tst), (4, .int (nI q)), (5, .int 1), (6, .int 0), (7, .int (nI 0))] [] h P := by
  obtain ⟨hR, hc, hn, h40, hv⟩ := id hS
  refine l_scn_cond hS hq 6 0 0 rfl ?_
  rw [Nat.zero_add, Nat.add_zero]
  have hle := r_run_le (c_g h n) 6 q
  unfold c_cn2 at k
  generalize r_run (c_g h n) q 6 = m at k hle ⊢
  generalize c_val (c_g h n) q m 0 = v at k ⊢
  refine rp_iload (i := 7) d_scn_scanCondition_129 rfl ?_
  refine rp_if_eq (tgt := 148) d_scn_scanCondition_131 (by decide) (fun c131 => ?_) (fun c131 => ?_)
  · refine rp_iconst (v := 0) d_scn_scanCondition_148 (by decide) ?_
    refine rp_ireturn (ty := .int) d_scn_scanCondition_149 rfl rfl ?_
    rw [if_pos (Or.inl ((z_eq (by omega)).mp c131))] at k
    exact k
  · refine rp_aload_n (i := 0) d_scn_scanCondition_134 rfl rfl ?_
    refine rp_iload (i := 4) d_scn_scanCondition_135 rfl ?_
    refine rp_iload (i := 7) d_scn_scanCondition_137 rfl ?_
    refine rp_iadd d_scn_scanCondition_139 ?_
    refine rp_callV1 d_scn_scanCondition_140 q_scn_scanCondition_38 (Or.inl ⟨_, _, _, rfl, rfl⟩) (Nat.le_of_ble_eq_true rfl) (Nat.le_of_ble_eq_true rfl) ?_
    refine s_scn_at hS (j := q + m) (nI_add q m) (by omega) ?_
    refine rp_bipush (v := 93) d_scn_scanCondition_143 (by decide) ?_
    refine rp_icmp_eq (tgt := 150) d_scn_scanCondition_145 (by decide) (fun c145 => ?_) (fun c145 => ?_)
    · refine rp_aload_n (i := 0) d_scn_scanCondition_150 rfl rfl ?_
      refine rp_getR d_scn_scanCondition_151 f_scn_9 rfl (hR _ _ _ rfl) ?_
      refine rp_bipush (v := 7) d_scn_scanCondition_154 (by decide) ?_
      refine rp_iload (i := 5) d_scn_scanCondition_156 rfl ?_
      refine rp_if_eq (tgt := 167) d_scn_scanCondition_158 (by decide) (fun c158 => ?_) (fun c158 => ?_)
      · exact absurd c158 (by decide)
      · refine rp_iload (i := 6) d_scn_scanCondition_161 rfl ?_
        refine rp_ineg d_scn_scanCondition_163 ?_
        refine rp_goto (tgt := 169) d_scn_scanCondition_164 (by decide) ?_
        refine rp_iload_n (i := 2) d_scn_scanCondition_169 rfl rfl ?_
        refine rp_callV3 d_scn_scanCondition_170 q_scn_scanCondition_71 (Or.inl ⟨_, _, _, rfl, rfl⟩) (Nat.le_of_ble_eq_true rfl) (Nat.le_of_ble_eq_true rfl) ?_
        rw [if_neg (fun z => z.elim (fun y => c131 ((z_eq (by omega)).mpr y)) (fun y => y c145))] at k
        refine s_tok_add hR ht ht40 ?_
        refine rp_iload (i := 4) d_scn_scanCondition_173 rfl ?_
        refine rp_iload (i := 7) d_scn_scanCondition_175 rfl ?_
        refine rp_iadd d_scn_scanCondition_177 ?_
        refine rp_iconst (v := 1) d_scn_scanCondition_178 (by decide) ?_
        refine rp_iadd d_scn_scanCondition_179 ?_
        refine rp_iload_n (i := 1) d_scn_scanCondition_180 rfl rfl ?_
        refine rp_isub d_scn_scanCondition_181 ?_
        refine rp_ireturn (ty := .int) d_scn_scanCondition_182 rfl rfl ?_
        rw [nI_add, nI_1, pk_sub (by omega)]
        exact k
    · refine rp_iconst (v := 0) d_scn_scanCondition_148 (by decide) ?_
      refine rp_ireturn (ty := .int) d_scn_scanCondition_149 rfl rfl ?_
      rw [if_pos (Or.inr c145)] at k
      exact k
set_option maxHeartbeats 4000000 in
set_option maxRecDepth 100000 in
theorem t_scn_cond0 {h : cf_H} {P : Option Value → cf_H → Prop} {n : Nat} (hS : c_S h n) {t : Nat} (ht : h.1 2 3 = nI t) (ht40 : t < 40) {p q : Nat} {tst : Int32} (hq : q < 2 ^ 28) (hp : p < q) (k : P (some (.int (c_wdn (c_cn2 (c_g h n) p q false tst)))) (c_opn h (c_cn2 (c_g h n) p q false tst))) : RP k_scn_scanCondition 80 [(0, .ref 6), (1, .int (nI p)), (2, .int tst), (4, .int (nI q)), (5, .int 0), (6, .int 0), (7, .int (nI 0))] [] h P := by
  obtain ⟨hR, hc, hn, h40, hv⟩ := id hS
  refine l_scn_cond hS hq 6 0 0 rfl ?_
  rw [Nat.zero_add, Nat.add_zero]
  have hle := r_run_le (c_g h n) 6 q
  unfold c_cn2 at k
  generalize r_run (c_g h n) q 6 = m at k hle ⊢
  generalize c_val (c_g h n) q m 0 = v at k ⊢
  refine rp_iload (i := 7) d_scn_scanCondition_129 rfl ?_
  refine rp_if_eq (tgt := 148) d_scn_scanCondition_131 (by decide) (fun c131 => ?_) (fun c131 => ?_)
  · refine rp_iconst (v := 0) d_scn_scanCondition_148 (by decide) ?_
    refine rp_ireturn (ty := .int) d_scn_scanCondition_149 rfl rfl ?_
    rw [if_pos (Or.inl ((z_eq (by omega)).mp c131))] at k
    exact k
  · refine rp_aload_n (i := 0) d_scn_scanCondition_134 rfl rfl ?_
    refine rp_iload (i := 4) d_scn_scanCondition_135 rfl ?_
    refine rp_iload (i := 7) d_scn_scanCondition_137 rfl ?_
    refine rp_iadd d_scn_scanCondition_139 ?_
    refine rp_callV1 d_scn_scanCondition_140 q_scn_scanCondition_38 (Or.inl ⟨_, _, _, rfl, rfl⟩) (Nat.le_of_ble_eq_true rfl) (Nat.le_of_ble_eq_true rfl) ?_
    refine s_scn_at hS (j := q + m) (nI_add q m) (by omega) ?_
    refine rp_bipush (v := 93) d_scn_scanCondition_143 (by decide) ?_
    refine rp_icmp_eq (tgt := 150) d_scn_scanCondition_145 (by decide) (fun c145 => ?_) (fun c145 => ?_)
    · refine rp_aload_n (i := 0) d_scn_scanCondition_150 rfl rfl ?_
      refine rp_getR d_scn_scanCondition_151 f_scn_9 rfl (hR _ _ _ rfl) ?_
      refine rp_bipush (v := 7) d_scn_scanCondition_154 (by decide) ?_
      refine rp_iload (i := 5) d_scn_scanCondition_156 rfl ?_
      refine rp_if_eq (tgt := 167) d_scn_scanCondition_158 (by decide) (fun c158 => ?_) (fun c158 => ?_)
      · refine rp_iload (i := 6) d_scn_scanCondition_167 rfl ?_
        refine rp_iload_n (i := 2) d_scn_scanCondition_169 rfl rfl ?_
        refine rp_callV3 d_scn_scanCondition_170 q_scn_scanCondition_71 (Or.inl ⟨_, _, _, rfl, rfl⟩) (Nat.le_of_ble_eq_true rfl) (Nat.le_of_ble_eq_true rfl) ?_
        rw [if_neg (fun z => z.elim (fun y => c131 ((z_eq (by omega)).mpr y)) (fun y => y c145))] at k
        refine s_tok_add hR ht ht40 ?_
        refine rp_iload (i := 4) d_scn_scanCondition_173 rfl ?_
        refine rp_iload (i := 7) d_scn_scanCondition_175 rfl ?_
        refine rp_iadd d_scn_scanCondition_177 ?_
        refine rp_iconst (v := 1) d_scn_scanCondition_178 (by decide) ?_
        refine rp_iadd d_scn_scanCondition_179 ?_
        refine rp_iload_n (i := 1) d_scn_scanCondition_180 rfl rfl ?_
        refine rp_isub d_scn_scanCondition_181 ?_
        refine rp_ireturn (ty := .int) d_scn_scanCondition_182 rfl rfl ?_
        rw [nI_add, nI_1, pk_sub (by omega)]
        exact k
      · exact absurd rfl c158
    · refine rp_iconst (v := 0) d_scn_scanCondition_148 (by decide) ?_
      refine rp_ireturn (ty := .int) d_scn_scanCondition_149 rfl rfl ?_
      rw [if_pos (Or.inr c145)] at k
      exact k
set_option maxHeartbeats 4000000 in
set_option maxRecDepth 100000 in
theorem s_scn_scanCondition {h : cf_H} {P : Option Value → cf_H → Prop} {n : Nat} (hS : c_S h n) {t : Nat} (ht : h.1 2 3 = nI t) (ht40 : t < 40) {x : Int32} {p : Nat} (hx : x = nI p) (hp : p < 2 ^ 26) (k : P (some (.int (c_wdn (c_cnd (c_g h n) p)))) (c_opn h (c_cnd (c_g h n) p))) : RP k_scn_scanCondition 0 [(0, .ref 6), (1, .int x)] [] h P := by
  subst hx
  obtain ⟨hR, hc, hn, h40, hv⟩ := id hS
  refine rp_aload_n (i := 0) d_scn_scanCondition_0 rfl rfl ?_
  refine rp_iload_n (i := 1) d_scn_scanCondition_1 rfl rfl ?_
  refine rp_iconst (v := 1) d_scn_scanCondition_2 (by decide) ?_
  refine rp_iadd d_scn_scanCondition_3 ?_
  refine rp_callV1 d_scn_scanCondition_4 q_scn_scanCondition_80 (Or.inl ⟨_, _, _, rfl, rfl⟩) (Nat.le_of_ble_eq_true rfl) (Nat.le_of_ble_eq_true rfl) ?_
  refine s_scn_testAt hS (j := p + 1) (nI_add p 1) (by omega) ?_
  refine rp_istore_n (i := 2) d_scn_scanCondition_7 rfl rfl (Nat.le_of_ble_eq_true rfl) ?_
  refine rp_iload_n (i := 2) d_scn_scanCondition_8 rfl rfl ?_
  refine rp_if_ne (tgt := 14) d_scn_scanCondition_9 (by decide) (fun c9 => ?_) (fun c9 => ?_)
  · refine rp_iload_n (i := 2) d_scn_scanCondition_14 rfl rfl ?_
    refine rp_iconst (v := 1) d_scn_scanCondition_15 (by decide) ?_
    refine rp_icmp_eq (tgt := 29) d_scn_scanCondition_16 (by decide) (fun c16 => ?_) (fun c16 => ?_)
    · refine rp_iconst (v := 1) d_scn_scanCondition_29 (by decide) ?_
      refine rp_goto (tgt := 34) d_scn_scanCondition_30 (by decide) ?_
      refine rp_istore_n (i := 3) d_scn_scanCondition_34 rfl rfl (Nat.le_of_ble_eq_true rfl) ?_
      refine rp_iload_n (i := 1) d_scn_scanCondition_35 rfl rfl ?_
      refine rp_iload_n (i := 3) d_scn_scanCondition_36 rfl rfl ?_
      refine rp_if_eq (tgt := 44) d_scn_scanCondition_37 (by decide) (fun c37 => ?_) (fun c37 => ?_)
      · exact absurd c37 (by decide)
      · refine rp_iconst (v := 2) d_scn_scanCondition_40 (by decide) ?_
        refine rp_goto (tgt := 45) d_scn_scanCondition_41 (by decide) ?_
        refine rp_iadd d_scn_scanCondition_45 ?_
        refine rp_istore (i := 4) d_scn_scanCondition_46 rfl (Nat.le_of_ble_eq_true rfl) ?_
        refine rp_aload_n (i := 0) d_scn_scanCondition_48 rfl rfl ?_
        refine rp_iload (i := 4) d_scn_scanCondition_49 rfl ?_
        refine rp_callV1 d_scn_scanCondition_51 q_scn_scanCondition_38 (Or.inl ⟨_, _, _, rfl, rfl⟩) (Nat.le_of_ble_eq_true rfl) (Nat.le_of_ble_eq_true rfl) ?_
        refine s_scn_at hS (j := p + 2) (nI_add p 2) (by omega) ?_
        refine rp_bipush (v := 45) d_scn_scanCondition_54 (by decide) ?_
        refine rp_icmp_ne (tgt := 63) d_scn_scanCondition_56 (by decide) (fun c56 => ?_) (fun c56 => ?_)
        · refine rp_iconst (v := 0) d_scn_scanCondition_63 (by decide) ?_
          refine rp_istore (i := 5) d_scn_scanCondition_64 rfl (Nat.le_of_ble_eq_true rfl) ?_
          refine rp_iload (i := 5) d_scn_scanCondition_66 rfl ?_
          refine rp_if_eq (tgt := 74) d_scn_scanCondition_68 (by decide) (fun c68 => ?_) (fun c68 => ?_)
          · refine rp_iconst (v := 0) d_scn_scanCondition_74 (by decide) ?_
            refine rp_istore (i := 6) d_scn_scanCondition_75 rfl (Nat.le_of_ble_eq_true rfl) ?_
            refine rp_iconst (v := 0) d_scn_scanCondition_77 (by decide) ?_
            refine rp_istore (i := 7) d_scn_scanCondition_78 rfl (Nat.le_of_ble_eq_true rfl) ?_
            refine rp_lv [(0, .ref 6), (1, .int (nI p)), (2, .int (c_tst (r_cmp (c_g h n) (p + 1)))), (4, .int (nI (p + 2))), (5, .int 0), (6, .int 0), (7, .int (nI 0))] (by rw [← nI_add p 2]; rfl) ?_
            refine t_scn_cond0 hS ht ht40 (by omega) (by omega) ?_
            unfold c_cnd at k
            simpa [c9, c16, c37, c56, c68] using k
          · exact absurd (by decide) c68
        · refine rp_iconst (v := 1) d_scn_scanCondition_59 (by decide) ?_
          refine rp_goto (tgt := 64) d_scn_scanCondition_60 (by decide) ?_
          refine rp_istore (i := 5) d_scn_scanCondition_64 rfl (Nat.le_of_ble_eq_true rfl) ?_
          refine rp_iload (i := 5) d_scn_scanCondition_66 rfl ?_
          refine rp_if_eq (tgt := 74) d_scn_scanCondition_68 (by decide) (fun c68 => ?_) (fun c68 => ?_)
          · exact absurd c68 (by decide)
          · refine rp_iinc (i := 4) (y := 1) d_scn_scanCondition_71 rfl (by decide) rfl (Nat.le_of_ble_eq_true rfl) ?_
            refine rp_iconst (v := 0) d_scn_scanCondition_74 (by decide) ?_
            refine rp_istore (i := 6) d_scn_scanCondition_75 rfl (Nat.le_of_ble_eq_true rfl) ?_
            refine rp_iconst (v := 0) d_scn_scanCondition_77 (by decide) ?_
            refine rp_istore (i := 7) d_scn_scanCondition_78 rfl (Nat.le_of_ble_eq_true rfl) ?_
            refine rp_lv [(0, .ref 6), (1, .int (nI p)), (2, .int (c_tst (r_cmp (c_g h n) (p + 1)))), (4, .int (nI (p + 3))), (5, .int 1), (6, .int 0), (7, .int (nI 0))] (by rw [show nI (p + 3) = nI p + nI 2 + 1 by rw [nI_add, nI_1]]; rfl) ?_
            refine t_scn_cond1 hS ht ht40 (by omega) (by omega) ?_
            unfold c_cnd at k
            simpa [c9, c16, c37, c56, c68] using k
    · refine rp_iload_n (i := 2) d_scn_scanCondition_19 rfl rfl ?_
      refine rp_iconst (v := 2) d_scn_scanCondition_20 (by decide) ?_
      refine rp_icmp_eq (tgt := 29) d_scn_scanCondition_21 (by decide) (fun c21 => ?_) (fun c21 => ?_)
      · refine rp_iconst (v := 1) d_scn_scanCondition_29 (by decide) ?_
        refine rp_goto (tgt := 34) d_scn_scanCondition_30 (by decide) ?_
        refine rp_istore_n (i := 3) d_scn_scanCondition_34 rfl rfl (Nat.le_of_ble_eq_true rfl) ?_
        refine rp_iload_n (i := 1) d_scn_scanCondition_35 rfl rfl ?_
        refine rp_iload_n (i := 3) d_scn_scanCondition_36 rfl rfl ?_
        refine rp_if_eq (tgt := 44) d_scn_scanCondition_37 (by decide) (fun c37 => ?_) (fun c37 => ?_)
        · exact absurd c37 (by decide)
        · refine rp_iconst (v := 2) d_scn_scanCondition_40 (by decide) ?_
          refine rp_goto (tgt := 45) d_scn_scanCondition_41 (by decide) ?_
          refine rp_iadd d_scn_scanCondition_45 ?_
          refine rp_istore (i := 4) d_scn_scanCondition_46 rfl (Nat.le_of_ble_eq_true rfl) ?_
          refine rp_aload_n (i := 0) d_scn_scanCondition_48 rfl rfl ?_
          refine rp_iload (i := 4) d_scn_scanCondition_49 rfl ?_
          refine rp_callV1 d_scn_scanCondition_51 q_scn_scanCondition_38 (Or.inl ⟨_, _, _, rfl, rfl⟩) (Nat.le_of_ble_eq_true rfl) (Nat.le_of_ble_eq_true rfl) ?_
          refine s_scn_at hS (j := p + 2) (nI_add p 2) (by omega) ?_
          refine rp_bipush (v := 45) d_scn_scanCondition_54 (by decide) ?_
          refine rp_icmp_ne (tgt := 63) d_scn_scanCondition_56 (by decide) (fun c56 => ?_) (fun c56 => ?_)
          · refine rp_iconst (v := 0) d_scn_scanCondition_63 (by decide) ?_
            refine rp_istore (i := 5) d_scn_scanCondition_64 rfl (Nat.le_of_ble_eq_true rfl) ?_
            refine rp_iload (i := 5) d_scn_scanCondition_66 rfl ?_
            refine rp_if_eq (tgt := 74) d_scn_scanCondition_68 (by decide) (fun c68 => ?_) (fun c68 => ?_)
            · refine rp_iconst (v := 0) d_scn_scanCondition_74 (by decide) ?_
              refine rp_istore (i := 6) d_scn_scanCondition_75 rfl (Nat.le_of_ble_eq_true rfl) ?_
              refine rp_iconst (v := 0) d_scn_scanCondition_77 (by decide) ?_
              refine rp_istore (i := 7) d_scn_scanCondition_78 rfl (Nat.le_of_ble_eq_true rfl) ?_
              refine rp_lv [(0, .ref 6), (1, .int (nI p)), (2, .int (c_tst (r_cmp (c_g h n) (p + 1)))), (4, .int (nI (p + 2))), (5, .int 0), (6, .int 0), (7, .int (nI 0))] (by rw [← nI_add p 2]; rfl) ?_
              refine t_scn_cond0 hS ht ht40 (by omega) (by omega) ?_
              unfold c_cnd at k
              simpa [c9, c16, c21, c37, c56, c68] using k
            · exact absurd (by decide) c68
          · refine rp_iconst (v := 1) d_scn_scanCondition_59 (by decide) ?_
            refine rp_goto (tgt := 64) d_scn_scanCondition_60 (by decide) ?_
            refine rp_istore (i := 5) d_scn_scanCondition_64 rfl (Nat.le_of_ble_eq_true rfl) ?_
            refine rp_iload (i := 5) d_scn_scanCondition_66 rfl ?_
            refine rp_if_eq (tgt := 74) d_scn_scanCondition_68 (by decide) (fun c68 => ?_) (fun c68 => ?_)
            · exact absurd c68 (by decide)
            · refine rp_iinc (i := 4) (y := 1) d_scn_scanCondition_71 rfl (by decide) rfl (Nat.le_of_ble_eq_true rfl) ?_
              refine rp_iconst (v := 0) d_scn_scanCondition_74 (by decide) ?_
              refine rp_istore (i := 6) d_scn_scanCondition_75 rfl (Nat.le_of_ble_eq_true rfl) ?_
              refine rp_iconst (v := 0) d_scn_scanCondition_77 (by decide) ?_
              refine rp_istore (i := 7) d_scn_scanCondition_78 rfl (Nat.le_of_ble_eq_true rfl) ?_
              refine rp_lv [(0, .ref 6), (1, .int (nI p)), (2, .int (c_tst (r_cmp (c_g h n) (p + 1)))), (4, .int (nI (p + 3))), (5, .int 1), (6, .int 0), (7, .int (nI 0))] (by rw [show nI (p + 3) = nI p + nI 2 + 1 by rw [nI_add, nI_1]]; rfl) ?_
              refine t_scn_cond1 hS ht ht40 (by omega) (by omega) ?_
              unfold c_cnd at k
              simpa [c9, c16, c21, c37, c56, c68] using k
      · refine rp_iload_n (i := 2) d_scn_scanCondition_24 rfl rfl ?_
        refine rp_iconst (v := 4) d_scn_scanCondition_25 (by decide) ?_
        refine rp_icmp_ne (tgt := 33) d_scn_scanCondition_26 (by decide) (fun c26 => ?_) (fun c26 => ?_)
        · refine rp_iconst (v := 0) d_scn_scanCondition_33 (by decide) ?_
          refine rp_istore_n (i := 3) d_scn_scanCondition_34 rfl rfl (Nat.le_of_ble_eq_true rfl) ?_
          refine rp_iload_n (i := 1) d_scn_scanCondition_35 rfl rfl ?_
          refine rp_iload_n (i := 3) d_scn_scanCondition_36 rfl rfl ?_
          refine rp_if_eq (tgt := 44) d_scn_scanCondition_37 (by decide) (fun c37 => ?_) (fun c37 => ?_)
          · refine rp_iconst (v := 3) d_scn_scanCondition_44 (by decide) ?_
            refine rp_iadd d_scn_scanCondition_45 ?_
            refine rp_istore (i := 4) d_scn_scanCondition_46 rfl (Nat.le_of_ble_eq_true rfl) ?_
            refine rp_aload_n (i := 0) d_scn_scanCondition_48 rfl rfl ?_
            refine rp_iload (i := 4) d_scn_scanCondition_49 rfl ?_
            refine rp_callV1 d_scn_scanCondition_51 q_scn_scanCondition_38 (Or.inl ⟨_, _, _, rfl, rfl⟩) (Nat.le_of_ble_eq_true rfl) (Nat.le_of_ble_eq_true rfl) ?_
            refine s_scn_at hS (j := p + 3) (nI_add p 3) (by omega) ?_
            refine rp_bipush (v := 45) d_scn_scanCondition_54 (by decide) ?_
            refine rp_icmp_ne (tgt := 63) d_scn_scanCondition_56 (by decide) (fun c56 => ?_) (fun c56 => ?_)
            · refine rp_iconst (v := 0) d_scn_scanCondition_63 (by decide) ?_
              refine rp_istore (i := 5) d_scn_scanCondition_64 rfl (Nat.le_of_ble_eq_true rfl) ?_
              refine rp_iload (i := 5) d_scn_scanCondition_66 rfl ?_
              refine rp_if_eq (tgt := 74) d_scn_scanCondition_68 (by decide) (fun c68 => ?_) (fun c68 => ?_)
              · refine rp_iconst (v := 0) d_scn_scanCondition_74 (by decide) ?_
                refine rp_istore (i := 6) d_scn_scanCondition_75 rfl (Nat.le_of_ble_eq_true rfl) ?_
                refine rp_iconst (v := 0) d_scn_scanCondition_77 (by decide) ?_
                refine rp_istore (i := 7) d_scn_scanCondition_78 rfl (Nat.le_of_ble_eq_true rfl) ?_
                refine rp_lv [(0, .ref 6), (1, .int (nI p)), (2, .int (c_tst (r_cmp (c_g h n) (p + 1)))), (4, .int (nI (p + 3))), (5, .int 0), (6, .int 0), (7, .int (nI 0))] (by rw [← nI_add p 3]; rfl) ?_
                refine t_scn_cond0 hS ht ht40 (by omega) (by omega) ?_
                unfold c_cnd at k
                simpa [c9, c16, c21, c26, c37, c56, c68] using k
              · exact absurd (by decide) c68
            · refine rp_iconst (v := 1) d_scn_scanCondition_59 (by decide) ?_
              refine rp_goto (tgt := 64) d_scn_scanCondition_60 (by decide) ?_
              refine rp_istore (i := 5) d_scn_scanCondition_64 rfl (Nat.le_of_ble_eq_true rfl) ?_
              refine rp_iload (i := 5) d_scn_scanCondition_66 rfl ?_
              refine rp_if_eq (tgt := 74) d_scn_scanCondition_68 (by decide) (fun c68 => ?_) (fun c68 => ?_)
              · exact absurd c68 (by decide)
              · refine rp_iinc (i := 4) (y := 1) d_scn_scanCondition_71 rfl (by decide) rfl (Nat.le_of_ble_eq_true rfl) ?_
                refine rp_iconst (v := 0) d_scn_scanCondition_74 (by decide) ?_
                refine rp_istore (i := 6) d_scn_scanCondition_75 rfl (Nat.le_of_ble_eq_true rfl) ?_
                refine rp_iconst (v := 0) d_scn_scanCondition_77 (by decide) ?_
                refine rp_istore (i := 7) d_scn_scanCondition_78 rfl (Nat.le_of_ble_eq_true rfl) ?_
                refine rp_lv [(0, .ref 6), (1, .int (nI p)), (2, .int (c_tst (r_cmp (c_g h n) (p + 1)))), (4, .int (nI (p + 4))), (5, .int 1), (6, .int 0), (7, .int (nI 0))] (by rw [show nI (p + 4) = nI p + nI 3 + 1 by rw [nI_add, nI_1]]; rfl) ?_
                refine t_scn_cond1 hS ht ht40 (by omega) (by omega) ?_
                unfold c_cnd at k
                simpa [c9, c16, c21, c26, c37, c56, c68] using k
          · exact absurd (by decide) c37
        · refine rp_iconst (v := 1) d_scn_scanCondition_29 (by decide) ?_
          refine rp_goto (tgt := 34) d_scn_scanCondition_30 (by decide) ?_
          refine rp_istore_n (i := 3) d_scn_scanCondition_34 rfl rfl (Nat.le_of_ble_eq_true rfl) ?_
          refine rp_iload_n (i := 1) d_scn_scanCondition_35 rfl rfl ?_
          refine rp_iload_n (i := 3) d_scn_scanCondition_36 rfl rfl ?_
          refine rp_if_eq (tgt := 44) d_scn_scanCondition_37 (by decide) (fun c37 => ?_) (fun c37 => ?_)
          · exact absurd c37 (by decide)
          · refine rp_iconst (v := 2) d_scn_scanCondition_40 (by decide) ?_
            refine rp_goto (tgt := 45) d_scn_scanCondition_41 (by decide) ?_
            refine rp_iadd d_scn_scanCondition_45 ?_
            refine rp_istore (i := 4) d_scn_scanCondition_46 rfl (Nat.le_of_ble_eq_true rfl) ?_
            refine rp_aload_n (i := 0) d_scn_scanCondition_48 rfl rfl ?_
            refine rp_iload (i := 4) d_scn_scanCondition_49 rfl ?_
            refine rp_callV1 d_scn_scanCondition_51 q_scn_scanCondition_38 (Or.inl ⟨_, _, _, rfl, rfl⟩) (Nat.le_of_ble_eq_true rfl) (Nat.le_of_ble_eq_true rfl) ?_
            refine s_scn_at hS (j := p + 2) (nI_add p 2) (by omega) ?_
            refine rp_bipush (v := 45) d_scn_scanCondition_54 (by decide) ?_
            refine rp_icmp_ne (tgt := 63) d_scn_scanCondition_56 (by decide) (fun c56 => ?_) (fun c56 => ?_)
            · refine rp_iconst (v := 0) d_scn_scanCondition_63 (by decide) ?_
              refine rp_istore (i := 5) d_scn_scanCondition_64 rfl (Nat.le_of_ble_eq_true rfl) ?_
              refine rp_iload (i := 5) d_scn_scanCondition_66 rfl ?_
              refine rp_if_eq (tgt := 74) d_scn_scanCondition_68 (by decide) (fun c68 => ?_) (fun c68 => ?_)
              · refine rp_iconst (v := 0) d_scn_scanCondition_74 (by decide) ?_
                refine rp_istore (i := 6) d_scn_scanCondition_75 rfl (Nat.le_of_ble_eq_true rfl) ?_
                refine rp_iconst (v := 0) d_scn_scanCondition_77 (by decide) ?_
                refine rp_istore (i := 7) d_scn_scanCondition_78 rfl (Nat.le_of_ble_eq_true rfl) ?_
                refine rp_lv [(0, .ref 6), (1, .int (nI p)), (2, .int (c_tst (r_cmp (c_g h n) (p + 1)))), (4, .int (nI (p + 2))), (5, .int 0), (6, .int 0), (7, .int (nI 0))] (by rw [← nI_add p 2]; rfl) ?_
                refine t_scn_cond0 hS ht ht40 (by omega) (by omega) ?_
                unfold c_cnd at k
                simpa [c9, c16, c21, c26, c37, c56, c68] using k
              · exact absurd (by decide) c68
            · refine rp_iconst (v := 1) d_scn_scanCondition_59 (by decide) ?_
              refine rp_goto (tgt := 64) d_scn_scanCondition_60 (by decide) ?_
              refine rp_istore (i := 5) d_scn_scanCondition_64 rfl (Nat.le_of_ble_eq_true rfl) ?_
              refine rp_iload (i := 5) d_scn_scanCondition_66 rfl ?_
              refine rp_if_eq (tgt := 74) d_scn_scanCondition_68 (by decide) (fun c68 => ?_) (fun c68 => ?_)
              · exact absurd c68 (by decide)
              · refine rp_iinc (i := 4) (y := 1) d_scn_scanCondition_71 rfl (by decide) rfl (Nat.le_of_ble_eq_true rfl) ?_
                refine rp_iconst (v := 0) d_scn_scanCondition_74 (by decide) ?_
                refine rp_istore (i := 6) d_scn_scanCondition_75 rfl (Nat.le_of_ble_eq_true rfl) ?_
                refine rp_iconst (v := 0) d_scn_scanCondition_77 (by decide) ?_
                refine rp_istore (i := 7) d_scn_scanCondition_78 rfl (Nat.le_of_ble_eq_true rfl) ?_
                refine rp_lv [(0, .ref 6), (1, .int (nI p)), (2, .int (c_tst (r_cmp (c_g h n) (p + 1)))), (4, .int (nI (p + 3))), (5, .int 1), (6, .int 0), (7, .int (nI 0))] (by rw [show nI (p + 3) = nI p + nI 2 + 1 by rw [nI_add, nI_1]]; rfl) ?_
                refine t_scn_cond1 hS ht ht40 (by omega) (by omega) ?_
                unfold c_cnd at k
                simpa [c9, c16, c21, c26, c37, c56, c68] using k
  · refine rp_iconst (v := 0) d_scn_scanCondition_12 (by decide) ?_
    refine rp_ireturn (ty := .int) d_scn_scanCondition_13 rfl rfl ?_
    rw [c_cnd, if_pos c9] at k
    exact k
