/-! THE CLASS: Scanner, tokens -/
theorem j_bare : ∀ q, q < 127 → (j_ix 3 16 (nI q) < 0 ↔ r_bare (nI q) = false) := by decide +kernel
theorem j_pl : ∀ q, q < 127 → (j_ix 4 3 (nI q) < 0 ↔ ¬ (nI q = 48 ∨ nI q = 35 ∨ nI q = 63)) := by decide +kernel
theorem j_fl : ∀ q, q < 127 → (j_ix 2 5 (nI q) < 0 ↔ ¬ (nI q = 121 ∨ nI q = 109 ∨ nI q = 100 ∨ nI q = 104 ∨ nI q = 115)) := by decide +kernel
theorem j_el : ∀ q, q < 127 → (j_ix 0 3 (nI q) < 0 ↔ ¬ (nI q = 104 ∨ nI q = 109 ∨ nI q = 115)) := by decide +kernel
theorem c_g127 {h : cf_H} {n : Nat} (hS : c_S h n) (j : Nat) : ∃ q, q < 127 ∧ c_g h n j = nI q := by
  rw [c_g, r_at]
  by_cases e : j < n
  · rw [if_pos e]
    obtain ⟨q, h1, h2, h3⟩ := c_chr (hS.2.2.2.2 j e)
    exact ⟨q, by omega, h3⟩
  · rw [if_neg e]; exact ⟨0, by decide, rfl⟩
theorem f_add_A {h : cf_H} {a b c : Int32} {o : Nat} (ho : o ≠ 3 ∧ o ≠ 4 ∧ o ≠ 5) : (f_add h a b c).2.2.2 o = h.2.2.2 o := by
  unfold f_add
  rw [g_I2, g_A4, if_neg ho.2.2, g_A4, if_neg ho.2.1, g_A4, if_neg ho.1]
theorem f_add_I {h : cf_H} {a b c : Int32} {o k : Nat} (ho : ¬ (o = 2 ∧ k = 3)) : (f_add h a b c).1 o k = h.1 o k := by
  unfold f_add
  rw [g_I1, if_neg ho]
  rfl
theorem f_add_t {h : cf_H} {a b c : Int32} {t : Nat} (ht : h.1 2 3 = nI t) : (f_add h a b c).1 2 3 = nI (t + 1) := by
  unfold f_add
  rw [cf_pI_s, ht, nI_1]
theorem f_add_J {h : cf_H} {a b c : Int32} : (f_add h a b c).2.1 = h.2.1 := rfl
theorem f_add_R {h : cf_H} {a b c : Int32} : (f_add h a b c).2.2.1 = h.2.2.1 := rfl
theorem c_S_add {h : cf_H} {n : Nat} (hS : c_S h n) (a b c : Int32) : c_S (f_add h a b c) n := by
  obtain ⟨hR, hc, hn, h40, hv⟩ := hS
  refine ⟨fun o k q e => by rw [f_add_R]; exact hR o k q e, by rw [f_add_R]; exact hc, by rw [f_add_I (by decide)]; exact hn, h40, ?_⟩
  rw [f_add_A (by decide)]
  exact hv
theorem c_g_add {h : cf_H} {n : Nat} {a b c : Int32} : c_g (f_add h a b c) n = c_g h n := by unfold c_g; rw [f_add_A (by decide)]
def c_sgl (x : Int32) : Option r_K := if r_bare x = true then some (1, x, 0) else if x = 48 ∨ x = 35 ∨ x = 63 then some (2, x, 0) else if x = 46 then some (3, x, 0) else if x = 44 then some (4, x, 0) else if x = 37 then some (5, x, 0) else if x = 59 then some (11, x, 0) else none
def c_opt (h : cf_H) (t : Option r_K) : cf_H := match t with
  | some y => f_add h y.1 y.2.1 y.2.2
  | none => h
def c_wd (t : Option r_K) (w : Int32) : Int32 := match t with
  | some _ => w
  | none => 0

set_option maxHeartbeats 4000000 in
set_option maxRecDepth 100000 in
theorem s_scn_scanSingle {h : cf_H} {P : Option Value → cf_H → Prop} {n : Nat} (hS : c_S h n) {t : Nat} (ht : h.1 2 3 = nI t) (ht40 : t < 40) {x : Int32} (hx : ∃ q, q < 127 ∧ x = nI q) (k : P (some (.int (c_wd (c_sgl x) 1))) (c_opt h (c_sgl x))) : RP k_scn_scanSingle 0 [(0, .ref 6), (1, .int x)] [] h P := by
  obtain ⟨q, hq, rfl⟩ := hx
  obtain ⟨hR, hc, hn, h40, hv⟩ := id hS
  refine rp_ldcS (i := 3) d_scn_scanSingle_0 rfl ?_
  refine rp_iload_n (i := 1) d_scn_scanSingle_2 rfl rfl ?_
  refine rp_callV1 d_scn_scanSingle_3 q_scn_scanSingle_59 (Or.inr ⟨3, _, rfl, rfl, rfl⟩) (Nat.le_of_ble_eq_true rfl) (Nat.le_of_ble_eq_true rfl) ?_
  refine s_str_indexOf_I (L := 16) rfl rfl (by decide) (by decide) ?_
  refine rp_if_lt (tgt := 22) d_scn_scanSingle_6 (by decide) (fun c6 => ?_) (fun c6 => ?_)
  · refine rp_ldcS (i := 4) d_scn_scanSingle_22 rfl ?_
    refine rp_iload_n (i := 1) d_scn_scanSingle_24 rfl rfl ?_
    refine rp_callV1 d_scn_scanSingle_25 q_scn_scanSingle_59 (Or.inr ⟨4, _, rfl, rfl, rfl⟩) (Nat.le_of_ble_eq_true rfl) (Nat.le_of_ble_eq_true rfl) ?_
    refine s_str_indexOf_I (L := 3) rfl rfl (by decide) (by decide) ?_
    refine rp_if_lt (tgt := 44) d_scn_scanSingle_28 (by decide) (fun c28 => ?_) (fun c28 => ?_)
    · refine rp_iload_n (i := 1) d_scn_scanSingle_44 rfl rfl ?_
      refine rp_bipush (v := 46) d_scn_scanSingle_45 (by decide) ?_
      refine rp_icmp_ne (tgt := 63) d_scn_scanSingle_47 (by decide) (fun c47 => ?_) (fun c47 => ?_)
      · refine rp_iload_n (i := 1) d_scn_scanSingle_63 rfl rfl ?_
        refine rp_bipush (v := 44) d_scn_scanSingle_64 (by decide) ?_
        refine rp_icmp_ne (tgt := 82) d_scn_scanSingle_66 (by decide) (fun c66 => ?_) (fun c66 => ?_)
        · refine rp_iload_n (i := 1) d_scn_scanSingle_82 rfl rfl ?_
          refine rp_bipush (v := 37) d_scn_scanSingle_83 (by decide) ?_
          refine rp_icmp_ne (tgt := 101) d_scn_scanSingle_85 (by decide) (fun c85 => ?_) (fun c85 => ?_)
          · refine rp_iload_n (i := 1) d_scn_scanSingle_101 rfl rfl ?_
            refine rp_bipush (v := 59) d_scn_scanSingle_102 (by decide) ?_
            refine rp_icmp_ne (tgt := 121) d_scn_scanSingle_104 (by decide) (fun c104 => ?_) (fun c104 => ?_)
            · refine rp_iconst (v := 0) d_scn_scanSingle_121 (by decide) ?_
              refine rp_ireturn (ty := .int) d_scn_scanSingle_122 rfl rfl ?_
              first
              | exact k
              | (rw [show c_sgl (nI q) = none by rw [c_sgl, if_neg (by rw [(j_bare q hq).mp c6]; decide), if_neg ((j_pl q hq).mp c28)]; simp [c47, c66, c85, c104]] at k; exact k)
            · refine rp_aload_n (i := 0) d_scn_scanSingle_107 rfl rfl ?_
              refine rp_getR d_scn_scanSingle_108 f_scn_9 rfl (hR _ _ _ rfl) ?_
              refine rp_bipush (v := 11) d_scn_scanSingle_111 (by decide) ?_
              refine rp_iload_n (i := 1) d_scn_scanSingle_113 rfl rfl ?_
              refine rp_iconst (v := 0) d_scn_scanSingle_114 (by decide) ?_
              refine rp_callV3 d_scn_scanSingle_115 q_scn_scanSingle_71 (Or.inl ⟨_, _, _, rfl, rfl⟩) (Nat.le_of_ble_eq_true rfl) (Nat.le_of_ble_eq_true rfl) ?_
              rw [show c_sgl (nI q) = some (11, nI q, 0) by rw [c_sgl, if_neg (by rw [(j_bare q hq).mp c6]; decide), if_neg ((j_pl q hq).mp c28)]; simp [c47, c66, c85, c104]] at k
              refine s_tok_add hR ht ht40 ?_
              refine rp_goto (tgt := 123) d_scn_scanSingle_118 (by decide) ?_
              refine rp_iconst (v := 1) d_scn_scanSingle_123 (by decide) ?_
              refine rp_ireturn (ty := .int) d_scn_scanSingle_124 rfl rfl ?_
              first
              | exact k
              | (rw [show c_sgl (nI q) = none by rw [c_sgl, if_neg (by rw [(j_bare q hq).mp c6]; decide), if_neg ((j_pl q hq).mp c28)]; simp [c47, c66, c85, c104]] at k; exact k)
          · refine rp_aload_n (i := 0) d_scn_scanSingle_88 rfl rfl ?_
            refine rp_getR d_scn_scanSingle_89 f_scn_9 rfl (hR _ _ _ rfl) ?_
            refine rp_iconst (v := 5) d_scn_scanSingle_92 (by decide) ?_
            refine rp_iload_n (i := 1) d_scn_scanSingle_93 rfl rfl ?_
            refine rp_iconst (v := 0) d_scn_scanSingle_94 (by decide) ?_
            refine rp_callV3 d_scn_scanSingle_95 q_scn_scanSingle_71 (Or.inl ⟨_, _, _, rfl, rfl⟩) (Nat.le_of_ble_eq_true rfl) (Nat.le_of_ble_eq_true rfl) ?_
            rw [show c_sgl (nI q) = some (5, nI q, 0) by rw [c_sgl, if_neg (by rw [(j_bare q hq).mp c6]; decide), if_neg ((j_pl q hq).mp c28)]; simp [c47, c66, c85]] at k
            refine s_tok_add hR ht ht40 ?_
            refine rp_goto (tgt := 123) d_scn_scanSingle_98 (by decide) ?_
            refine rp_iconst (v := 1) d_scn_scanSingle_123 (by decide) ?_
            refine rp_ireturn (ty := .int) d_scn_scanSingle_124 rfl rfl ?_
            first
            | exact k
            | (rw [show c_sgl (nI q) = none by rw [c_sgl, if_neg (by rw [(j_bare q hq).mp c6]; decide), if_neg ((j_pl q hq).mp c28)]; simp [c47, c66, c85, c104]] at k; exact k)
        · refine rp_aload_n (i := 0) d_scn_scanSingle_69 rfl rfl ?_
          refine rp_getR d_scn_scanSingle_70 f_scn_9 rfl (hR _ _ _ rfl) ?_
          refine rp_iconst (v := 4) d_scn_scanSingle_73 (by decide) ?_
          refine rp_iload_n (i := 1) d_scn_scanSingle_74 rfl rfl ?_
          refine rp_iconst (v := 0) d_scn_scanSingle_75 (by decide) ?_
          refine rp_callV3 d_scn_scanSingle_76 q_scn_scanSingle_71 (Or.inl ⟨_, _, _, rfl, rfl⟩) (Nat.le_of_ble_eq_true rfl) (Nat.le_of_ble_eq_true rfl) ?_
          rw [show c_sgl (nI q) = some (4, nI q, 0) by rw [c_sgl, if_neg (by rw [(j_bare q hq).mp c6]; decide), if_neg ((j_pl q hq).mp c28)]; simp [c47, c66]] at k
          refine s_tok_add hR ht ht40 ?_
          refine rp_goto (tgt := 123) d_scn_scanSingle_79 (by decide) ?_
          refine rp_iconst (v := 1) d_scn_scanSingle_123 (by decide) ?_
          refine rp_ireturn (ty := .int) d_scn_scanSingle_124 rfl rfl ?_
          first
          | exact k
          | (rw [show c_sgl (nI q) = none by rw [c_sgl, if_neg (by rw [(j_bare q hq).mp c6]; decide), if_neg ((j_pl q hq).mp c28)]; simp [c47, c66, c85, c104]] at k; exact k)
      · refine rp_aload_n (i := 0) d_scn_scanSingle_50 rfl rfl ?_
        refine rp_getR d_scn_scanSingle_51 f_scn_9 rfl (hR _ _ _ rfl) ?_
        refine rp_iconst (v := 3) d_scn_scanSingle_54 (by decide) ?_
        refine rp_iload_n (i := 1) d_scn_scanSingle_55 rfl rfl ?_
        refine rp_iconst (v := 0) d_scn_scanSingle_56 (by decide) ?_
        refine rp_callV3 d_scn_scanSingle_57 q_scn_scanSingle_71 (Or.inl ⟨_, _, _, rfl, rfl⟩) (Nat.le_of_ble_eq_true rfl) (Nat.le_of_ble_eq_true rfl) ?_
        rw [show c_sgl (nI q) = some (3, nI q, 0) by rw [c_sgl, if_neg (by rw [(j_bare q hq).mp c6]; decide), if_neg ((j_pl q hq).mp c28)]; simp [c47]] at k
        refine s_tok_add hR ht ht40 ?_
        refine rp_goto (tgt := 123) d_scn_scanSingle_60 (by decide) ?_
        refine rp_iconst (v := 1) d_scn_scanSingle_123 (by decide) ?_
        refine rp_ireturn (ty := .int) d_scn_scanSingle_124 rfl rfl ?_
        first
        | exact k
        | (rw [show c_sgl (nI q) = none by rw [c_sgl, if_neg (by rw [(j_bare q hq).mp c6]; decide), if_neg ((j_pl q hq).mp c28)]; simp [c47, c66, c85, c104]] at k; exact k)
    · refine rp_aload_n (i := 0) d_scn_scanSingle_31 rfl rfl ?_
      refine rp_getR d_scn_scanSingle_32 f_scn_9 rfl (hR _ _ _ rfl) ?_
      refine rp_iconst (v := 2) d_scn_scanSingle_35 (by decide) ?_
      refine rp_iload_n (i := 1) d_scn_scanSingle_36 rfl rfl ?_
      refine rp_iconst (v := 0) d_scn_scanSingle_37 (by decide) ?_
      refine rp_callV3 d_scn_scanSingle_38 q_scn_scanSingle_71 (Or.inl ⟨_, _, _, rfl, rfl⟩) (Nat.le_of_ble_eq_true rfl) (Nat.le_of_ble_eq_true rfl) ?_
      rw [show c_sgl (nI q) = some (2, nI q, 0) by rw [c_sgl, if_neg (by rw [(j_bare q hq).mp c6]; decide), if_pos (Decidable.not_not.mp (fun z => c28 ((j_pl q hq).mpr z)))]] at k
      refine s_tok_add hR ht ht40 ?_
      refine rp_goto (tgt := 123) d_scn_scanSingle_41 (by decide) ?_
      refine rp_iconst (v := 1) d_scn_scanSingle_123 (by decide) ?_
      refine rp_ireturn (ty := .int) d_scn_scanSingle_124 rfl rfl ?_
      first
      | exact k
      | (rw [show c_sgl (nI q) = none by rw [c_sgl, if_neg (by rw [(j_bare q hq).mp c6]; decide), if_neg ((j_pl q hq).mp c28)]; simp [c47, c66, c85, c104]] at k; exact k)
  · refine rp_aload_n (i := 0) d_scn_scanSingle_9 rfl rfl ?_
    refine rp_getR d_scn_scanSingle_10 f_scn_9 rfl (hR _ _ _ rfl) ?_
    refine rp_iconst (v := 1) d_scn_scanSingle_13 (by decide) ?_
    refine rp_iload_n (i := 1) d_scn_scanSingle_14 rfl rfl ?_
    refine rp_iconst (v := 0) d_scn_scanSingle_15 (by decide) ?_
    refine rp_callV3 d_scn_scanSingle_16 q_scn_scanSingle_71 (Or.inl ⟨_, _, _, rfl, rfl⟩) (Nat.le_of_ble_eq_true rfl) (Nat.le_of_ble_eq_true rfl) ?_
    rw [show c_sgl (nI q) = some (1, nI q, 0) by rw [c_sgl, if_pos (by cases e : r_bare (nI q) with | true => rfl | false => exact absurd ((j_bare q hq).mpr e) c6)]] at k
    refine s_tok_add hR ht ht40 ?_
    refine rp_goto (tgt := 123) d_scn_scanSingle_19 (by decide) ?_
    refine rp_iconst (v := 1) d_scn_scanSingle_123 (by decide) ?_
    refine rp_ireturn (ty := .int) d_scn_scanSingle_124 rfl rfl ?_
    first
    | exact k
    | (rw [show c_sgl (nI q) = none by rw [c_sgl, if_neg (by rw [(j_bare q hq).mp c6]; decide), if_neg ((j_pl q hq).mp c28)]; simp [c47, c66, c85, c104]] at k; exact k)
