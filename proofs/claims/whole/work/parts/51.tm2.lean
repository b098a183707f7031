/-! ===== the class: what changes a team ===== -/
section TM2
variable {A : Am} {E : En} {σ : Rw} {t u x y : Int} {T : Nat}
theorem TS_tn (ht : t = 0 ∨ t = 1) (hw : wT σ t) (h : TS A T σ t) : TS A T (tn σ x y) t := by
  obtain ⟨h0, h1, h2, h3⟩ := h
  obtain ⟨a0, a1, -⟩ := hw
  have hun : un σ t = tf σ t 0 + tf σ t 1 := rfl
  refine ⟨h0.trans (tn_f0 ht).symm, h1.trans (tn_f1 ht).symm, h2.trans (tn_f2 ht).symm, fun u a b => ?_⟩
  rw [tn_un ht] at b
  rw [tn_u ht a (by omega) (by decide) (by decide), tn_u ht a (by omega) (by decide) (by decide), tn_u ht a (by omega) (by decide) (by decide), tn_u ht a (by omega) (by decide) (by decide), tn_u ht a (by omega) (by decide) (by decide)]
  exact h3 u a b
theorem t_passL (d : Nat) (hd : 1 < d) (hT : TM T) (hw : wT σ t) (s : Int) (s0 : -2147483648 ≤ s) (s1 : s < 2147483648) : ∀ (n : Nat) (i : Int) (A : Am), n = (un σ t - i).toNat → 0 ≤ i → i ≤ un σ t → TS A T σ t → (∀ u, i ≤ u → u < un σ t → A (T + 6) u = uf σ t u 5) → A T 4 = tf σ t 4 →
    L_Team_pass_2 d (MM A E) T (iI s) (iI i) = some (.inl none, MM (uA (uA (fA A (T + 6) i (un σ t) (fun u => lg σ t u s)) T 4 (max 0 (tf σ t 4 - 1))) T 5 (-1)) E) := by
  have hw' := hw
  obtain ⟨a0, a1, -, -, a4, -, -, a7⟩ := hw
  have hun : un σ t = tf σ t 0 + tf σ t 1 := rfl
  intro n
  induction n with
  | zero =>
    intro i A hn h0 h1 hS hl h4
    rw [eL_Team_pass_2]
    simp (disch := omega) only [cond_true, cond_false, Bool.and_self, Bool.and_true, Bool.true_and, Bool.and_false, Bool.false_and, Bool.not_true, Bool.not_false, Bool.or_true, Bool.true_or, Bool.or_false, Bool.false_or, cond_dec, cI_ok, cR_ok, cV_ok, cJ_ok, bo_nr, bo_0, bo_i0, nr_0, nr_10, nr_11, nr_i0, nr_i1, bl_0, iI_add, iI_sub, iI_mul, iI_neg, qlt, qeq, qmax, qmin, qdiv, qrem, qn0, qin, I_0, w_0, I_1, w_1, I_2, w_2, I_3, w_3, I_4, w_4, I_5, w_5, I_6, w_6, I_7, w_7, I_8, w_8, I_9, w_9, I_10, w_10, I_11, w_11, I_12, w_12, I_13, w_13, I_14, w_14, I_15, w_15, I_16, w_16, I_17, w_17, I_18, w_18, I_19, w_19, I_20, w_20, I_21, w_21, I_22, w_22, I_23, w_23, I_24, w_24, I_25, w_25, I_26, w_26, I_27, w_27, I_28, w_28, I_29, w_29, I_30, w_30, I_31, w_31, I_32, w_32, I_33, w_33, I_34, w_34, I_35, w_35, I_36, w_36, I_37, w_37, I_38, w_38, I_39, w_39, I_40, w_40, I_41, w_41, I_at, w_at, th_MM, J_MM, wJ_MM, P_F, P_G, fA_in, fA_k, fA_p, fA_P, uA_P, cA_P, uA_eq, uA_k, uA_p, cA_in, cA_k, cA_p, cp_at, cp_le, qlt0, nr_ib, ki_1, kp_1_0, kp_1_1, kp_1_2, kp_1_3, kp_1_4, kp_1_5, kp_1_6, kp_1_7, kp_1_8, kp_1_9, kp_1_10, ki_2, kp_2_0, kp_2_1, ki_17, kp_17_0, kp_17_1, ki_32, kp_32_0, kp_32_3, ki_33, kp_33_0, kp_33_1, ki_48, kz_48, ki_49, kp_49_0, ki_50, kz_50, krr_50, ki_67, kp_67_0, kp_67_1, kp_67_2, kp_67_3, kp_67_4, ki_68, kz_68, krr_68, ki_69, kz_69, krr_69, ki_70, kz_70, ki_71, kz_71, ki_144, kp_144_0, kp_144_1, kp_144_2, kp_144_3, kp_144_4, ki_145, kz_145, ki_146, kz_146, ki_147, kz_147, ki_148, kz_148, ki_149, kp_149_0, kp_149_1, kp_149_2, ki_150, kz_150, ki_151, kz_151, ki_152, kp_152_0, kp_152_1, kp_152_2, ki_153, kz_153, ki_154, kz_154, ki_155, kz_155, ki_156, kp_156_0, kp_156_1, kp_156_2, ki_157, kz_157, ki_158, kp_158_0, ki_159, kz_159, ki_160, kz_160, ki_161, kp_161_1, kp_161_2, kp_161_3, kp_161_4, kp_161_7, kp_161_21, kp_161_22, kp_161_23, kp_161_26, kp_161_27, kp_161_28, kp_161_29, kp_161_30, kp_161_32, kp_161_33, kp_161_37, kp_161_40, ki_162, kz_162, ki_163, kz_163, ki_164, kz_164, ki_165, kz_165, ki_166, kz_166, ki_167, kz_167, ki_168, kz_168, ki_169, kz_169, ki_170, kz_170, ki_171, kz_171, ki_172, kz_172, ki_173, kz_173, ki_174, kz_174, ki_175, kz_175, ki_176, kz_176, ki_177, kz_177, ki_178, kz_178, ki_179, kz_179, li_m1000000, li_m8, li_m5, li_m1, li_0, li_1, li_2, li_3, li_4, li_5, li_6, li_7, li_8, li_9, li_10, li_11, li_12, li_13, li_14, li_15, li_16, li_17, li_18, li_19, li_20, li_21, li_22, li_23, li_24, li_25, li_26, li_27, li_28, li_29, li_30, li_31, li_32, li_42, li_43, li_46, li_47, li_48, li_49, li_52, li_57, li_59, li_60, li_64, li_89, li_94, li_97, li_99, li_100, li_108, li_112, li_120, li_122, li_150, li_255, li_300, li_450, li_500, li_671, li_890, li_1000, li_1001, li_1002, li_1003, li_1424, li_12345, li_32767, li_500000, li_1000000, li_1103515245, is_T hT, is_T1 hT, sz_T1 hT, P_T1 hT, is_T2 hT, sz_T2 hT, P_T2 hT, is_T3 hT, sz_T3 hT, P_T3 hT, is_T4 hT, sz_T4 hT, P_T4 hT, is_T5 hT, sz_T5 hT, P_T5 hT, is_T6 hT, sz_T6 hT, P_T6 hT, t_units _ hT hS, h4]
    rw [if_neg (by omega), fA_nil (by omega)]
  | succ n ih =>
    intro i A hn h0 h1 hS hl h4
    have e6 := hl i (by omega) (by omega)
    obtain ⟨-, -, b2, b3, b4, b5⟩ := a7 i h0 (by omega)
    have bt := t_legsB1 (E := E) (d - 1) (by omega) hT hS hw' h0 (by omega) (b := uf σ t i 5) (by omega) (by omega)
    have bf := t_legsB0 (E := E) (d - 1) (by omega) hT hS hw' h0 (by omega) (b := uf σ t i 5) (by omega) (by omega)
    have go : ∀ v, v = lg σ t i s → L_Team_pass_2 d (MM (uA A (T + 6) i v) E) T (iI s) (iI (i + 1)) = some (.inl none, MM (uA (uA (fA A (T + 6) i (un σ t) (fun u => lg σ t u s)) T 4 (max 0 (tf σ t 4 - 1))) T 5 (-1)) E) := by
      intro v hv
      rw [ih (i + 1) (uA A (T + 6) i v) (by omega) (by omega) (by omega) (TS_fr hS (fun k _ => by rw [uA_p _ _ _ (by omega)]) (fun p _ _ => uA_P (by omega))) (fun u q1 q2 => by rw [uA_k _ (by omega)]; exact hl u (by omega) q2) (by rw [uA_p _ _ _ (by omega)]; exact h4), fA_step (f := fun u => lg σ t u s) (by omega) hv]
    rw [eL_Team_pass_2]
    simp (disch := omega) only [cond_true, cond_false, Bool.and_self, Bool.and_true, Bool.true_and, Bool.and_false, Bool.false_and, Bool.not_true, Bool.not_false, Bool.or_true, Bool.true_or, Bool.or_false, Bool.false_or, cond_dec, cI_ok, cR_ok, cV_ok, cJ_ok, bo_nr, bo_0, bo_i0, nr_0, nr_10, nr_11, nr_i0, nr_i1, bl_0, iI_add, iI_sub, iI_mul, iI_neg, qlt, qeq, qmax, qmin, qdiv, qrem, qn0, qin, I_0, w_0, I_1, w_1, I_2, w_2, I_3, w_3, I_4, w_4, I_5, w_5, I_6, w_6, I_7, w_7, I_8, w_8, I_9, w_9, I_10, w_10, I_11, w_11, I_12, w_12, I_13, w_13, I_14, w_14, I_15, w_15, I_16, w_16, I_17, w_17, I_18, w_18, I_19, w_19, I_20, w_20, I_21, w_21, I_22, w_22, I_23, w_23, I_24, w_24, I_25, w_25, I_26, w_26, I_27, w_27, I_28, w_28, I_29, w_29, I_30, w_30, I_31, w_31, I_32, w_32, I_33, w_33, I_34, w_34, I_35, w_35, I_36, w_36, I_37, w_37, I_38, w_38, I_39, w_39, I_40, w_40, I_41, w_41, I_at, w_at, th_MM, J_MM, wJ_MM, P_F, P_G, fA_in, fA_k, fA_p, fA_P, uA_P, cA_P, uA_eq, uA_k, uA_p, cA_in, cA_k, cA_p, cp_at, cp_le, qlt0, nr_ib, ki_1, kp_1_0, kp_1_1, kp_1_2, kp_1_3, kp_1_4, kp_1_5, kp_1_6, kp_1_7, kp_1_8, kp_1_9, kp_1_10, ki_2, kp_2_0, kp_2_1, ki_17, kp_17_0, kp_17_1, ki_32, kp_32_0, kp_32_3, ki_33, kp_33_0, kp_33_1, ki_48, kz_48, ki_49, kp_49_0, ki_50, kz_50, krr_50, ki_67, kp_67_0, kp_67_1, kp_67_2, kp_67_3, kp_67_4, ki_68, kz_68, krr_68, ki_69, kz_69, krr_69, ki_70, kz_70, ki_71, kz_71, ki_144, kp_144_0, kp_144_1, kp_144_2, kp_144_3, kp_144_4, ki_145, kz_145, ki_146, kz_146, ki_147, kz_147, ki_148, kz_148, ki_149, kp_149_0, kp_149_1, kp_149_2, ki_150, kz_150, ki_151, kz_151, ki_152, kp_152_0, kp_152_1, kp_152_2, ki_153, kz_153, ki_154, kz_154, ki_155, kz_155, ki_156, kp_156_0, kp_156_1, kp_156_2, ki_157, kz_157, ki_158, kp_158_0, ki_159, kz_159, ki_160, kz_160, ki_161, kp_161_1, kp_161_2, kp_161_3, kp_161_4, kp_161_7, kp_161_21, kp_161_22, kp_161_23, kp_161_26, kp_161_27, kp_161_28, kp_161_29, kp_161_30, kp_161_32, kp_161_33, kp_161_37, kp_161_40, ki_162, kz_162, ki_163, kz_163, ki_164, kz_164, ki_165, kz_165, ki_166, kz_166, ki_167, kz_167, ki_168, kz_168, ki_169, kz_169, ki_170, kz_170, ki_171, kz_171, ki_172, kz_172, ki_173, kz_173, ki_174, kz_174, ki_175, kz_175, ki_176, kz_176, ki_177, kz_177, ki_178, kz_178, ki_179, kz_179, li_m1000000, li_m8, li_m5, li_m1, li_0, li_1, li_2, li_3, li_4, li_5, li_6, li_7, li_8, li_9, li_10, li_11, li_12, li_13, li_14, li_15, li_16, li_17, li_18, li_19, li_20, li_21, li_22, li_23, li_24, li_25, li_26, li_27, li_28, li_29, li_30, li_31, li_32, li_42, li_43, li_46, li_47, li_48, li_49, li_52, li_57, li_59, li_60, li_64, li_89, li_94, li_97, li_99, li_100, li_108, li_112, li_120, li_122, li_150, li_255, li_300, li_450, li_500, li_671, li_890, li_1000, li_1001, li_1002, li_1003, li_1424, li_12345, li_32767, li_500000, li_1000000, li_1103515245, is_T hT, is_T1 hT, sz_T1 hT, P_T1 hT, is_T2 hT, sz_T2 hT, P_T2 hT, is_T3 hT, sz_T3 hT, P_T3 hT, is_T4 hT, sz_T4 hT, P_T4 hT, is_T5 hT, sz_T5 hT, P_T5 hT, is_T6 hT, sz_T6 hT, P_T6 hT, t_units _ hT hS, e6, bt, bf]
    rw [if_pos (by omega)]
    by_cases c : i = s
    · rw [if_pos c]
      exact go _ (by unfold lg; rw [if_pos c])
    · rw [if_neg c]
      exact go _ (by unfold lg; rw [if_neg c])
theorem t_pass (d : Nat) (hd : 1 < d) (hT : TM T) (ht : t = 0 ∨ t = 1) (hA : TeamAt A T σ t) (hw : wT σ t) (s0 : -2147483648 ≤ onT t x y) (s1 : onT t x y < 2147483648) : ∃ A', D_Team_pass d (MM A E) T (iI (onT t x y)) = some (.inl none, MM A' E) ∧ TeamAt A' T (tn σ x y) t ∧ ∀ p, p ≠ T → p ≠ T + 6 → A' p = A p := by
  have hun : un σ t = tf σ t 0 + tf σ t 1 := rfl
  have hw' := hw
  obtain ⟨a0, a1, -⟩ := hw
  refine ⟨uA (uA (fA A (T + 6) 0 (un σ t) (fun u => lg σ t u (onT t x y))) T 4 (max 0 (tf σ t 4 - 1))) T 5 (-1), ?_, ?_, ?_⟩
  · rw [eD_Team_pass, li_0]
    exact t_passL d hd hT hw' _ s0 s1 _ 0 A rfl (by decide) (by omega) hA.1 (fun u q1 q2 => hA.2.2.2.2.2 u q1 q2) hA.2.2.1
  · refine ⟨TS_tn ht hw' (TS_fr hA.1 (fun k hk => ?_) (fun p _ _ => ?_)), ?_, ?_, ?_, ?_, fun u q1 q2 => ?_⟩
    · simp (disch := omega) only [fA_in, fA_k, fA_p, fA_P, uA_P, cA_P, uA_eq, uA_k, uA_p, cA_in, cA_k, cA_p, cp_at, cp_le, qlt0, nr_ib]
    · simp (disch := omega) only [fA_in, fA_k, fA_p, fA_P, uA_P, cA_P, uA_eq, uA_k, uA_p, cA_in, cA_k, cA_p, cp_at, cp_le, qlt0, nr_ib]
    · simp (disch := omega) only [fA_in, fA_k, fA_p, fA_P, uA_P, cA_P, uA_eq, uA_k, uA_p, cA_in, cA_k, cA_p, cp_at, cp_le, qlt0, nr_ib]
      rw [tn_f3 ht]; exact hA.2.1
    · simp (disch := omega) only [fA_in, fA_k, fA_p, fA_P, uA_P, cA_P, uA_eq, uA_k, uA_p, cA_in, cA_k, cA_p, cp_at, cp_le, qlt0, nr_ib]
      rw [tn_f4 ht]
    · simp (disch := omega) only [fA_in, fA_k, fA_p, fA_P, uA_P, cA_P, uA_eq, uA_k, uA_p, cA_in, cA_k, cA_p, cp_at, cp_le, qlt0, nr_ib]
      rw [tn_f6 ht]
    · simp (disch := omega) only [fA_in, fA_k, fA_p, fA_P, uA_P, cA_P, uA_eq, uA_k, uA_p, cA_in, cA_k, cA_p, cp_at, cp_le, qlt0, nr_ib]
      rw [tn_f5 ht]; exact hA.2.2.2.2.1
    · rw [tn_un ht] at q2
      simp (disch := omega) only [fA_in, fA_k, fA_p, fA_P, uA_P, cA_P, uA_eq, uA_k, uA_p, cA_in, cA_k, cA_p, cp_at, cp_le, qlt0, nr_ib]
      rw [tn_l ht q1 (by omega) q2]
  · intro p h1 h2
    simp (disch := omega) only [fA_in, fA_k, fA_p, fA_P, uA_P, cA_P, uA_eq, uA_k, uA_p, cA_in, cA_k, cA_p, cp_at, cp_le, qlt0, nr_ib]
end TM2
