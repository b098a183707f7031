/-! ===== the model: a turn goes by; worths ===== -/
/-- a team's part of a turn -/
def tt (σ : Rw) (t on : Int) : Rw := fun j => if 10 + 43 * t ≤ j ∧ j < 46 + 43 * t ∧ (j - 10 - 43 * t) % 6 = 5 ∧ (j - 10 - 43 * t) / 6 < un σ t then lg σ t ((j - 10 - 43 * t) / 6) on else if j = 7 + 43 * t then max 0 (σ j - 1) else if j = 9 + 43 * t then -1 else σ j
/-- with the first units gone through -/
def pt (σ : Rw) (t on i : Int) : Rw := fun j => if 10 + 43 * t ≤ j ∧ j < 46 + 43 * t ∧ (j - 10 - 43 * t) % 6 = 5 ∧ (j - 10 - 43 * t) / 6 < i then lg σ t ((j - 10 - 43 * t) / 6) on else σ j
theorem wT_cg {σ τ : Rw} {t : Int} (ht : t = 0 ∨ t = 1) (h : ∀ j, 3 + 43 * t ≤ j → j < 46 + 43 * t → τ j = σ j) (hw : wT σ t) : wT τ t := by
  have e : ∀ k, 0 ≤ k → k < 7 → tf τ t k = tf σ t k := fun k k0 k1 => h _ (by omega) (by omega)
  have eu : un τ t = un σ t := by unfold un; rw [e 0 (by decide) (by decide), e 1 (by decide) (by decide)]
  obtain ⟨a0, a1, a2, a3, a4, a5, a6, a7⟩ := hw
  have hun : un σ t = tf σ t 0 + tf σ t 1 := rfl
  unfold wT
  rw [e 0 (by decide) (by decide), e 1 (by decide) (by decide), e 2 (by decide) (by decide), e 3 (by decide) (by decide), e 4 (by decide) (by decide), e 5 (by decide) (by decide), e 6 (by decide) (by decide), eu]
  refine ⟨a0, a1, a2, a3, a4, a5, a6, fun u u0 u1 => ?_⟩
  have f : ∀ w, 0 ≤ w → w < 6 → uf τ t u w = uf σ t u w := fun w w0 w1 => h _ (by omega) (by omega)
  rw [f 0 (by decide) (by decide), f 1 (by decide) (by decide), f 2 (by decide) (by decide), f 3 (by decide) (by decide), f 4 (by decide) (by decide), f 5 (by decide) (by decide)]
  exact a7 u u0 u1
section MV
variable {A : Am} {E : En} {σ : Rw} {a t u x y : Int}
theorem pt_un (ht : t = 0 ∨ t = 1) {on i : Int} : un (pt σ t on i) t = un σ t := by
  unfold un tf pt
  rw [if_neg (by omega), if_neg (by omega)]
theorem pt_uf (ht : t = 0 ∨ t = 1) {on i w : Int} (u0 : 0 ≤ u) (u1 : u < 6) (hu : i ≤ u) (w0 : 0 ≤ w) (w1 : w < 6) : uf (pt σ t on i) t u w = uf σ t u w := by
  unfold uf pt
  rw [if_neg (by omega)]
theorem m_turnsL (d : Nat) (hd : 2 < d) (ha : 0 ≤ a) (ha' : a ≤ 9) (ht : t = 0 ∨ t = 1) (hw : wT σ t) {on : Int} (o0 : -2147483648 ≤ on) (o1 : on < 2147483648) : ∀ (n : Nat) (i : Int) (A : Am), n = (un σ t - i).toNat → 0 ≤ i → i ≤ un σ t → RowAt A a (pt σ t on i) →
    ∃ A', L_Md_turns_24 d (MM A E) 161 (iI a) (iI x) (iI y) (iI t) (iI on) (iI i) = L_Md_turns_3 d (MM A' E) 161 (iI a) (iI x) (iI y) (iI (t + 1)) ∧ RowAt A' a (tt σ t on) ∧ (∀ p, p ≠ 162 → A' p = A p) ∧ ∀ j, (j < 89 * a ∨ 89 * a + 89 ≤ j) → A' 162 j = A 162 j := by
  obtain ⟨a0, a1, a2, a3, a4, a5, a6, a7⟩ := hw
  have hun : un σ t = tf σ t 0 + tf σ t 1 := rfl
  intro n
  induction n with
  | zero =>
    intro i A hn i0 i1 hr
    have ei : i = un σ t := by omega
    have mu := m_units (E := E) (d - 1) (by omega) hr ha ha' ht
    rw [pt_un ht] at mu
    have g4 := hr (7 + 43 * t) (by omega) (by omega)
    have e4 : pt σ t on i (7 + 43 * t) = tf σ t 4 := by
      unfold pt tf
      rw [if_neg (by omega), show 7 + 43 * t = 3 + 43 * t + 4 by omega]
    rw [e4, show 89 * a + (7 + 43 * t) = 89 * a + 3 + 43 * t + 4 by omega] at g4
    refine ⟨uA (uA A 162 (89 * a + 3 + 43 * t + 4) (max 0 (tf σ t 4 - 1))) 162 (89 * a + 3 + 43 * t + 6) (-1), ?_, fun j j0 j1 => ?_, fun p hp => ?_, fun j hj => ?_⟩
    · rw [eL_Md_turns_24]
      simp (disch := omega) only [cond_true, cond_false, Bool.and_self, Bool.and_true, Bool.true_and, Bool.and_false, Bool.false_and, Bool.not_true, Bool.not_false, Bool.or_true, Bool.true_or, Bool.or_false, Bool.false_or, cond_dec, cI_ok, cR_ok, cV_ok, cJ_ok, bo_nr, bo_0, bo_i0, nr_0, nr_10, nr_11, nr_i0, nr_i1, bl_0, iI_add, iI_sub, iI_mul, iI_neg, qlt, qeq, qmax, qmin, qdiv, qrem, qn0, qin, I_0, w_0, I_1, w_1, I_2, w_2, I_3, w_3, I_4, w_4, I_5, w_5, I_6, w_6, I_7, w_7, I_8, w_8, I_9, w_9, I_10, w_10, I_11, w_11, I_12, w_12, I_13, w_13, I_14, w_14, I_15, w_15, I_16, w_16, I_17, w_17, I_18, w_18, I_19, w_19, I_20, w_20, I_21, w_21, I_22, w_22, I_23, w_23, I_24, w_24, I_25, w_25, I_26, w_26, I_27, w_27, I_28, w_28, I_29, w_29, I_30, w_30, I_31, w_31, I_32, w_32, I_33, w_33, I_34, w_34, I_35, w_35, I_36, w_36, I_37, w_37, I_38, w_38, I_39, w_39, I_40, w_40, I_41, w_41, I_at, w_at, th_MM, J_MM, wJ_MM, P_F, P_G, fA_in, fA_k, fA_p, fA_P, uA_P, cA_P, uA_eq, uA_k, uA_p, cA_in, cA_k, cA_p, cp_at, cp_le, qlt0, nr_ib, Nat.not_lt_zero, decide_false, ki_1, kp_1_0, kp_1_1, kp_1_2, kp_1_3, kp_1_4, kp_1_5, kp_1_6, kp_1_7, kp_1_8, kp_1_9, kp_1_10, ki_2, kp_2_0, kp_2_1, ki_17, kp_17_0, kp_17_1, ki_32, kp_32_0, kp_32_3, ki_33, kp_33_0, kp_33_1, ki_48, kz_48, ki_49, kp_49_0, ki_50, kz_50, krr_50, ki_67, kp_67_0, kp_67_1, kp_67_2, kp_67_3, kp_67_4, ki_68, kz_68, krr_68, ki_69, kz_69, krr_69, ki_70, kz_70, ki_71, kz_71, ki_144, kp_144_0, kp_144_1, kp_144_2, kp_144_3, kp_144_4, ki_145, kz_145, ki_146, kz_146, ki_147, kz_147, ki_148, kz_148, ki_149, kp_149_0, kp_149_1, kp_149_2, ki_150, kz_150, ki_151, kz_151, ki_152, kp_152_0, kp_152_1, kp_152_2, ki_153, kz_153, ki_154, kz_154, ki_155, kz_155, ki_156, kp_156_0, kp_156_1, kp_156_2, ki_157, kz_157, ki_158, kp_158_0, ki_159, kz_159, ki_160, kz_160, ki_161, kp_161_1, kp_161_2, kp_161_3, kp_161_4, kp_161_7, kp_161_21, kp_161_22, kp_161_23, kp_161_26, kp_161_27, kp_161_28, kp_161_29, kp_161_30, kp_161_32, kp_161_33, kp_161_37, kp_161_40, ki_162, kz_162, ki_163, kz_163, ki_164, kz_164, ki_165, kz_165, ki_166, kz_166, ki_167, kz_167, ki_168, kz_168, ki_169, kz_169, ki_170, kz_170, ki_171, kz_171, ki_172, kz_172, ki_173, kz_173, ki_174, kz_174, ki_175, kz_175, ki_176, kz_176, ki_177, kz_177, ki_178, kz_178, ki_179, kz_179, li_m1000000, li_m8, li_m5, li_m1, li_0, li_1, li_2, li_3, li_4, li_5, li_6, li_7, li_8, li_9, li_10, li_11, li_12, li_13, li_14, li_15, li_16, li_17, li_18, li_19, li_20, li_21, li_22, li_23, li_24, li_25, li_26, li_27, li_28, li_29, li_30, li_31, li_32, li_42, li_43, li_46, li_47, li_48, li_49, li_52, li_57, li_59, li_60, li_64, li_89, li_94, li_97, li_99, li_100, li_108, li_112, li_120, li_122, li_150, li_255, li_300, li_450, li_500, li_671, li_890, li_1000, li_1001, li_1002, li_1003, li_1424, li_12345, li_32767, li_500000, li_1000000, li_1103515245, mu, g4]
      rw [if_neg (by omega)]
    · have g := hr j j0 j1
      by_cases c9 : j = 9 + 43 * t
      · rw [c9, show 89 * a + (9 + 43 * t) = 89 * a + 3 + 43 * t + 6 by omega, uA_eq]
        unfold tt
        rw [if_neg (by omega), if_neg (by omega), if_pos rfl]
      · rw [uA_k _ (by omega)]
        by_cases c7 : j = 7 + 43 * t
        · rw [c7, show 89 * a + (7 + 43 * t) = 89 * a + 3 + 43 * t + 4 by omega, uA_eq]
          unfold tt
          rw [if_neg (by omega), if_pos rfl]
          unfold tf
          rw [show 7 + 43 * t = 3 + 43 * t + 4 by omega]
        · rw [uA_k _ (by omega), g]
          unfold pt tt
          rw [if_neg (c := j = 7 + 43 * t) c7, if_neg (c := j = 9 + 43 * t) c9, ei]
    · rw [uA_P hp, uA_P hp]
    · rw [uA_k _ (by omega), uA_k _ (by omega)]
  | succ n ih =>
    intro i A hn i0 i1 hr
    have mu := m_units (E := E) (d - 1) (by omega) hr ha ha' ht
    rw [pt_un ht] at mu
    obtain ⟨b0, b1, b2, b3, b4, b5⟩ := a7 i i0 (by omega)
    have mo : ∀ w, 0 ≤ w → w < 6 → D_Md_ofUnit (d - 1) (MM A E) 161 (iI a) (iI t) (iI i) (iI w) = some (.inl (some (.int (iI (uf σ t i w)))), MM A E) := fun w w0 w1 => by
      rw [m_ofUnit (E := E) (d - 1) (by omega) hr ha ha' ht i0 (by omega) w0 w1, pt_uf ht i0 (by omega) (by omega) w0 w1]
    have go : ∀ v, v = lg σ t i on → ∃ A', L_Md_turns_101 d (MM A E) 161 (iI a) (iI x) (iI y) (iI t) (iI on) (iI i) (iI v) = L_Md_turns_3 d (MM A' E) 161 (iI a) (iI x) (iI y) (iI (t + 1)) ∧ RowAt A' a (tt σ t on) ∧ (∀ p, p ≠ 162 → A' p = A p) ∧ ∀ j, (j < 89 * a ∨ 89 * a + 89 ≤ j) → A' 162 j = A 162 j := by
      intro v hv
      obtain ⟨A', x1, x2, x3, x4⟩ := ih (i + 1) (uA A 162 (89 * a + (3 + 43 * t + 7 + 6 * i + 5)) v) (by omega) (by omega) (by omega) (fun j j0 j1 => by
        by_cases c : j = 3 + 43 * t + 7 + 6 * i + 5
        · rw [c, uA_eq, hv]
          unfold pt
          rw [if_pos (by omega), show (3 + 43 * t + 7 + 6 * i + 5 - 10 - 43 * t) / 6 = i by omega]
        · rw [uA_k _ (by omega), hr j j0 j1]
          unfold pt
          by_cases c1 : 10 + 43 * t ≤ j ∧ j < 46 + 43 * t ∧ (j - 10 - 43 * t) % 6 = 5 ∧ (j - 10 - 43 * t) / 6 < i
          · rw [if_pos c1, if_pos (by omega)]
          · rw [if_neg c1, if_neg (by omega)])
      refine ⟨A', ?_, x2, fun p hp => ?_, fun j hj => ?_⟩
      · rw [eL_Md_turns_101]
        simp (disch := omega) only [cond_true, cond_false, Bool.and_self, Bool.and_true, Bool.true_and, Bool.and_false, Bool.false_and, Bool.not_true, Bool.not_false, Bool.or_true, Bool.true_or, Bool.or_false, Bool.false_or, cond_dec, cI_ok, cR_ok, cV_ok, cJ_ok, bo_nr, bo_0, bo_i0, nr_0, nr_10, nr_11, nr_i0, nr_i1, bl_0, iI_add, iI_sub, iI_mul, iI_neg, qlt, qeq, qmax, qmin, qdiv, qrem, qn0, qin, I_0, w_0, I_1, w_1, I_2, w_2, I_3, w_3, I_4, w_4, I_5, w_5, I_6, w_6, I_7, w_7, I_8, w_8, I_9, w_9, I_10, w_10, I_11, w_11, I_12, w_12, I_13, w_13, I_14, w_14, I_15, w_15, I_16, w_16, I_17, w_17, I_18, w_18, I_19, w_19, I_20, w_20, I_21, w_21, I_22, w_22, I_23, w_23, I_24, w_24, I_25, w_25, I_26, w_26, I_27, w_27, I_28, w_28, I_29, w_29, I_30, w_30, I_31, w_31, I_32, w_32, I_33, w_33, I_34, w_34, I_35, w_35, I_36, w_36, I_37, w_37, I_38, w_38, I_39, w_39, I_40, w_40, I_41, w_41, I_at, w_at, th_MM, J_MM, wJ_MM, P_F, P_G, fA_in, fA_k, fA_p, fA_P, uA_P, cA_P, uA_eq, uA_k, uA_p, cA_in, cA_k, cA_p, cp_at, cp_le, qlt0, nr_ib, Nat.not_lt_zero, decide_false, ki_1, kp_1_0, kp_1_1, kp_1_2, kp_1_3, kp_1_4, kp_1_5, kp_1_6, kp_1_7, kp_1_8, kp_1_9, kp_1_10, ki_2, kp_2_0, kp_2_1, ki_17, kp_17_0, kp_17_1, ki_32, kp_32_0, kp_32_3, ki_33, kp_33_0, kp_33_1, ki_48, kz_48, ki_49, kp_49_0, ki_50, kz_50, krr_50, ki_67, kp_67_0, kp_67_1, kp_67_2, kp_67_3, kp_67_4, ki_68, kz_68, krr_68, ki_69, kz_69, krr_69, ki_70, kz_70, ki_71, kz_71, ki_144, kp_144_0, kp_144_1, kp_144_2, kp_144_3, kp_144_4, ki_145, kz_145, ki_146, kz_146, ki_147, kz_147, ki_148, kz_148, ki_149, kp_149_0, kp_149_1, kp_149_2, ki_150, kz_150, ki_151, kz_151, ki_152, kp_152_0, kp_152_1, kp_152_2, ki_153, kz_153, ki_154, kz_154, ki_155, kz_155, ki_156, kp_156_0, kp_156_1, kp_156_2, ki_157, kz_157, ki_158, kp_158_0, ki_159, kz_159, ki_160, kz_160, ki_161, kp_161_1, kp_161_2, kp_161_3, kp_161_4, kp_161_7, kp_161_21, kp_161_22, kp_161_23, kp_161_26, kp_161_27, kp_161_28, kp_161_29, kp_161_30, kp_161_32, kp_161_33, kp_161_37, kp_161_40, ki_162, kz_162, ki_163, kz_163, ki_164, kz_164, ki_165, kz_165, ki_166, kz_166, ki_167, kz_167, ki_168, kz_168, ki_169, kz_169, ki_170, kz_170, ki_171, kz_171, ki_172, kz_172, ki_173, kz_173, ki_174, kz_174, ki_175, kz_175, ki_176, kz_176, ki_177, kz_177, ki_178, kz_178, ki_179, kz_179, li_m1000000, li_m8, li_m5, li_m1, li_0, li_1, li_2, li_3, li_4, li_5, li_6, li_7, li_8, li_9, li_10, li_11, li_12, li_13, li_14, li_15, li_16, li_17, li_18, li_19, li_20, li_21, li_22, li_23, li_24, li_25, li_26, li_27, li_28, li_29, li_30, li_31, li_32, li_42, li_43, li_46, li_47, li_48, li_49, li_52, li_57, li_59, li_60, li_64, li_89, li_94, li_97, li_99, li_100, li_108, li_112, li_120, li_122, li_150, li_255, li_300, li_450, li_500, li_671, li_890, li_1000, li_1001, li_1002, li_1003, li_1424, li_12345, li_32767, li_500000, li_1000000, li_1103515245, m_unitAt]
        exact x1
      · rw [x3 p hp, uA_P hp]
      · rw [x4 j hj, uA_k _ (by omega)]
    rw [eL_Md_turns_24]
    simp (disch := omega) only [cond_true, cond_false, Bool.and_self, Bool.and_true, Bool.true_and, Bool.and_false, Bool.false_and, Bool.not_true, Bool.not_false, Bool.or_true, Bool.true_or, Bool.or_false, Bool.false_or, cond_dec, cI_ok, cR_ok, cV_ok, cJ_ok, bo_nr, bo_0, bo_i0, nr_0, nr_10, nr_11, nr_i0, nr_i1, bl_0, iI_add, iI_sub, iI_mul, iI_neg, qlt, qeq, qmax, qmin, qdiv, qrem, qn0, qin, I_0, w_0, I_1, w_1, I_2, w_2, I_3, w_3, I_4, w_4, I_5, w_5, I_6, w_6, I_7, w_7, I_8, w_8, I_9, w_9, I_10, w_10, I_11, w_11, I_12, w_12, I_13, w_13, I_14, w_14, I_15, w_15, I_16, w_16, I_17, w_17, I_18, w_18, I_19, w_19, I_20, w_20, I_21, w_21, I_22, w_22, I_23, w_23, I_24, w_24, I_25, w_25, I_26, w_26, I_27, w_27, I_28, w_28, I_29, w_29, I_30, w_30, I_31, w_31, I_32, w_32, I_33, w_33, I_34, w_34, I_35, w_35, I_36, w_36, I_37, w_37, I_38, w_38, I_39, w_39, I_40, w_40, I_41, w_41, I_at, w_at, th_MM, J_MM, wJ_MM, P_F, P_G, fA_in, fA_k, fA_p, fA_P, uA_P, cA_P, uA_eq, uA_k, uA_p, cA_in, cA_k, cA_p, cp_at, cp_le, qlt0, nr_ib, Nat.not_lt_zero, decide_false, ki_1, kp_1_0, kp_1_1, kp_1_2, kp_1_3, kp_1_4, kp_1_5, kp_1_6, kp_1_7, kp_1_8, kp_1_9, kp_1_10, ki_2, kp_2_0, kp_2_1, ki_17, kp_17_0, kp_17_1, ki_32, kp_32_0, kp_32_3, ki_33, kp_33_0, kp_33_1, ki_48, kz_48, ki_49, kp_49_0, ki_50, kz_50, krr_50, ki_67, kp_67_0, kp_67_1, kp_67_2, kp_67_3, kp_67_4, ki_68, kz_68, krr_68, ki_69, kz_69, krr_69, ki_70, kz_70, ki_71, kz_71, ki_144, kp_144_0, kp_144_1, kp_144_2, kp_144_3, kp_144_4, ki_145, kz_145, ki_146, kz_146, ki_147, kz_147, ki_148, kz_148, ki_149, kp_149_0, kp_149_1, kp_149_2, ki_150, kz_150, ki_151, kz_151, ki_152, kp_152_0, kp_152_1, kp_152_2, ki_153, kz_153, ki_154, kz_154, ki_155, kz_155, ki_156, kp_156_0, kp_156_1, kp_156_2, ki_157, kz_157, ki_158, kp_158_0, ki_159, kz_159, ki_160, kz_160, ki_161, kp_161_1, kp_161_2, kp_161_3, kp_161_4, kp_161_7, kp_161_21, kp_161_22, kp_161_23, kp_161_26, kp_161_27, kp_161_28, kp_161_29, kp_161_30, kp_161_32, kp_161_33, kp_161_37, kp_161_40, ki_162, kz_162, ki_163, kz_163, ki_164, kz_164, ki_165, kz_165, ki_166, kz_166, ki_167, kz_167, ki_168, kz_168, ki_169, kz_169, ki_170, kz_170, ki_171, kz_171, ki_172, kz_172, ki_173, kz_173, ki_174, kz_174, ki_175, kz_175, ki_176, kz_176, ki_177, kz_177, ki_178, kz_178, ki_179, kz_179, li_m1000000, li_m8, li_m5, li_m1, li_0, li_1, li_2, li_3, li_4, li_5, li_6, li_7, li_8, li_9, li_10, li_11, li_12, li_13, li_14, li_15, li_16, li_17, li_18, li_19, li_20, li_21, li_22, li_23, li_24, li_25, li_26, li_27, li_28, li_29, li_30, li_31, li_32, li_42, li_43, li_46, li_47, li_48, li_49, li_52, li_57, li_59, li_60, li_64, li_89, li_94, li_97, li_99, li_100, li_108, li_112, li_120, li_122, li_150, li_255, li_300, li_450, li_500, li_671, li_890, li_1000, li_1001, li_1002, li_1003, li_1424, li_12345, li_32767, li_500000, li_1000000, li_1103515245, mu, mo]
    rw [if_pos (by omega)]
    by_cases c : i = on
    · rw [if_pos c]
      exact go _ (by unfold lg; rw [if_pos c])
    · rw [if_neg c]
      exact go _ (by unfold lg; rw [if_neg c])
theorem tt_tn {j : Int} (h0 : 0 ≤ j) (h1 : j < 89) (hw : wT σ 0) (hw1 : wT σ 1) : (if j = 0 then max 0 (σ 0 - 1) else tt (tt σ 0 x) 1 y j) = tn σ x y j := by
  have u0 := hw.1
  have u1 := hw.2.1
  have v0 := hw1.1
  have v1 := hw1.2.1
  have hun : un σ 0 = tf σ 0 0 + tf σ 0 1 := rfl
  have hun1 : un σ 1 = tf σ 1 0 + tf σ 1 1 := rfl
  have far : ∀ i, 46 ≤ i → tt σ 0 x i = σ i := by
    intro i hi
    unfold tt
    rw [if_neg (by omega), if_neg (by omega), if_neg (by omega)]
  have eu : un (tt σ 0 x) 1 = un σ 1 := by
    unfold un tf
    rw [far _ (by omega), far _ (by omega)]
  have el : ∀ u, 0 ≤ u → lg (tt σ 0 x) 1 u y = lg σ 1 u y := by
    intro u hu
    unfold lg uf
    rw [far _ (by omega), far _ (by omega), far _ (by omega), far _ (by omega)]
  by_cases j0 : j = 0
  · subst j0
    rw [if_pos rfl]; rfl
  · rw [if_neg j0]
    by_cases L1 : 53 ≤ j ∧ j < 89 ∧ (j - 53) % 6 = 5 ∧ (j - 53) / 6 < un σ 1
    · have l : tt (tt σ 0 x) 1 y j = lg (tt σ 0 x) 1 ((j - 10 - 43 * 1) / 6) y := if_pos ⟨by omega, by omega, by omega, by rw [eu]; omega⟩
      rw [l, el _ (by omega)]
      unfold tn
      rw [if_neg j0, if_neg (by omega), if_neg (by omega), if_neg (by omega), if_pos L1, show (j - 10 - 43 * 1) / 6 = (j - 53) / 6 by omega]
    · have l : tt (tt σ 0 x) 1 y j = if j = 7 + 43 * 1 then max 0 (tt σ 0 x j - 1) else if j = 9 + 43 * 1 then -1 else tt σ 0 x j := if_neg (fun z => L1 ⟨by omega, by omega, by omega, by have := z.2.2.2; rw [eu] at this; omega⟩)
      rw [l]
      by_cases j5 : j = 50
      · subst j5
        rw [if_pos (by decide), far _ (by decide)]; rfl
      · rw [if_neg (by omega)]
        by_cases j6 : j = 52
        · subst j6
          rw [if_pos (by decide)]; rfl
        · rw [if_neg (by omega)]
          unfold tt tn
          rw [if_neg j0]
          by_cases L0 : 10 ≤ j ∧ j < 46 ∧ (j - 10) % 6 = 5 ∧ (j - 10) / 6 < un σ 0
          · rw [if_pos (by omega), if_neg (by omega), if_neg (by omega), if_pos L0, show (j - 10 - 43 * 0) / 6 = (j - 10) / 6 by omega]
          · rw [if_neg (by omega)]
            by_cases j7 : j = 7
            · rw [if_pos (by omega), if_pos (by omega)]
            · rw [if_neg (by omega), if_neg (c := j = 7 ∨ j = 50) (by omega)]
              by_cases j9 : j = 9
              · rw [if_pos (by omega), if_pos (by omega)]
              · rw [if_neg (by omega), if_neg (by omega), if_neg L0, if_neg L1]
theorem m_turns (d : Nat) (hd : 2 < d) (hr : RowAt A a σ) (hf : WF σ) (ha : 0 ≤ a) (ha' : a ≤ 9) (x0 : -2147483648 ≤ x) (x1 : x < 2147483648) (y0 : -2147483648 ≤ y) (y1 : y < 2147483648) : ∃ A', D_Md_turns d (MM A E) 161 (iI a) (iI x) (iI y) = some (.inl none, MM A' E) ∧ RowAt A' a (tn σ x y) ∧ (∀ p, p ≠ 162 → A' p = A p) ∧ ∀ j, (j < 89 * a ∨ 89 * a + 89 ≤ j) → A' 162 j = A 162 j := by
  have f0 := hf.1
  have w0 := hf.2.2.2.1
  have w1 := hf.2.2.2.2
  obtain ⟨A1, p1, p2, p3, p4⟩ := m_turnsL (E := E) (x := x) (y := y) d hd ha ha' (.inl rfl) w0 x0 x1 _ 0 A rfl (by decide) (by have := w0.1; have := w0.2.1; unfold un; omega) (fun j j0 j1 => by
    rw [hr j j0 j1]
    unfold pt
    rw [if_neg (by omega)])
  have w1' : wT (tt σ 0 x) 1 := wT_cg (.inr rfl) (fun j j0 j1 => by
    unfold tt
    rw [if_neg (by omega), if_neg (by omega), if_neg (by omega)]) w1
  obtain ⟨A2, q1, q2, q3, q4⟩ := m_turnsL (E := E) (x := x) (y := y) (σ := tt σ 0 x) d hd ha ha' (.inr rfl) w1' y0 y1 _ 0 A1 rfl (by decide) (by have := w1'.1; have := w1'.2.1; unfold un; omega) (fun j j0 j1 => by
    rw [p2 j j0 j1]
    unfold pt
    rw [if_neg (by omega)])
  have g0 : tt (tt σ 0 x) 1 y 0 = σ 0 := rfl
  have m0 := m_of (E := E) (d - 1) q2 ha ha' (w := 0) (by decide) (by decide)
  rw [g0] at m0
  refine ⟨uA A2 162 (89 * a + 0) (max 0 (σ 0 - 1)), ?_, fun j j0 j1 => ?_, fun p hp => ?_, fun j hj => ?_⟩
  · rw [eD_Md_turns, eL_Md_turns_3, show mm_lt 0 2 = true from rfl, show mm_eq 0 0 = true from rfl, cond_true, cond_true, li_0, p1, eL_Md_turns_3]
    simp (disch := omega) only [cond_true, cond_false, Bool.and_self, Bool.and_true, Bool.true_and, Bool.and_false, Bool.false_and, Bool.not_true, Bool.not_false, Bool.or_true, Bool.true_or, Bool.or_false, Bool.false_or, cond_dec, cI_ok, cR_ok, cV_ok, cJ_ok, bo_nr, bo_0, bo_i0, nr_0, nr_10, nr_11, nr_i0, nr_i1, bl_0, iI_add, iI_sub, iI_mul, iI_neg, qlt, qeq, qmax, qmin, qdiv, qrem, qn0, qin, I_0, w_0, I_1, w_1, I_2, w_2, I_3, w_3, I_4, w_4, I_5, w_5, I_6, w_6, I_7, w_7, I_8, w_8, I_9, w_9, I_10, w_10, I_11, w_11, I_12, w_12, I_13, w_13, I_14, w_14, I_15, w_15, I_16, w_16, I_17, w_17, I_18, w_18, I_19, w_19, I_20, w_20, I_21, w_21, I_22, w_22, I_23, w_23, I_24, w_24, I_25, w_25, I_26, w_26, I_27, w_27, I_28, w_28, I_29, w_29, I_30, w_30, I_31, w_31, I_32, w_32, I_33, w_33, I_34, w_34, I_35, w_35, I_36, w_36, I_37, w_37, I_38, w_38, I_39, w_39, I_40, w_40, I_41, w_41, I_at, w_at, th_MM, J_MM, wJ_MM, P_F, P_G, fA_in, fA_k, fA_p, fA_P, uA_P, cA_P, uA_eq, uA_k, uA_p, cA_in, cA_k, cA_p, cp_at, cp_le, qlt0, nr_ib, Nat.not_lt_zero, decide_false, ki_1, kp_1_0, kp_1_1, kp_1_2, kp_1_3, kp_1_4, kp_1_5, kp_1_6, kp_1_7, kp_1_8, kp_1_9, kp_1_10, ki_2, kp_2_0, kp_2_1, ki_17, kp_17_0, kp_17_1, ki_32, kp_32_0, kp_32_3, ki_33, kp_33_0, kp_33_1, ki_48, kz_48, ki_49, kp_49_0, ki_50, kz_50, krr_50, ki_67, kp_67_0, kp_67_1, kp_67_2, kp_67_3, kp_67_4, ki_68, kz_68, krr_68, ki_69, kz_69, krr_69, ki_70, kz_70, ki_71, kz_71, ki_144, kp_144_0, kp_144_1, kp_144_2, kp_144_3, kp_144_4, ki_145, kz_145, ki_146, kz_146, ki_147, kz_147, ki_148, kz_148, ki_149, kp_149_0, kp_149_1, kp_149_2, ki_150, kz_150, ki_151, kz_151, ki_152, kp_152_0, kp_152_1, kp_152_2, ki_153, kz_153, ki_154, kz_154, ki_155, kz_155, ki_156, kp_156_0, kp_156_1, kp_156_2, ki_157, kz_157, ki_158, kp_158_0, ki_159, kz_159, ki_160, kz_160, ki_161, kp_161_1, kp_161_2, kp_161_3, kp_161_4, kp_161_7, kp_161_21, kp_161_22, kp_161_23, kp_161_26, kp_161_27, kp_161_28, kp_161_29, kp_161_30, kp_161_32, kp_161_33, kp_161_37, kp_161_40, ki_162, kz_162, ki_163, kz_163, ki_164, kz_164, ki_165, kz_165, ki_166, kz_166, ki_167, kz_167, ki_168, kz_168, ki_169, kz_169, ki_170, kz_170, ki_171, kz_171, ki_172, kz_172, ki_173, kz_173, ki_174, kz_174, ki_175, kz_175, ki_176, kz_176, ki_177, kz_177, ki_178, kz_178, ki_179, kz_179, li_m1000000, li_m8, li_m5, li_m1, li_0, li_1, li_2, li_3, li_4, li_5, li_6, li_7, li_8, li_9, li_10, li_11, li_12, li_13, li_14, li_15, li_16, li_17, li_18, li_19, li_20, li_21, li_22, li_23, li_24, li_25, li_26, li_27, li_28, li_29, li_30, li_31, li_32, li_42, li_43, li_46, li_47, li_48, li_49, li_52, li_57, li_59, li_60, li_64, li_89, li_94, li_97, li_99, li_100, li_108, li_112, li_120, li_122, li_150, li_255, li_300, li_450, li_500, li_671, li_890, li_1000, li_1001, li_1002, li_1003, li_1424, li_12345, li_32767, li_500000, li_1000000, li_1103515245, Int.reduceEq, Int.reduceLT, Int.reduceLE, reduceIte, Int.reduceAdd, Int.reduceSub, Int.reduceMul, Nat.reduceAdd, Nat.reduceMul]
    simp only [Int.reduceAdd] at q1
    rw [q1, eL_Md_turns_3]
    simp (disch := omega) only [cond_true, cond_false, Bool.and_self, Bool.and_true, Bool.true_and, Bool.and_false, Bool.false_and, Bool.not_true, Bool.not_false, Bool.or_true, Bool.true_or, Bool.or_false, Bool.false_or, cond_dec, cI_ok, cR_ok, cV_ok, cJ_ok, bo_nr, bo_0, bo_i0, nr_0, nr_10, nr_11, nr_i0, nr_i1, bl_0, iI_add, iI_sub, iI_mul, iI_neg, qlt, qeq, qmax, qmin, qdiv, qrem, qn0, qin, I_0, w_0, I_1, w_1, I_2, w_2, I_3, w_3, I_4, w_4, I_5, w_5, I_6, w_6, I_7, w_7, I_8, w_8, I_9, w_9, I_10, w_10, I_11, w_11, I_12, w_12, I_13, w_13, I_14, w_14, I_15, w_15, I_16, w_16, I_17, w_17, I_18, w_18, I_19, w_19, I_20, w_20, I_21, w_21, I_22, w_22, I_23, w_23, I_24, w_24, I_25, w_25, I_26, w_26, I_27, w_27, I_28, w_28, I_29, w_29, I_30, w_30, I_31, w_31, I_32, w_32, I_33, w_33, I_34, w_34, I_35, w_35, I_36, w_36, I_37, w_37, I_38, w_38, I_39, w_39, I_40, w_40, I_41, w_41, I_at, w_at, th_MM, J_MM, wJ_MM, P_F, P_G, fA_in, fA_k, fA_p, fA_P, uA_P, cA_P, uA_eq, uA_k, uA_p, cA_in, cA_k, cA_p, cp_at, cp_le, qlt0, nr_ib, Nat.not_lt_zero, decide_false, ki_1, kp_1_0, kp_1_1, kp_1_2, kp_1_3, kp_1_4, kp_1_5, kp_1_6, kp_1_7, kp_1_8, kp_1_9, kp_1_10, ki_2, kp_2_0, kp_2_1, ki_17, kp_17_0, kp_17_1, ki_32, kp_32_0, kp_32_3, ki_33, kp_33_0, kp_33_1, ki_48, kz_48, ki_49, kp_49_0, ki_50, kz_50, krr_50, ki_67, kp_67_0, kp_67_1, kp_67_2, kp_67_3, kp_67_4, ki_68, kz_68, krr_68, ki_69, kz_69, krr_69, ki_70, kz_70, ki_71, kz_71, ki_144, kp_144_0, kp_144_1, kp_144_2, kp_144_3, kp_144_4, ki_145, kz_145, ki_146, kz_146, ki_147, kz_147, ki_148, kz_148, ki_149, kp_149_0, kp_149_1, kp_149_2, ki_150, kz_150, ki_151, kz_151, ki_152, kp_152_0, kp_152_1, kp_152_2, ki_153, kz_153, ki_154, kz_154, ki_155, kz_155, ki_156, kp_156_0, kp_156_1, kp_156_2, ki_157, kz_157, ki_158, kp_158_0, ki_159, kz_159, ki_160, kz_160, ki_161, kp_161_1, kp_161_2, kp_161_3, kp_161_4, kp_161_7, kp_161_21, kp_161_22, kp_161_23, kp_161_26, kp_161_27, kp_161_28, kp_161_29, kp_161_30, kp_161_32, kp_161_33, kp_161_37, kp_161_40, ki_162, kz_162, ki_163, kz_163, ki_164, kz_164, ki_165, kz_165, ki_166, kz_166, ki_167, kz_167, ki_168, kz_168, ki_169, kz_169, ki_170, kz_170, ki_171, kz_171, ki_172, kz_172, ki_173, kz_173, ki_174, kz_174, ki_175, kz_175, ki_176, kz_176, ki_177, kz_177, ki_178, kz_178, ki_179, kz_179, li_m1000000, li_m8, li_m5, li_m1, li_0, li_1, li_2, li_3, li_4, li_5, li_6, li_7, li_8, li_9, li_10, li_11, li_12, li_13, li_14, li_15, li_16, li_17, li_18, li_19, li_20, li_21, li_22, li_23, li_24, li_25, li_26, li_27, li_28, li_29, li_30, li_31, li_32, li_42, li_43, li_46, li_47, li_48, li_49, li_52, li_57, li_59, li_60, li_64, li_89, li_94, li_97, li_99, li_100, li_108, li_112, li_120, li_122, li_150, li_255, li_300, li_450, li_500, li_671, li_890, li_1000, li_1001, li_1002, li_1003, li_1424, li_12345, li_32767, li_500000, li_1000000, li_1103515245, Int.reduceEq, Int.reduceLT, Int.reduceLE, reduceIte, Int.reduceAdd, Int.reduceSub, Int.reduceMul, Nat.reduceAdd, Nat.reduceMul, m0]
  · by_cases c : j = 0
    · rw [c, uA_eq]; rfl
    · rw [uA_k _ (by omega), q2 j j0 j1, ← tt_tn (x := x) (y := y) j0 j1 w0 w1, if_neg c]
  · rw [uA_P hp, q3 p hp, p3 p hp]
  · rw [uA_k _ (by omega), q4 j hj, p4 j hj]
end MV
