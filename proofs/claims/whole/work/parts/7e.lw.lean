/-! ===== the law: what catches ===== -/
section LW
variable {A : Am} {E : En} {S : St} {o : Int ⊕ Nat} {m : Int} {D : Option am_R}
/-- old things stay, some exceptions are made -/
def EXr (E E' : En) : Prop := eO E' = eO E ∧ eL E' = eL E ∧ eX E' ≤ eX E + 1 ∧ eS E' ≤ eS E + 6
theorem m_thrown (d : Nat) : D_Md_thrown d (MM A E) 161 = some (.inl (some (.int (iI (A 161 0)))), MM A E) := by
  rw [eD_Md_thrown]
  simp (disch := omega) only [cond_true, cond_false, Bool.and_self, Bool.and_true, Bool.true_and, Bool.and_false, Bool.false_and, Bool.not_true, Bool.not_false, Bool.or_true, Bool.true_or, Bool.or_false, Bool.false_or, cond_dec, cI_ok, cR_ok, cV_ok, cJ_ok, bo_nr, bo_0, bo_i0, nr_0, nr_10, nr_11, nr_i0, nr_i1, bl_0, iI_add, iI_sub, iI_mul, iI_neg, qlt, qeq, qmax, qmin, qdiv, qrem, qn0, qin, I_0, w_0, I_1, w_1, I_2, w_2, I_3, w_3, I_4, w_4, I_5, w_5, I_6, w_6, I_7, w_7, I_8, w_8, I_9, w_9, I_10, w_10, I_11, w_11, I_12, w_12, I_13, w_13, I_14, w_14, I_15, w_15, I_16, w_16, I_17, w_17, I_18, w_18, I_19, w_19, I_20, w_20, I_21, w_21, I_22, w_22, I_23, w_23, I_24, w_24, I_25, w_25, I_26, w_26, I_27, w_27, I_28, w_28, I_29, w_29, I_30, w_30, I_31, w_31, I_32, w_32, I_33, w_33, I_34, w_34, I_35, w_35, I_36, w_36, I_37, w_37, I_38, w_38, I_39, w_39, I_40, w_40, I_41, w_41, I_at, w_at, th_MM, J_MM, wJ_MM, P_F, P_G, fA_in, fA_k, fA_p, fA_P, uA_P, cA_P, uA_eq, uA_k, uA_p, cA_in, cA_k, cA_p, cp_at, cp_le, qlt0, nr_ib, Nat.not_lt_zero, decide_false, ki_1, kp_1_0, kp_1_1, kp_1_2, kp_1_3, kp_1_4, kp_1_5, kp_1_6, kp_1_7, kp_1_8, kp_1_9, kp_1_10, ki_2, kp_2_0, kp_2_1, ki_17, kp_17_0, kp_17_1, ki_32, kp_32_0, kp_32_3, ki_33, kp_33_0, kp_33_1, ki_48, kz_48, ki_49, kp_49_0, ki_50, kz_50, krr_50, ki_67, kp_67_0, kp_67_1, kp_67_2, kp_67_3, kp_67_4, ki_68, kz_68, krr_68, ki_69, kz_69, krr_69, ki_70, kz_70, ki_71, kz_71, ki_144, kp_144_0, kp_144_1, kp_144_2, kp_144_3, kp_144_4, ki_145, kz_145, ki_146, kz_146, ki_147, kz_147, ki_148, kz_148, ki_149, kp_149_0, kp_149_1, kp_149_2, ki_150, kz_150, ki_151, kz_151, ki_152, kp_152_0, kp_152_1, kp_152_2, ki_153, kz_153, ki_154, kz_154, ki_155, kz_155, ki_156, kp_156_0, kp_156_1, kp_156_2, ki_157, kz_157, ki_158, kp_158_0, ki_159, kz_159, ki_160, kz_160, ki_161, kp_161_1, kp_161_2, kp_161_3, kp_161_4, kp_161_7, kp_161_21, kp_161_22, kp_161_23, kp_161_26, kp_161_27, kp_161_28, kp_161_29, kp_161_30, kp_161_32, kp_161_33, kp_161_37, kp_161_40, ki_162, kz_162, ki_163, kz_163, ki_164, kz_164, ki_165, kz_165, ki_166, kz_166, ki_167, kz_167, ki_168, kz_168, ki_169, kz_169, ki_170, kz_170, ki_171, kz_171, ki_172, kz_172, ki_173, kz_173, ki_174, kz_174, ki_175, kz_175, ki_176, kz_176, ki_177, kz_177, ki_178, kz_178, ki_179, kz_179, li_m1000000, li_m8, li_m5, li_m1, li_0, li_1, li_2, li_3, li_4, li_5, li_6, li_7, li_8, li_9, li_10, li_11, li_12, li_13, li_14, li_15, li_16, li_17, li_18, li_19, li_20, li_21, li_22, li_23, li_24, li_25, li_26, li_27, li_28, li_29, li_30, li_31, li_32, li_42, li_43, li_46, li_47, li_48, li_49, li_52, li_57, li_59, li_60, li_64, li_89, li_94, li_97, li_99, li_100, li_108, li_112, li_120, li_122, li_150, li_255, li_300, li_450, li_500, li_671, li_890, li_1000, li_1001, li_1002, li_1003, li_1424, li_12345, li_32767, li_500000, li_1000000, li_1103515245, Int.reduceEq, Int.reduceLT, Int.reduceLE, reduceIte, Int.reduceAdd, Int.reduceSub, Int.reduceMul, Nat.reduceAdd, Nat.reduceMul]
theorem law_wrap (h : CC D A E o S) (G : Nat → mm_M → Option am_R) (hG : ∀ e h', o = .inr e → G e h' = some (.inl (some (.int (iI (thr m o)))), h')) :
    ∃ A' E', am_cI D (fun v1 h1 => cond (mm_is h1 179 102 && mm_in 0 (mm_sz h1 179)) (some (.inl (some (.int 0)), (mm_wJ h1 179 (Int32.toNatClampNeg 0) (Int32.toInt64 v1)))) none) G = some (.inl (some (.int (iI (thr m o)))), MM A' E') ∧ CI A' S ∧ (∀ p, 160 < p → A' p = A p) ∧ EXr E E' ∧ ∀ v, o = .inl v → eJ E' 179 0 = Int32.toInt64 (iI v) := by
  obtain ⟨A', E', x1, x2, x3, x4⟩ := h
  cases o with
  | inl v =>
    refine ⟨A', jE E' 179 0 (Int32.toInt64 (iI v)), ?_, x2, x3, ⟨x4.1, x4.2.1, x4.2.2.2.1, x4.2.2.2.2⟩, fun w hw => ?_⟩
    · rw [x1]
      rfl
    · have : v = w := Sum.inl.inj hw
      rw [← this]; rfl
  | inr e =>
    refine ⟨A', E', ?_, x2, x3, ⟨x4.1, x4.2.1, x4.2.2.2.1, x4.2.2.2.2⟩, fun w hw => by cases hw⟩
    rw [x1]
    exact hG e _ rfl
end LW
