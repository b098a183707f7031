/-! ===== tokens: the model, words ===== -/
section MGo
variable {A : Am} {E : En} {b : Int → Int} {n s p : Int}
theorem m_goes (d : Nat) (hd : 2 < d) (n5 : n ≤ 500) (hb : Bt b n) (p0 : 0 ≤ p) (p1 : p ≤ n) (ht : TPm A b n) (h10 : A 161 10 = p) :
    ∃ A' E', D_Md_goes d (MM A E) 161 = some (.inl none, MM A' E') ∧ TKm A' E' b n (tS b n p) ∧ NFm A A' ∧ E0 E E' := by
  obtain ⟨A1, x1, x2, x3, x4⟩ := m_skip (E := E) d (by omega) n5 hb (n - p).toNat p A (by omega) p0 ht h10
  have sr : p ≤ tS b n p ∧ tS b n p ≤ n := tS_rg p1
  change A1 161 10 = tS b n p at x2
  generalize tS b n p = s at *
  have t1 : TPm A1 b n := TPm_fr ht (x3 9 (by decide)) (x4 166 (by decide))
  have h9 := t1.1
  have t2 : TPm (uA A1 161 11 s) b n := TPm_fr t1 (uA_k _ (by decide)) (uA_P (by decide))
  have by1 := m_byteAt (E := E) (A := uA A1 161 11 s) (d - 1) n5 hb t2 (p := s) (by omega) sr.2
  rw [x1]
  by_cases c : n ≤ s
  · have ek : tK b n s = 3 := tK_3.mpr c
    have ee : tE b n s = s := by unfold tE; rw [if_pos c]
    refine ⟨uA (uA A1 161 11 s) 161 12 1003, E, ?_, ⟨?_, ?_, ?_, fun z => by omega, fun z => by omega⟩, ⟨fun j j0 j1 j2 j3 j4 => ?_, fun q hq => ?_⟩, E0_refl E⟩
    · rw [if_neg (by omega)] at by1
      rw [eL_Md_goes_50]
      simp (disch := omega) only [cond_true, cond_false, Bool.and_self, Bool.and_true, Bool.true_and, Bool.and_false, Bool.false_and, Bool.not_true, Bool.not_false, Bool.or_true, Bool.true_or, Bool.or_false, Bool.false_or, cond_dec, cI_ok, cR_ok, cV_ok, cJ_ok, bo_nr, bo_0, bo_i0, nr_0, nr_10, nr_11, nr_i0, nr_i1, bl_0, iI_add, iI_sub, iI_mul, iI_neg, qlt, qeq, qmax, qmin, qdiv, qrem, qn0, qin, I_0, w_0, I_1, w_1, I_2, w_2, I_3, w_3, I_4, w_4, I_5, w_5, I_6, w_6, I_7, w_7, I_8, w_8, I_9, w_9, I_10, w_10, I_11, w_11, I_12, w_12, I_13, w_13, I_14, w_14, I_15, w_15, I_16, w_16, I_17, w_17, I_18, w_18, I_19, w_19, I_20, w_20, I_21, w_21, I_22, w_22, I_23, w_23, I_24, w_24, I_25, w_25, I_26, w_26, I_27, w_27, I_28, w_28, I_29, w_29, I_30, w_30, I_31, w_31, I_32, w_32, I_33, w_33, I_34, w_34, I_35, w_35, I_36, w_36, I_37, w_37, I_38, w_38, I_39, w_39, I_40, w_40, I_41, w_41, I_at, w_at, th_MM, J_MM, wJ_MM, P_F, P_G, fA_in, fA_k, fA_p, fA_P, uA_P, cA_P, uA_eq, uA_k, uA_p, cA_in, cA_k, cA_p, cp_at, cp_le, qlt0, nr_ib, Nat.not_lt_zero, decide_false, ki_1, kp_1_0, kp_1_1, kp_1_2, kp_1_3, kp_1_4, kp_1_5, kp_1_6, kp_1_7, kp_1_8, kp_1_9, kp_1_10, ki_2, kp_2_0, kp_2_1, ki_17, kp_17_0, kp_17_1, ki_32, kp_32_0, kp_32_3, ki_33, kp_33_0, kp_33_1, ki_48, kz_48, ki_49, kp_49_0, ki_50, kz_50, krr_50, ki_67, kp_67_0, kp_67_1, kp_67_2, kp_67_3, kp_67_4, ki_68, kz_68, krr_68, ki_69, kz_69, krr_69, ki_70, kz_70, ki_71, kz_71, ki_144, kp_144_0, kp_144_1, kp_144_2, kp_144_3, kp_144_4, ki_145, kz_145, ki_146, kz_146, ki_147, kz_147, ki_148, kz_148, ki_149, kp_149_0, kp_149_1, kp_149_2, ki_150, kz_150, ki_151, kz_151, ki_152, kp_152_0, kp_152_1, kp_152_2, ki_153, kz_153, ki_154, kz_154, ki_155, kz_155, ki_156, kp_156_0, kp_156_1, kp_156_2, ki_157, kz_157, ki_158, kp_158_0, ki_159, kz_159, ki_160, kz_160, ki_161, kp_161_1, kp_161_2, kp_161_3, kp_161_4, kp_161_7, kp_161_21, kp_161_22, kp_161_23, kp_161_26, kp_161_27, kp_161_28, kp_161_29, kp_161_30, kp_161_32, kp_161_33, kp_161_37, kp_161_40, ki_162, kz_162, ki_163, kz_163, ki_164, kz_164, ki_165, kz_165, ki_166, kz_166, ki_167, kz_167, ki_168, kz_168, ki_169, kz_169, ki_170, kz_170, ki_171, kz_171, ki_172, kz_172, ki_173, kz_173, ki_174, kz_174, ki_175, kz_175, ki_176, kz_176, ki_177, kz_177, ki_178, kz_178, ki_179, kz_179, li_m1000000, li_m8, li_m5, li_m1, li_0, li_1, li_2, li_3, li_4, li_5, li_6, li_7, li_8, li_9, li_10, li_11, li_12, li_13, li_14, li_15, li_16, li_17, li_18, li_19, li_20, li_21, li_22, li_23, li_24, li_25, li_26, li_27, li_28, li_29, li_30, li_31, li_32, li_42, li_43, li_46, li_47, li_48, li_49, li_52, li_57, li_59, li_60, li_64, li_89, li_94, li_97, li_99, li_100, li_108, li_112, li_120, li_122, li_150, li_255, li_300, li_450, li_500, li_671, li_890, li_1000, li_1001, li_1002, li_1003, li_1424, li_12345, li_32767, li_500000, li_1000000, li_1103515245, Int.reduceEq, Int.reduceLT, Int.reduceLE, reduceIte, Int.reduceAdd, Int.reduceSub, Int.reduceMul, Nat.reduceAdd, Nat.reduceMul, x2, h9, by1]
      rw [if_pos (by omega)]
    · rw [uA_k _ (by decide), uA_eq]
    · rw [uA_k _ (by decide), uA_k _ (by decide), ee]; exact x2
    · rw [uA_eq, ek]; rfl
    · rw [uA_k _ j2, uA_k _ j1, x3 j j0]
    · rw [uA_P hq, uA_P hq, x4 q hq]
  · have br := hb s (by omega) (by omega)
    rw [if_pos (by omega)] at by1
    have lt := m_isLt (d - 1) (by omega) (MM (uA A1 161 11 s) E) (x := b s % 256) (by omega) (by omega)
    have lf := m_isFg (d - 1) (by omega) (MM (uA A1 161 11 s) E) (x := b s % 256) (by omega) (by omega)
    by_cases c1 : isLt (b s)
    · have c1' : 97 ≤ b s ∧ b s ≤ 122 := c1
      have ek : tK b n s = 0 := by unfold tK; rw [if_neg c, if_pos c1]
      have ee : tE b n s = wnd b n (n - s).toNat s := by unfold tE; rw [if_neg c, if_pos c1]
      rw [decide_eq_true (p := isLt (b s % 256)) (by unfold isLt; omega), bo_T] at lt
      obtain ⟨A', E', y1, y2, y3, y4, y5, y6, y7⟩ := m_nword (b := b) (n := n) (s := s) d (by omega) n5 hb (by omega) (n - s).toNat s 0 (uA (uA (uA A1 161 11 s) 161 12 1001) 161 14 0) (jE E 161 15 (iJ 0)) (by omega) (by omega) (TPm_fr t2 (by rw [uA_k _ (by decide), uA_k _ (by decide)]) (by rw [uA_P (by decide), uA_P (by decide)])) (by rw [uA_k _ (by decide), uA_k _ (by decide), uA_k _ (by decide)]; exact x2) (uA_eq _ _ _) rfl
      rw [← ee] at y2 y3 y4
      refine ⟨A', E', ?_, ⟨?_, y2, ?_, fun z => by omega, fun _ => ⟨y3, y4⟩⟩, ⟨fun j j0 j1 j2 j3 j4 => ?_, fun q hq => ?_⟩, E0_tr ⟨rfl, rfl, rfl, rfl, rfl⟩ y7⟩
      · rw [eL_Md_goes_50]
        simp (disch := omega) only [cond_true, cond_false, Bool.and_self, Bool.and_true, Bool.true_and, Bool.and_false, Bool.false_and, Bool.not_true, Bool.not_false, Bool.or_true, Bool.true_or, Bool.or_false, Bool.false_or, cond_dec, cI_ok, cR_ok, cV_ok, cJ_ok, bo_nr, bo_0, bo_i0, nr_0, nr_10, nr_11, nr_i0, nr_i1, bl_0, iI_add, iI_sub, iI_mul, iI_neg, qlt, qeq, qmax, qmin, qdiv, qrem, qn0, qin, I_0, w_0, I_1, w_1, I_2, w_2, I_3, w_3, I_4, w_4, I_5, w_5, I_6, w_6, I_7, w_7, I_8, w_8, I_9, w_9, I_10, w_10, I_11, w_11, I_12, w_12, I_13, w_13, I_14, w_14, I_15, w_15, I_16, w_16, I_17, w_17, I_18, w_18, I_19, w_19, I_20, w_20, I_21, w_21, I_22, w_22, I_23, w_23, I_24, w_24, I_25, w_25, I_26, w_26, I_27, w_27, I_28, w_28, I_29, w_29, I_30, w_30, I_31, w_31, I_32, w_32, I_33, w_33, I_34, w_34, I_35, w_35, I_36, w_36, I_37, w_37, I_38, w_38, I_39, w_39, I_40, w_40, I_41, w_41, I_at, w_at, th_MM, J_MM, wJ_MM, P_F, P_G, fA_in, fA_k, fA_p, fA_P, uA_P, cA_P, uA_eq, uA_k, uA_p, cA_in, cA_k, cA_p, cp_at, cp_le, qlt0, nr_ib, Nat.not_lt_zero, decide_false, ki_1, kp_1_0, kp_1_1, kp_1_2, kp_1_3, kp_1_4, kp_1_5, kp_1_6, kp_1_7, kp_1_8, kp_1_9, kp_1_10, ki_2, kp_2_0, kp_2_1, ki_17, kp_17_0, kp_17_1, ki_32, kp_32_0, kp_32_3, ki_33, kp_33_0, kp_33_1, ki_48, kz_48, ki_49, kp_49_0, ki_50, kz_50, krr_50, ki_67, kp_67_0, kp_67_1, kp_67_2, kp_67_3, kp_67_4, ki_68, kz_68, krr_68, ki_69, kz_69, krr_69, ki_70, kz_70, ki_71, kz_71, ki_144, kp_144_0, kp_144_1, kp_144_2, kp_144_3, kp_144_4, ki_145, kz_145, ki_146, kz_146, ki_147, kz_147, ki_148, kz_148, ki_149, kp_149_0, kp_149_1, kp_149_2, ki_150, kz_150, ki_151, kz_151, ki_152, kp_152_0, kp_152_1, kp_152_2, ki_153, kz_153, ki_154, kz_154, ki_155, kz_155, ki_156, kp_156_0, kp_156_1, kp_156_2, ki_157, kz_157, ki_158, kp_158_0, ki_159, kz_159, ki_160, kz_160, ki_161, kp_161_1, kp_161_2, kp_161_3, kp_161_4, kp_161_7, kp_161_21, kp_161_22, kp_161_23, kp_161_26, kp_161_27, kp_161_28, kp_161_29, kp_161_30, kp_161_32, kp_161_33, kp_161_37, kp_161_40, ki_162, kz_162, ki_163, kz_163, ki_164, kz_164, ki_165, kz_165, ki_166, kz_166, ki_167, kz_167, ki_168, kz_168, ki_169, kz_169, ki_170, kz_170, ki_171, kz_171, ki_172, kz_172, ki_173, kz_173, ki_174, kz_174, ki_175, kz_175, ki_176, kz_176, ki_177, kz_177, ki_178, kz_178, ki_179, kz_179, li_m1000000, li_m8, li_m5, li_m1, li_0, li_1, li_2, li_3, li_4, li_5, li_6, li_7, li_8, li_9, li_10, li_11, li_12, li_13, li_14, li_15, li_16, li_17, li_18, li_19, li_20, li_21, li_22, li_23, li_24, li_25, li_26, li_27, li_28, li_29, li_30, li_31, li_32, li_42, li_43, li_46, li_47, li_48, li_49, li_52, li_57, li_59, li_60, li_64, li_89, li_94, li_97, li_99, li_100, li_108, li_112, li_120, li_122, li_150, li_255, li_300, li_450, li_500, li_671, li_890, li_1000, li_1001, li_1002, li_1003, li_1424, li_12345, li_32767, li_500000, li_1000000, li_1103515245, Int.reduceEq, Int.reduceLT, Int.reduceLE, reduceIte, Int.reduceAdd, Int.reduceSub, Int.reduceMul, Nat.reduceAdd, Nat.reduceMul, x2, h9, by1, lt, lj_0, y1]
        rw [if_neg (by omega)]
      · rw [y5 11 (by decide) (by decide), uA_k _ (by decide), uA_k _ (by decide), uA_eq]
      · rw [y5 12 (by decide) (by decide), uA_k _ (by decide), uA_eq, ek]; rfl
      · rw [y5 j j0 j4, uA_k _ j4, uA_k _ j2, uA_k _ j1, x3 j j0]
      · rw [y6 q hq, uA_P hq, uA_P hq, uA_P hq, x4 q hq]
    · rw [decide_eq_false (p := isLt (b s % 256)) (fun z => c1 (by unfold isLt at z ⊢; omega)), bo_F] at lt
      by_cases c2 : isFg (b s)
      · have c2' : 48 ≤ b s ∧ b s ≤ 57 := c2
        have ek : tK b n s = 1 := by unfold tK; rw [if_neg c, if_neg c1, if_pos c2]
        have ee : tE b n s = fnd b n (n - s).toNat s := by unfold tE; rw [if_neg c, if_neg c1, if_pos c2]
        rw [decide_eq_true (p := isFg (b s % 256)) (by unfold isFg; omega), bo_T] at lf
        obtain ⟨A', y1, y2, y3, y4, y5⟩ := m_nnum (E := E) (b := b) (n := n) d (by omega) n5 hb (n - s).toNat s 0 (uA (uA (uA A1 161 11 s) 161 12 1000) 161 13 0) (by omega) (by omega) (by omega) (by omega) (TPm_fr t2 (by rw [uA_k _ (by decide), uA_k _ (by decide)]) (by rw [uA_P (by decide), uA_P (by decide)])) (by rw [uA_k _ (by decide), uA_k _ (by decide), uA_k _ (by decide)]; exact x2) (uA_eq _ _ _)
        rw [← ee] at y2
        refine ⟨A', E, ?_, ⟨?_, y2, ?_, fun _ => y3, fun z => by omega⟩, ⟨fun j j0 j1 j2 j3 j4 => ?_, fun q hq => ?_⟩, E0_refl E⟩
        · rw [eL_Md_goes_50]
          simp (disch := omega) only [cond_true, cond_false, Bool.and_self, Bool.and_true, Bool.true_and, Bool.and_false, Bool.false_and, Bool.not_true, Bool.not_false, Bool.or_true, Bool.true_or, Bool.or_false, Bool.false_or, cond_dec, cI_ok, cR_ok, cV_ok, cJ_ok, bo_nr, bo_0, bo_i0, nr_0, nr_10, nr_11, nr_i0, nr_i1, bl_0, iI_add, iI_sub, iI_mul, iI_neg, qlt, qeq, qmax, qmin, qdiv, qrem, qn0, qin, I_0, w_0, I_1, w_1, I_2, w_2, I_3, w_3, I_4, w_4, I_5, w_5, I_6, w_6, I_7, w_7, I_8, w_8, I_9, w_9, I_10, w_10, I_11, w_11, I_12, w_12, I_13, w_13, I_14, w_14, I_15, w_15, I_16, w_16, I_17, w_17, I_18, w_18, I_19, w_19, I_20, w_20, I_21, w_21, I_22, w_22, I_23, w_23, I_24, w_24, I_25, w_25, I_26, w_26, I_27, w_27, I_28, w_28, I_29, w_29, I_30, w_30, I_31, w_31, I_32, w_32, I_33, w_33, I_34, w_34, I_35, w_35, I_36, w_36, I_37, w_37, I_38, w_38, I_39, w_39, I_40, w_40, I_41, w_41, I_at, w_at, th_MM, J_MM, wJ_MM, P_F, P_G, fA_in, fA_k, fA_p, fA_P, uA_P, cA_P, uA_eq, uA_k, uA_p, cA_in, cA_k, cA_p, cp_at, cp_le, qlt0, nr_ib, Nat.not_lt_zero, decide_false, ki_1, kp_1_0, kp_1_1, kp_1_2, kp_1_3, kp_1_4, kp_1_5, kp_1_6, kp_1_7, kp_1_8, kp_1_9, kp_1_10, ki_2, kp_2_0, kp_2_1, ki_17, kp_17_0, kp_17_1, ki_32, kp_32_0, kp_32_3, ki_33, kp_33_0, kp_33_1, ki_48, kz_48, ki_49, kp_49_0, ki_50, kz_50, krr_50, ki_67, kp_67_0, kp_67_1, kp_67_2, kp_67_3, kp_67_4, ki_68, kz_68, krr_68, ki_69, kz_69, krr_69, ki_70, kz_70, ki_71, kz_71, ki_144, kp_144_0, kp_144_1, kp_144_2, kp_144_3, kp_144_4, ki_145, kz_145, ki_146, kz_146, ki_147, kz_147, ki_148, kz_148, ki_149, kp_149_0, kp_149_1, kp_149_2, ki_150, kz_150, ki_151, kz_151, ki_152, kp_152_0, kp_152_1, kp_152_2, ki_153, kz_153, ki_154, kz_154, ki_155, kz_155, ki_156, kp_156_0, kp_156_1, kp_156_2, ki_157, kz_157, ki_158, kp_158_0, ki_159, kz_159, ki_160, kz_160, ki_161, kp_161_1, kp_161_2, kp_161_3, kp_161_4, kp_161_7, kp_161_21, kp_161_22, kp_161_23, kp_161_26, kp_161_27, kp_161_28, kp_161_29, kp_161_30, kp_161_32, kp_161_33, kp_161_37, kp_161_40, ki_162, kz_162, ki_163, kz_163, ki_164, kz_164, ki_165, kz_165, ki_166, kz_166, ki_167, kz_167, ki_168, kz_168, ki_169, kz_169, ki_170, kz_170, ki_171, kz_171, ki_172, kz_172, ki_173, kz_173, ki_174, kz_174, ki_175, kz_175, ki_176, kz_176, ki_177, kz_177, ki_178, kz_178, ki_179, kz_179, li_m1000000, li_m8, li_m5, li_m1, li_0, li_1, li_2, li_3, li_4, li_5, li_6, li_7, li_8, li_9, li_10, li_11, li_12, li_13, li_14, li_15, li_16, li_17, li_18, li_19, li_20, li_21, li_22, li_23, li_24, li_25, li_26, li_27, li_28, li_29, li_30, li_31, li_32, li_42, li_43, li_46, li_47, li_48, li_49, li_52, li_57, li_59, li_60, li_64, li_89, li_94, li_97, li_99, li_100, li_108, li_112, li_120, li_122, li_150, li_255, li_300, li_450, li_500, li_671, li_890, li_1000, li_1001, li_1002, li_1003, li_1424, li_12345, li_32767, li_500000, li_1000000, li_1103515245, Int.reduceEq, Int.reduceLT, Int.reduceLE, reduceIte, Int.reduceAdd, Int.reduceSub, Int.reduceMul, Nat.reduceAdd, Nat.reduceMul, x2, h9, by1, lt, lf, y1]
          rw [if_neg (by omega)]
        · rw [y4 11 (by decide) (by decide), uA_k _ (by decide), uA_k _ (by decide), uA_eq]
        · rw [y4 12 (by decide) (by decide), uA_k _ (by decide), uA_eq, ek]; rfl
        · rw [y4 j j0 j3, uA_k _ j3, uA_k _ j2, uA_k _ j1, x3 j j0]
        · rw [y5 q hq, uA_P hq, uA_P hq, uA_P hq, x4 q hq]
      · rw [decide_eq_false (p := isFg (b s % 256)) (fun z => c2 (by unfold isFg at z ⊢; omega)), bo_F] at lf
        have ee : tE b n s = s + 1 := by unfold tE; rw [if_neg c, if_neg c1, if_neg c2]
        have go : ∀ K Q : Int, tK b n s = K → K ≠ 0 → K ≠ 1 → tkc K = Q → L_Md_goes_50 d (MM A1 E) 161 = some (.inl none, MM (uA (uA (uA A1 161 11 s) 161 12 Q) 161 10 (s + 1)) E) → ∃ A' E', L_Md_goes_50 d (MM A1 E) 161 = some (.inl none, MM A' E') ∧ TKm A' E' b n s ∧ NFm A A' ∧ E0 E E' := by
          intro K Q ek k0 k1 hq hx
          refine ⟨_, E, hx, ⟨?_, ?_, ?_, fun z => by omega, fun z => by omega⟩, ⟨fun j j0 j1 j2 j3 j4 => ?_, fun q hq => ?_⟩, E0_refl E⟩
          · rw [uA_k _ (by decide), uA_k _ (by decide), uA_eq]
          · rw [uA_eq, ee]
          · rw [uA_k _ (by decide), uA_eq, ek, hq]
          · rw [uA_k _ j0, uA_k _ j2, uA_k _ j1, x3 j j0]
          · rw [uA_P hq, uA_P hq, uA_P hq, x4 q hq]
        by_cases c3 : b s = 59
        · refine go 2 59 (by unfold tK; rw [if_neg c, if_neg c1, if_neg c2, if_pos c3]) (by decide) (by decide) rfl ?_
          rw [eL_Md_goes_50]
          simp (disch := omega) only [cond_true, cond_false, Bool.and_self, Bool.and_true, Bool.true_and, Bool.and_false, Bool.false_and, Bool.not_true, Bool.not_false, Bool.or_true, Bool.true_or, Bool.or_false, Bool.false_or, cond_dec, cI_ok, cR_ok, cV_ok, cJ_ok, bo_nr, bo_0, bo_i0, nr_0, nr_10, nr_11, nr_i0, nr_i1, bl_0, iI_add, iI_sub, iI_mul, iI_neg, qlt, qeq, qmax, qmin, qdiv, qrem, qn0, qin, I_0, w_0, I_1, w_1, I_2, w_2, I_3, w_3, I_4, w_4, I_5, w_5, I_6, w_6, I_7, w_7, I_8, w_8, I_9, w_9, I_10, w_10, I_11, w_11, I_12, w_12, I_13, w_13, I_14, w_14, I_15, w_15, I_16, w_16, I_17, w_17, I_18, w_18, I_19, w_19, I_20, w_20, I_21, w_21, I_22, w_22, I_23, w_23, I_24, w_24, I_25, w_25, I_26, w_26, I_27, w_27, I_28, w_28, I_29, w_29, I_30, w_30, I_31, w_31, I_32, w_32, I_33, w_33, I_34, w_34, I_35, w_35, I_36, w_36, I_37, w_37, I_38, w_38, I_39, w_39, I_40, w_40, I_41, w_41, I_at, w_at, th_MM, J_MM, wJ_MM, P_F, P_G, fA_in, fA_k, fA_p, fA_P, uA_P, cA_P, uA_eq, uA_k, uA_p, cA_in, cA_k, cA_p, cp_at, cp_le, qlt0, nr_ib, Nat.not_lt_zero, decide_false, ki_1, kp_1_0, kp_1_1, kp_1_2, kp_1_3, kp_1_4, kp_1_5, kp_1_6, kp_1_7, kp_1_8, kp_1_9, kp_1_10, ki_2, kp_2_0, kp_2_1, ki_17, kp_17_0, kp_17_1, ki_32, kp_32_0, kp_32_3, ki_33, kp_33_0, kp_33_1, ki_48, kz_48, ki_49, kp_49_0, ki_50, kz_50, krr_50, ki_67, kp_67_0, kp_67_1, kp_67_2, kp_67_3, kp_67_4, ki_68, kz_68, krr_68, ki_69, kz_69, krr_69, ki_70, kz_70, ki_71, kz_71, ki_144, kp_144_0, kp_144_1, kp_144_2, kp_144_3, kp_144_4, ki_145, kz_145, ki_146, kz_146, ki_147, kz_147, ki_148, kz_148, ki_149, kp_149_0, kp_149_1, kp_149_2, ki_150, kz_150, ki_151, kz_151, ki_152, kp_152_0, kp_152_1, kp_152_2, ki_153, kz_153, ki_154, kz_154, ki_155, kz_155, ki_156, kp_156_0, kp_156_1, kp_156_2, ki_157, kz_157, ki_158, kp_158_0, ki_159, kz_159, ki_160, kz_160, ki_161, kp_161_1, kp_161_2, kp_161_3, kp_161_4, kp_161_7, kp_161_21, kp_161_22, kp_161_23, kp_161_26, kp_161_27, kp_161_28, kp_161_29, kp_161_30, kp_161_32, kp_161_33, kp_161_37, kp_161_40, ki_162, kz_162, ki_163, kz_163, ki_164, kz_164, ki_165, kz_165, ki_166, kz_166, ki_167, kz_167, ki_168, kz_168, ki_169, kz_169, ki_170, kz_170, ki_171, kz_171, ki_172, kz_172, ki_173, kz_173, ki_174, kz_174, ki_175, kz_175, ki_176, kz_176, ki_177, kz_177, ki_178, kz_178, ki_179, kz_179, li_m1000000, li_m8, li_m5, li_m1, li_0, li_1, li_2, li_3, li_4, li_5, li_6, li_7, li_8, li_9, li_10, li_11, li_12, li_13, li_14, li_15, li_16, li_17, li_18, li_19, li_20, li_21, li_22, li_23, li_24, li_25, li_26, li_27, li_28, li_29, li_30, li_31, li_32, li_42, li_43, li_46, li_47, li_48, li_49, li_52, li_57, li_59, li_60, li_64, li_89, li_94, li_97, li_99, li_100, li_108, li_112, li_120, li_122, li_150, li_255, li_300, li_450, li_500, li_671, li_890, li_1000, li_1001, li_1002, li_1003, li_1424, li_12345, li_32767, li_500000, li_1000000, li_1103515245, Int.reduceEq, Int.reduceLT, Int.reduceLE, reduceIte, Int.reduceAdd, Int.reduceSub, Int.reduceMul, Nat.reduceAdd, Nat.reduceMul, x2, h9, by1, lt, lf]
          rw [if_neg (by omega), if_pos (by omega)]
        · refine go 4 1002 (by unfold tK; rw [if_neg c, if_neg c1, if_neg c2, if_neg c3]) (by decide) (by decide) rfl ?_
          rw [eL_Md_goes_50]
          simp (disch := omega) only [cond_true, cond_false, Bool.and_self, Bool.and_true, Bool.true_and, Bool.and_false, Bool.false_and, Bool.not_true, Bool.not_false, Bool.or_true, Bool.true_or, Bool.or_false, Bool.false_or, cond_dec, cI_ok, cR_ok, cV_ok, cJ_ok, bo_nr, bo_0, bo_i0, nr_0, nr_10, nr_11, nr_i0, nr_i1, bl_0, iI_add, iI_sub, iI_mul, iI_neg, qlt, qeq, qmax, qmin, qdiv, qrem, qn0, qin, I_0, w_0, I_1, w_1, I_2, w_2, I_3, w_3, I_4, w_4, I_5, w_5, I_6, w_6, I_7, w_7, I_8, w_8, I_9, w_9, I_10, w_10, I_11, w_11, I_12, w_12, I_13, w_13, I_14, w_14, I_15, w_15, I_16, w_16, I_17, w_17, I_18, w_18, I_19, w_19, I_20, w_20, I_21, w_21, I_22, w_22, I_23, w_23, I_24, w_24, I_25, w_25, I_26, w_26, I_27, w_27, I_28, w_28, I_29, w_29, I_30, w_30, I_31, w_31, I_32, w_32, I_33, w_33, I_34, w_34, I_35, w_35, I_36, w_36, I_37, w_37, I_38, w_38, I_39, w_39, I_40, w_40, I_41, w_41, I_at, w_at, th_MM, J_MM, wJ_MM, P_F, P_G, fA_in, fA_k, fA_p, fA_P, uA_P, cA_P, uA_eq, uA_k, uA_p, cA_in, cA_k, cA_p, cp_at, cp_le, qlt0, nr_ib, Nat.not_lt_zero, decide_false, ki_1, kp_1_0, kp_1_1, kp_1_2, kp_1_3, kp_1_4, kp_1_5, kp_1_6, kp_1_7, kp_1_8, kp_1_9, kp_1_10, ki_2, kp_2_0, kp_2_1, ki_17, kp_17_0, kp_17_1, ki_32, kp_32_0, kp_32_3, ki_33, kp_33_0, kp_33_1, ki_48, kz_48, ki_49, kp_49_0, ki_50, kz_50, krr_50, ki_67, kp_67_0, kp_67_1, kp_67_2, kp_67_3, kp_67_4, ki_68, kz_68, krr_68, ki_69, kz_69, krr_69, ki_70, kz_70, ki_71, kz_71, ki_144, kp_144_0, kp_144_1, kp_144_2, kp_144_3, kp_144_4, ki_145, kz_145, ki_146, kz_146, ki_147, kz_147, ki_148, kz_148, ki_149, kp_149_0, kp_149_1, kp_149_2, ki_150, kz_150, ki_151, kz_151, ki_152, kp_152_0, kp_152_1, kp_152_2, ki_153, kz_153, ki_154, kz_154, ki_155, kz_155, ki_156, kp_156_0, kp_156_1, kp_156_2, ki_157, kz_157, ki_158, kp_158_0, ki_159, kz_159, ki_160, kz_160, ki_161, kp_161_1, kp_161_2, kp_161_3, kp_161_4, kp_161_7, kp_161_21, kp_161_22, kp_161_23, kp_161_26, kp_161_27, kp_161_28, kp_161_29, kp_161_30, kp_161_32, kp_161_33, kp_161_37, kp_161_40, ki_162, kz_162, ki_163, kz_163, ki_164, kz_164, ki_165, kz_165, ki_166, kz_166, ki_167, kz_167, ki_168, kz_168, ki_169, kz_169, ki_170, kz_170, ki_171, kz_171, ki_172, kz_172, ki_173, kz_173, ki_174, kz_174, ki_175, kz_175, ki_176, kz_176, ki_177, kz_177, ki_178, kz_178, ki_179, kz_179, li_m1000000, li_m8, li_m5, li_m1, li_0, li_1, li_2, li_3, li_4, li_5, li_6, li_7, li_8, li_9, li_10, li_11, li_12, li_13, li_14, li_15, li_16, li_17, li_18, li_19, li_20, li_21, li_22, li_23, li_24, li_25, li_26, li_27, li_28, li_29, li_30, li_31, li_32, li_42, li_43, li_46, li_47, li_48, li_49, li_52, li_57, li_59, li_60, li_64, li_89, li_94, li_97, li_99, li_100, li_108, li_112, li_120, li_122, li_150, li_255, li_300, li_450, li_500, li_671, li_890, li_1000, li_1001, li_1002, li_1003, li_1424, li_12345, li_32767, li_500000, li_1000000, li_1103515245, Int.reduceEq, Int.reduceLT, Int.reduceLE, reduceIte, Int.reduceAdd, Int.reduceSub, Int.reduceMul, Nat.reduceAdd, Nat.reduceMul, x2, h9, by1, lt, lf]
          rw [if_neg (by omega), if_neg (by omega)]
/-- words as numbers -/
def encL (a : Int) : List Int → Int
  | [] => a
  | v :: r => encL (a * 32 + v - 97 + 1) r
theorem encL_rg : ∀ (l : List Int) (a : Int), (∀ v ∈ l, 97 ≤ v ∧ v ≤ 122) → 0 ≤ a → 0 ≤ encL a l
  | [], a, _, h => h
  | v :: r, a, h, h0 => by
    have := h v (List.mem_cons_self ..)
    exact encL_rg r _ (fun x hx => h x (List.mem_cons_of_mem _ hx)) (by omega)
theorem encL_inj : ∀ (l l' : List Int) (a a' : Int), l.length = l'.length → (∀ v ∈ l, 97 ≤ v ∧ v ≤ 122) → (∀ v ∈ l', 97 ≤ v ∧ v ≤ 122) → encL a l = encL a' l' → a = a' ∧ l = l'
  | [], [], a, a', _, _, _, h => ⟨h, rfl⟩
  | [], _ :: _, _, _, h, _, _, _ => by simp at h
  | _ :: _, [], _, _, h, _, _, _ => by simp at h
  | v :: r, v' :: r', a, a', hl, h, h', e => by
    have hv := h v (List.mem_cons_self ..)
    have hv' := h' v' (List.mem_cons_self ..)
    obtain ⟨e1, e2⟩ := encL_inj r r' _ _ (by simpa using hl) (fun x hx => h x (List.mem_cons_of_mem _ hx)) (fun x hx => h' x (List.mem_cons_of_mem _ hx)) e
    subst e2
    have : v = v' := by omega
    subst this
    exact ⟨by omega, rfl⟩
theorem wvv_enc : ∀ (k c : Nat), encL (wvv b s c) (bln b (s + (c : Int)) k) = wvv b s (c + k)
  | 0, c => rfl
  | k + 1, c => by
    have := wvv_enc k (c + 1)
    rw [show ((c + 1 : Nat) : Int) = (c : Int) + 1 by omega, ← Int.add_assoc] at this
    show encL (wvv b s c * 32 + b (s + (c : Int)) - 97 + 1) (bln b (s + (c : Int) + 1) k) = _
    rw [show c + (k + 1) = c + 1 + k by omega, ← this]
    rfl
theorem bln_len : ∀ (k : Nat) (s : Int), (bln b s k).length = k
  | 0, _ => rfl
  | k + 1, s => by
    show (bln b (s + 1) k).length + 1 = k + 1
    rw [bln_len k (s + 1)]
theorem bln_mem : ∀ (k : Nat) (s : Int) (v : Int), v ∈ bln b s k → ∃ i, s ≤ i ∧ i < s + (k : Int) ∧ v = b i
  | 0, _, _, h => by cases h
  | k + 1, s, v, h => by
    rcases List.mem_cons.mp h with h | h
    · exact ⟨s, by omega, by omega, h⟩
    · obtain ⟨i, a, c, e⟩ := bln_mem k (s + 1) v h
      exact ⟨i, by omega, by omega, e⟩
end MGo
