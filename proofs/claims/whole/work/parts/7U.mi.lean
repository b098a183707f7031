/-! ===== words: the model ===== -/
section MIw
variable {A : Am} {E : En} {b : Int → Int} {n s p : Int}
theorem encL_ub : ∀ (l : List Int) (a : Int), (∀ v ∈ l, 97 ≤ v ∧ v ≤ 122) → 0 ≤ a → encL a l < (a + 1) * 32 ^ l.length
  | [], a, _, h => by
    show a < (a + 1) * 1
    omega
  | v :: r, a, h, h0 => by
    have hv := h v (List.mem_cons_self ..)
    have ih := encL_ub r (a * 32 + v - 97 + 1) (fun x hx => h x (List.mem_cons_of_mem _ hx)) (by omega)
    show encL (a * 32 + v - 97 + 1) r < (a + 1) * 32 ^ (r.length + 1)
    have p0 : (0 : Int) ≤ 32 ^ r.length := Int.le_of_lt (Int.pow_pos (by decide))
    have m := Int.mul_le_mul_of_nonneg_right (show a * 32 + v - 97 + 1 + 1 ≤ (a + 1) * 32 by omega) p0
    rw [Int.pow_succ, Int.mul_comm (32 ^ r.length) 32, ← Int.mul_assoc]
    exact Int.lt_of_lt_of_le ih m
theorem iJ_inj {x y : Int} (x0 : 0 ≤ x) (x1 : x < 2147483648) (y0 : 0 ≤ y) (y1 : y < 2147483648) : (iJ x = iJ y) ↔ x = y := by
  refine ⟨fun h => ?_, fun h => by rw [h]⟩
  have := congrArg Int64.toInt h
  rwa [iJ_toInt ⟨by omega, x1⟩, iJ_toInt ⟨by omega, y1⟩] at this
theorem encL_5 {l : List Int} (h : ∀ v ∈ l, 97 ≤ v ∧ v ≤ 122) (hl : 4 ≤ l.length ∧ l.length ≤ 5) : 0 ≤ encL 0 l ∧ encL 0 l < 2147483648 := by
  refine ⟨encL_rg l 0 h (by decide), ?_⟩
  have := encL_ub l 0 h (by decide)
  have hc : l.length = 4 ∨ l.length = 5 := by omega
  rcases hc with e | e
  · rw [e] at this
    have z : ((0 : Int) + 1) * 32 ^ 4 = 1048576 := by decide
    omega
  · rw [e] at this
    have z : ((0 : Int) + 1) * 32 ^ 5 = 33554432 := by decide
    omega
theorem m_spelledL (d : Nat) (hd : 6 < d) {q : UInt32} {ws : List Int} (hw : HW E q ws) : ∀ (r : List Int) (i : Nat) (a : Int), ws.drop i = r → i + r.length = ws.length → L_Md_spelled_4 d (MM A E) q (iJ a) (iI (i : Int)) = some (.inl (some (.long (iJ (encL a r)))), MM A E) := by
  obtain ⟨w1, w2, w3, w4, w5⟩ := hw
  intro r
  induction r with
  | nil =>
    intro i a hr hl
    have hl' : i = ws.length := by simpa using hl
    subst hl'
    rw [eL_Md_spelled_4]
    simp (disch := omega) only [cond_true, cond_false, Bool.and_self, Bool.and_true, Bool.true_and, Bool.and_false, Bool.false_and, Bool.not_true, Bool.not_false, Bool.or_true, Bool.true_or, Bool.or_false, Bool.false_or, cond_dec, cI_ok, cR_ok, cV_ok, cJ_ok, bo_nr, bo_0, bo_i0, nr_0, nr_10, nr_11, nr_i0, nr_i1, bl_0, iI_add, iI_sub, iI_mul, iI_neg, qlt, qeq, qmax, qmin, qdiv, qrem, qn0, qin, I_0, w_0, I_1, w_1, I_2, w_2, I_3, w_3, I_4, w_4, I_5, w_5, I_6, w_6, I_7, w_7, I_8, w_8, I_9, w_9, I_10, w_10, I_11, w_11, I_12, w_12, I_13, w_13, I_14, w_14, I_15, w_15, I_16, w_16, I_17, w_17, I_18, w_18, I_19, w_19, I_20, w_20, I_21, w_21, I_22, w_22, I_23, w_23, I_24, w_24, I_25, w_25, I_26, w_26, I_27, w_27, I_28, w_28, I_29, w_29, I_30, w_30, I_31, w_31, I_32, w_32, I_33, w_33, I_34, w_34, I_35, w_35, I_36, w_36, I_37, w_37, I_38, w_38, I_39, w_39, I_40, w_40, I_41, w_41, I_at, w_at, th_MM, J_MM, wJ_MM, P_F, P_G, fA_in, fA_k, fA_p, fA_P, uA_P, cA_P, uA_eq, uA_k, uA_p, cA_in, cA_k, cA_p, cp_at, cp_le, qlt0, nr_ib, Nat.not_lt_zero, decide_false, ki_1, kp_1_0, kp_1_1, kp_1_2, kp_1_3, kp_1_4, kp_1_5, kp_1_6, kp_1_7, kp_1_8, kp_1_9, kp_1_10, ki_2, kp_2_0, kp_2_1, ki_17, kp_17_0, kp_17_1, ki_32, kp_32_0, kp_32_3, ki_33, kp_33_0, kp_33_1, ki_48, kz_48, ki_49, kp_49_0, ki_50, kz_50, krr_50, ki_67, kp_67_0, kp_67_1, kp_67_2, kp_67_3, kp_67_4, ki_68, kz_68, krr_68, ki_69, kz_69, krr_69, ki_70, kz_70, ki_71, kz_71, ki_144, kp_144_0, kp_144_1, kp_144_2, kp_144_3, kp_144_4, ki_145, kz_145, ki_146, kz_146, ki_147, kz_147, ki_148, kz_148, ki_149, kp_149_0, kp_149_1, kp_149_2, ki_150, kz_150, ki_151, kz_151, ki_152, kp_152_0, kp_152_1, kp_152_2, ki_153, kz_153, ki_154, kz_154, ki_155, kz_155, ki_156, kp_156_0, kp_156_1, kp_156_2, ki_157, kz_157, ki_158, kp_158_0, ki_159, kz_159, ki_160, kz_160, ki_161, kp_161_1, kp_161_2, kp_161_3, kp_161_4, kp_161_7, kp_161_21, kp_161_22, kp_161_23, kp_161_26, kp_161_27, kp_161_28, kp_161_29, kp_161_30, kp_161_32, kp_161_33, kp_161_37, kp_161_40, ki_162, kz_162, ki_163, kz_163, ki_164, kz_164, ki_165, kz_165, ki_166, kz_166, ki_167, kz_167, ki_168, kz_168, ki_169, kz_169, ki_170, kz_170, ki_171, kz_171, ki_172, kz_172, ki_173, kz_173, ki_174, kz_174, ki_175, kz_175, ki_176, kz_176, ki_177, kz_177, ki_178, kz_178, ki_179, kz_179, li_m1000000, li_m8, li_m5, li_m1, li_0, li_1, li_2, li_3, li_4, li_5, li_6, li_7, li_8, li_9, li_10, li_11, li_12, li_13, li_14, li_15, li_16, li_17, li_18, li_19, li_20, li_21, li_22, li_23, li_24, li_25, li_26, li_27, li_28, li_29, li_30, li_31, li_32, li_42, li_43, li_46, li_47, li_48, li_49, li_52, li_57, li_59, li_60, li_64, li_89, li_94, li_97, li_99, li_100, li_108, li_112, li_120, li_122, li_150, li_255, li_300, li_450, li_500, li_671, li_890, li_1000, li_1001, li_1002, li_1003, li_1424, li_12345, li_32767, li_500000, li_1000000, li_1103515245, Int.reduceEq, Int.reduceLT, Int.reduceLE, reduceIte, Int.reduceAdd, Int.reduceSub, Int.reduceMul, Nat.reduceAdd, Nat.reduceMul, w1, w4, Int.lt_irrefl]
    rfl
  | cons v r ih =>
    intro i a hr hl
    have hl' : i + r.length + 1 = ws.length := by simpa [Nat.add_assoc] using hl
    obtain ⟨g1, g2⟩ := getE_drop hr
    have nx := ih (i + 1) (a * 32 + v - 97 + 1) g2 (by omega)
    rw [show ((i + 1 : Nat) : Int) = (i : Int) + 1 by omega] at nx
    have ch := w5 (d - 1) A i v (by omega) g1
    have vr := w3 v (List.mem_of_getElem? g1)
    rw [eL_Md_spelled_4]
    simp (disch := omega) only [cond_true, cond_false, Bool.and_self, Bool.and_true, Bool.true_and, Bool.and_false, Bool.false_and, Bool.not_true, Bool.not_false, Bool.or_true, Bool.true_or, Bool.or_false, Bool.false_or, cond_dec, cI_ok, cR_ok, cV_ok, cJ_ok, bo_nr, bo_0, bo_i0, nr_0, nr_10, nr_11, nr_i0, nr_i1, bl_0, iI_add, iI_sub, iI_mul, iI_neg, qlt, qeq, qmax, qmin, qdiv, qrem, qn0, qin, I_0, w_0, I_1, w_1, I_2, w_2, I_3, w_3, I_4, w_4, I_5, w_5, I_6, w_6, I_7, w_7, I_8, w_8, I_9, w_9, I_10, w_10, I_11, w_11, I_12, w_12, I_13, w_13, I_14, w_14, I_15, w_15, I_16, w_16, I_17, w_17, I_18, w_18, I_19, w_19, I_20, w_20, I_21, w_21, I_22, w_22, I_23, w_23, I_24, w_24, I_25, w_25, I_26, w_26, I_27, w_27, I_28, w_28, I_29, w_29, I_30, w_30, I_31, w_31, I_32, w_32, I_33, w_33, I_34, w_34, I_35, w_35, I_36, w_36, I_37, w_37, I_38, w_38, I_39, w_39, I_40, w_40, I_41, w_41, I_at, w_at, th_MM, J_MM, wJ_MM, P_F, P_G, fA_in, fA_k, fA_p, fA_P, uA_P, cA_P, uA_eq, uA_k, uA_p, cA_in, cA_k, cA_p, cp_at, cp_le, qlt0, nr_ib, Nat.not_lt_zero, decide_false, ki_1, kp_1_0, kp_1_1, kp_1_2, kp_1_3, kp_1_4, kp_1_5, kp_1_6, kp_1_7, kp_1_8, kp_1_9, kp_1_10, ki_2, kp_2_0, kp_2_1, ki_17, kp_17_0, kp_17_1, ki_32, kp_32_0, kp_32_3, ki_33, kp_33_0, kp_33_1, ki_48, kz_48, ki_49, kp_49_0, ki_50, kz_50, krr_50, ki_67, kp_67_0, kp_67_1, kp_67_2, kp_67_3, kp_67_4, ki_68, kz_68, krr_68, ki_69, kz_69, krr_69, ki_70, kz_70, ki_71, kz_71, ki_144, kp_144_0, kp_144_1, kp_144_2, kp_144_3, kp_144_4, ki_145, kz_145, ki_146, kz_146, ki_147, kz_147, ki_148, kz_148, ki_149, kp_149_0, kp_149_1, kp_149_2, ki_150, kz_150, ki_151, kz_151, ki_152, kp_152_0, kp_152_1, kp_152_2, ki_153, kz_153, ki_154, kz_154, ki_155, kz_155, ki_156, kp_156_0, kp_156_1, kp_156_2, ki_157, kz_157, ki_158, kp_158_0, ki_159, kz_159, ki_160, kz_160, ki_161, kp_161_1, kp_161_2, kp_161_3, kp_161_4, kp_161_7, kp_161_21, kp_161_22, kp_161_23, kp_161_26, kp_161_27, kp_161_28, kp_161_29, kp_161_30, kp_161_32, kp_161_33, kp_161_37, kp_161_40, ki_162, kz_162, ki_163, kz_163, ki_164, kz_164, ki_165, kz_165, ki_166, kz_166, ki_167, kz_167, ki_168, kz_168, ki_169, kz_169, ki_170, kz_170, ki_171, kz_171, ki_172, kz_172, ki_173, kz_173, ki_174, kz_174, ki_175, kz_175, ki_176, kz_176, ki_177, kz_177, ki_178, kz_178, ki_179, kz_179, li_m1000000, li_m8, li_m5, li_m1, li_0, li_1, li_2, li_3, li_4, li_5, li_6, li_7, li_8, li_9, li_10, li_11, li_12, li_13, li_14, li_15, li_16, li_17, li_18, li_19, li_20, li_21, li_22, li_23, li_24, li_25, li_26, li_27, li_28, li_29, li_30, li_31, li_32, li_42, li_43, li_46, li_47, li_48, li_49, li_52, li_57, li_59, li_60, li_64, li_89, li_94, li_97, li_99, li_100, li_108, li_112, li_120, li_122, li_150, li_255, li_300, li_450, li_500, li_671, li_890, li_1000, li_1001, li_1002, li_1003, li_1424, li_12345, li_32767, li_500000, li_1000000, li_1103515245, Int.reduceEq, Int.reduceLT, Int.reduceLE, reduceIte, Int.reduceAdd, Int.reduceSub, Int.reduceMul, Nat.reduceAdd, Nat.reduceMul, w1, w4, ch, lj_32, lj_97, lj_1, iI_J, iJ_mul, iJ_add, iJ_sub, nx]
    rw [if_pos (by omega)]
    rfl
theorem m_isWord (d : Nat) (hd : 8 < d) {q : UInt32} {ws : List Int} (hw : HW E q ws) (hk : TKm A E b n s) (s1 : s ≤ n) (n5 : n ≤ 500) (s0 : 0 ≤ s) : D_Md_isWord d (MM A E) 161 q = some (.inl (some (.int (bo (decide (isW b n s ws))))), MM A E) := by
  have kr := tK_rg (b := b) (n := n) (s := s)
  have er := tE_rg (b := b) s1
  have sp := m_spelledL (A := A) (E := E) (d - 1) (by omega) hw ws 0 0 rfl (by omega)
  obtain ⟨w1, w2, w3, w4, w5⟩ := hw
  obtain ⟨k1, k2, k3, k4, k5⟩ := hk
  have sp' : D_Md_spelled (d - 1) (MM A E) q = some (.inl (some (.long (iJ (encL 0 ws)))), MM A E) := by
    rw [eD_Md_spelled]
    exact sp
  rw [eD_Md_isWord]
  by_cases c : tK b n s = 0
  · obtain ⟨j1, j2⟩ := k5 c
    have t1 : tkc (tK b n s) = 1001 := by rw [c]; rfl
    rw [t1] at k3
    by_cases c2 : tE b n s - s = (ws.length : Int)
    · have lb : ∀ v ∈ bln b s ws.length, 97 ≤ v ∧ v ≤ 122 := by
        intro v hv
        obtain ⟨i, i0, i1, ei⟩ := bln_mem _ _ _ hv
        have nk : ¬ n ≤ s := fun z => by have : tK b n s = 3 := tK_3.mpr z; omega
        have c1 : isLt (b s) := by
          by_cases z : isLt (b s)
          · exact z
          · exfalso
            unfold tK at c
            rw [if_neg nk, if_neg z] at c
            split at c
            · omega
            · split at c <;> omega
        have ee : tE b n s = wnd b n (n - s).toNat s := by unfold tE; rw [if_neg nk, if_pos c1]
        rw [ei]
        exact (wnd_rg (b := b) (n := n) (n - s).toNat s (by omega)).2.2 i i0 (by omega)
      have ev : wvv b s (min 8 (tE b n s - s).toNat) = encL 0 (bln b s ws.length) := by
        rw [show min 8 (tE b n s - s).toNat = 0 + ws.length by omega, ← wvv_enc ws.length 0]
        show encL 0 (bln b (s + 0) ws.length) = _
        rw [Int.add_zero]
      rw [ev] at j2
      have r1 := encL_5 lb (by rw [bln_len]; exact w2)
      have r2 := encL_5 w3 w2
      have hd2 : decide (iJ (encL 0 (bln b s ws.length)) = iJ (encL 0 ws)) = decide (isW b n s ws) := decide_eq_decide.mpr ⟨fun z => ⟨c, c2, (encL_inj _ _ 0 0 (bln_len _ _) lb w3 ((iJ_inj r1.1 r1.2 r2.1 r2.2).mp z)).2⟩, fun z => by rw [z.2.2]⟩
      rw [← hd2]
      have le := lc_eq (iJ (encL 0 (bln b s ws.length))) (iJ (encL 0 ws))
      rw [li_0] at le
      simp (disch := omega) only [cond_true, cond_false, Bool.and_self, Bool.and_true, Bool.true_and, Bool.and_false, Bool.false_and, Bool.not_true, Bool.not_false, Bool.or_true, Bool.true_or, Bool.or_false, Bool.false_or, cond_dec, cI_ok, cR_ok, cV_ok, cJ_ok, bo_nr, bo_0, bo_i0, nr_0, nr_10, nr_11, nr_i0, nr_i1, bl_0, iI_add, iI_sub, iI_mul, iI_neg, qlt, qeq, qmax, qmin, qdiv, qrem, qn0, qin, I_0, w_0, I_1, w_1, I_2, w_2, I_3, w_3, I_4, w_4, I_5, w_5, I_6, w_6, I_7, w_7, I_8, w_8, I_9, w_9, I_10, w_10, I_11, w_11, I_12, w_12, I_13, w_13, I_14, w_14, I_15, w_15, I_16, w_16, I_17, w_17, I_18, w_18, I_19, w_19, I_20, w_20, I_21, w_21, I_22, w_22, I_23, w_23, I_24, w_24, I_25, w_25, I_26, w_26, I_27, w_27, I_28, w_28, I_29, w_29, I_30, w_30, I_31, w_31, I_32, w_32, I_33, w_33, I_34, w_34, I_35, w_35, I_36, w_36, I_37, w_37, I_38, w_38, I_39, w_39, I_40, w_40, I_41, w_41, I_at, w_at, th_MM, J_MM, wJ_MM, P_F, P_G, fA_in, fA_k, fA_p, fA_P, uA_P, cA_P, uA_eq, uA_k, uA_p, cA_in, cA_k, cA_p, cp_at, cp_le, qlt0, nr_ib, Nat.not_lt_zero, decide_false, ki_1, kp_1_0, kp_1_1, kp_1_2, kp_1_3, kp_1_4, kp_1_5, kp_1_6, kp_1_7, kp_1_8, kp_1_9, kp_1_10, ki_2, kp_2_0, kp_2_1, ki_17, kp_17_0, kp_17_1, ki_32, kp_32_0, kp_32_3, ki_33, kp_33_0, kp_33_1, ki_48, kz_48, ki_49, kp_49_0, ki_50, kz_50, krr_50, ki_67, kp_67_0, kp_67_1, kp_67_2, kp_67_3, kp_67_4, ki_68, kz_68, krr_68, ki_69, kz_69, krr_69, ki_70, kz_70, ki_71, kz_71, ki_144, kp_144_0, kp_144_1, kp_144_2, kp_144_3, kp_144_4, ki_145, kz_145, ki_146, kz_146, ki_147, kz_147, ki_148, kz_148, ki_149, kp_149_0, kp_149_1, kp_149_2, ki_150, kz_150, ki_151, kz_151, ki_152, kp_152_0, kp_152_1, kp_152_2, ki_153, kz_153, ki_154, kz_154, ki_155, kz_155, ki_156, kp_156_0, kp_156_1, kp_156_2, ki_157, kz_157, ki_158, kp_158_0, ki_159, kz_159, ki_160, kz_160, ki_161, kp_161_1, kp_161_2, kp_161_3, kp_161_4, kp_161_7, kp_161_21, kp_161_22, kp_161_23, kp_161_26, kp_161_27, kp_161_28, kp_161_29, kp_161_30, kp_161_32, kp_161_33, kp_161_37, kp_161_40, ki_162, kz_162, ki_163, kz_163, ki_164, kz_164, ki_165, kz_165, ki_166, kz_166, ki_167, kz_167, ki_168, kz_168, ki_169, kz_169, ki_170, kz_170, ki_171, kz_171, ki_172, kz_172, ki_173, kz_173, ki_174, kz_174, ki_175, kz_175, ki_176, kz_176, ki_177, kz_177, ki_178, kz_178, ki_179, kz_179, li_m1000000, li_m8, li_m5, li_m1, li_0, li_1, li_2, li_3, li_4, li_5, li_6, li_7, li_8, li_9, li_10, li_11, li_12, li_13, li_14, li_15, li_16, li_17, li_18, li_19, li_20, li_21, li_22, li_23, li_24, li_25, li_26, li_27, li_28, li_29, li_30, li_31, li_32, li_42, li_43, li_46, li_47, li_48, li_49, li_52, li_57, li_59, li_60, li_64, li_89, li_94, li_97, li_99, li_100, li_108, li_112, li_120, li_122, li_150, li_255, li_300, li_450, li_500, li_671, li_890, li_1000, li_1001, li_1002, li_1003, li_1424, li_12345, li_32767, li_500000, li_1000000, li_1103515245, Int.reduceEq, Int.reduceLT, Int.reduceLE, reduceIte, Int.reduceAdd, Int.reduceSub, Int.reduceMul, Nat.reduceAdd, Nat.reduceMul, k3, j1, w1, w4, J_MM, j2, sp', le]
      rw [if_pos c2]
      by_cases z : iJ (encL 0 (bln b s ws.length)) = iJ (encL 0 ws)
      · rw [if_pos z, decide_eq_true z, bo_T]
      · rw [if_neg z, decide_eq_false z, bo_F]
    · rw [decide_eq_false (p := isW b n s ws) (fun z => c2 z.2.1), bo_F]
      simp (disch := omega) only [cond_true, cond_false, Bool.and_self, Bool.and_true, Bool.true_and, Bool.and_false, Bool.false_and, Bool.not_true, Bool.not_false, Bool.or_true, Bool.true_or, Bool.or_false, Bool.false_or, cond_dec, cI_ok, cR_ok, cV_ok, cJ_ok, bo_nr, bo_0, bo_i0, nr_0, nr_10, nr_11, nr_i0, nr_i1, bl_0, iI_add, iI_sub, iI_mul, iI_neg, qlt, qeq, qmax, qmin, qdiv, qrem, qn0, qin, I_0, w_0, I_1, w_1, I_2, w_2, I_3, w_3, I_4, w_4, I_5, w_5, I_6, w_6, I_7, w_7, I_8, w_8, I_9, w_9, I_10, w_10, I_11, w_11, I_12, w_12, I_13, w_13, I_14, w_14, I_15, w_15, I_16, w_16, I_17, w_17, I_18, w_18, I_19, w_19, I_20, w_20, I_21, w_21, I_22, w_22, I_23, w_23, I_24, w_24, I_25, w_25, I_26, w_26, I_27, w_27, I_28, w_28, I_29, w_29, I_30, w_30, I_31, w_31, I_32, w_32, I_33, w_33, I_34, w_34, I_35, w_35, I_36, w_36, I_37, w_37, I_38, w_38, I_39, w_39, I_40, w_40, I_41, w_41, I_at, w_at, th_MM, J_MM, wJ_MM, P_F, P_G, fA_in, fA_k, fA_p, fA_P, uA_P, cA_P, uA_eq, uA_k, uA_p, cA_in, cA_k, cA_p, cp_at, cp_le, qlt0, nr_ib, Nat.not_lt_zero, decide_false, ki_1, kp_1_0, kp_1_1, kp_1_2, kp_1_3, kp_1_4, kp_1_5, kp_1_6, kp_1_7, kp_1_8, kp_1_9, kp_1_10, ki_2, kp_2_0, kp_2_1, ki_17, kp_17_0, kp_17_1, ki_32, kp_32_0, kp_32_3, ki_33, kp_33_0, kp_33_1, ki_48, kz_48, ki_49, kp_49_0, ki_50, kz_50, krr_50, ki_67, kp_67_0, kp_67_1, kp_67_2, kp_67_3, kp_67_4, ki_68, kz_68, krr_68, ki_69, kz_69, krr_69, ki_70, kz_70, ki_71, kz_71, ki_144, kp_144_0, kp_144_1, kp_144_2, kp_144_3, kp_144_4, ki_145, kz_145, ki_146, kz_146, ki_147, kz_147, ki_148, kz_148, ki_149, kp_149_0, kp_149_1, kp_149_2, ki_150, kz_150, ki_151, kz_151, ki_152, kp_152_0, kp_152_1, kp_152_2, ki_153, kz_153, ki_154, kz_154, ki_155, kz_155, ki_156, kp_156_0, kp_156_1, kp_156_2, ki_157, kz_157, ki_158, kp_158_0, ki_159, kz_159, ki_160, kz_160, ki_161, kp_161_1, kp_161_2, kp_161_3, kp_161_4, kp_161_7, kp_161_21, kp_161_22, kp_161_23, kp_161_26, kp_161_27, kp_161_28, kp_161_29, kp_161_30, kp_161_32, kp_161_33, kp_161_37, kp_161_40, ki_162, kz_162, ki_163, kz_163, ki_164, kz_164, ki_165, kz_165, ki_166, kz_166, ki_167, kz_167, ki_168, kz_168, ki_169, kz_169, ki_170, kz_170, ki_171, kz_171, ki_172, kz_172, ki_173, kz_173, ki_174, kz_174, ki_175, kz_175, ki_176, kz_176, ki_177, kz_177, ki_178, kz_178, ki_179, kz_179, li_m1000000, li_m8, li_m5, li_m1, li_0, li_1, li_2, li_3, li_4, li_5, li_6, li_7, li_8, li_9, li_10, li_11, li_12, li_13, li_14, li_15, li_16, li_17, li_18, li_19, li_20, li_21, li_22, li_23, li_24, li_25, li_26, li_27, li_28, li_29, li_30, li_31, li_32, li_42, li_43, li_46, li_47, li_48, li_49, li_52, li_57, li_59, li_60, li_64, li_89, li_94, li_97, li_99, li_100, li_108, li_112, li_120, li_122, li_150, li_255, li_300, li_450, li_500, li_671, li_890, li_1000, li_1001, li_1002, li_1003, li_1424, li_12345, li_32767, li_500000, li_1000000, li_1103515245, Int.reduceEq, Int.reduceLT, Int.reduceLE, reduceIte, Int.reduceAdd, Int.reduceSub, Int.reduceMul, Nat.reduceAdd, Nat.reduceMul, k3, j1, w1, w4]
      rw [if_neg c2]
  · rw [decide_eq_false (p := isW b n s ws) (fun z => c z.1), bo_F]
    have t1 : tkc (tK b n s) ≠ 1001 ∧ 0 ≤ tkc (tK b n s) ∧ tkc (tK b n s) ≤ 2000 := by
      unfold tkc
      rw [if_neg c]
      split
      · omega
      · split
        · omega
        · split <;> omega
    simp (disch := omega) only [cond_true, cond_false, Bool.and_self, Bool.and_true, Bool.true_and, Bool.and_false, Bool.false_and, Bool.not_true, Bool.not_false, Bool.or_true, Bool.true_or, Bool.or_false, Bool.false_or, cond_dec, cI_ok, cR_ok, cV_ok, cJ_ok, bo_nr, bo_0, bo_i0, nr_0, nr_10, nr_11, nr_i0, nr_i1, bl_0, iI_add, iI_sub, iI_mul, iI_neg, qlt, qeq, qmax, qmin, qdiv, qrem, qn0, qin, I_0, w_0, I_1, w_1, I_2, w_2, I_3, w_3, I_4, w_4, I_5, w_5, I_6, w_6, I_7, w_7, I_8, w_8, I_9, w_9, I_10, w_10, I_11, w_11, I_12, w_12, I_13, w_13, I_14, w_14, I_15, w_15, I_16, w_16, I_17, w_17, I_18, w_18, I_19, w_19, I_20, w_20, I_21, w_21, I_22, w_22, I_23, w_23, I_24, w_24, I_25, w_25, I_26, w_26, I_27, w_27, I_28, w_28, I_29, w_29, I_30, w_30, I_31, w_31, I_32, w_32, I_33, w_33, I_34, w_34, I_35, w_35, I_36, w_36, I_37, w_37, I_38, w_38, I_39, w_39, I_40, w_40, I_41, w_41, I_at, w_at, th_MM, J_MM, wJ_MM, P_F, P_G, fA_in, fA_k, fA_p, fA_P, uA_P, cA_P, uA_eq, uA_k, uA_p, cA_in, cA_k, cA_p, cp_at, cp_le, qlt0, nr_ib, Nat.not_lt_zero, decide_false, ki_1, kp_1_0, kp_1_1, kp_1_2, kp_1_3, kp_1_4, kp_1_5, kp_1_6, kp_1_7, kp_1_8, kp_1_9, kp_1_10, ki_2, kp_2_0, kp_2_1, ki_17, kp_17_0, kp_17_1, ki_32, kp_32_0, kp_32_3, ki_33, kp_33_0, kp_33_1, ki_48, kz_48, ki_49, kp_49_0, ki_50, kz_50, krr_50, ki_67, kp_67_0, kp_67_1, kp_67_2, kp_67_3, kp_67_4, ki_68, kz_68, krr_68, ki_69, kz_69, krr_69, ki_70, kz_70, ki_71, kz_71, ki_144, kp_144_0, kp_144_1, kp_144_2, kp_144_3, kp_144_4, ki_145, kz_145, ki_146, kz_146, ki_147, kz_147, ki_148, kz_148, ki_149, kp_149_0, kp_149_1, kp_149_2, ki_150, kz_150, ki_151, kz_151, ki_152, kp_152_0, kp_152_1, kp_152_2, ki_153, kz_153, ki_154, kz_154, ki_155, kz_155, ki_156, kp_156_0, kp_156_1, kp_156_2, ki_157, kz_157, ki_158, kp_158_0, ki_159, kz_159, ki_160, kz_160, ki_161, kp_161_1, kp_161_2, kp_161_3, kp_161_4, kp_161_7, kp_161_21, kp_161_22, kp_161_23, kp_161_26, kp_161_27, kp_161_28, kp_161_29, kp_161_30, kp_161_32, kp_161_33, kp_161_37, kp_161_40, ki_162, kz_162, ki_163, kz_163, ki_164, kz_164, ki_165, kz_165, ki_166, kz_166, ki_167, kz_167, ki_168, kz_168, ki_169, kz_169, ki_170, kz_170, ki_171, kz_171, ki_172, kz_172, ki_173, kz_173, ki_174, kz_174, ki_175, kz_175, ki_176, kz_176, ki_177, kz_177, ki_178, kz_178, ki_179, kz_179, li_m1000000, li_m8, li_m5, li_m1, li_0, li_1, li_2, li_3, li_4, li_5, li_6, li_7, li_8, li_9, li_10, li_11, li_12, li_13, li_14, li_15, li_16, li_17, li_18, li_19, li_20, li_21, li_22, li_23, li_24, li_25, li_26, li_27, li_28, li_29, li_30, li_31, li_32, li_42, li_43, li_46, li_47, li_48, li_49, li_52, li_57, li_59, li_60, li_64, li_89, li_94, li_97, li_99, li_100, li_108, li_112, li_120, li_122, li_150, li_255, li_300, li_450, li_500, li_671, li_890, li_1000, li_1001, li_1002, li_1003, li_1424, li_12345, li_32767, li_500000, li_1000000, li_1103515245, Int.reduceEq, Int.reduceLT, Int.reduceLE, reduceIte, Int.reduceAdd, Int.reduceSub, Int.reduceMul, Nat.reduceAdd, Nat.reduceMul, k3]
    rw [if_neg t1.1]
end MIw
