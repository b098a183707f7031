/-! ===== texts of the code ===== -/
def SE (E : En) : Prop := ∃ xs L, eO E = iv_O xs ∧ eL E = iv_N L
theorem SE_EE {E E' : En} (h : SE E) (g : eO E' = eO E ∧ eL E' = eL E) : SE E' := by
  obtain ⟨xs, L, h1, h2⟩ := h
  exact ⟨xs, L, g.1.trans h1, g.2.trans h2⟩
section TX
variable {A : Am} {E : En} {q : UInt32}
theorem shr_z : ∀ l : Fin 100, Int32.ofNat l.val >>> (iI 0 &&& iI 31) = iI ((l.val : Nat) : Int) := by decide
theorem nr_20 : mm_nr 2 (iI 0) = true := by decide
theorem s_length (d : Nat) (hd : 1 < d) (h1 : od_s q = true) (h2 : od_b (q + 100) = true) {n : Nat} (hL : eL E (q + 100) = n) (hn : n < 100) : D_Str_length d (MM A E) q = some (.inl (some (.int (iI (n : Int)))), MM A E) := by
  have z := shr_z ⟨n, hn⟩
  simp only at z
  rw [eD_Str_length]
  simp (disch := omega) only [cond_true, cond_false, Bool.and_self, Bool.and_true, Bool.true_and, Bool.and_false, Bool.false_and, Bool.not_true, Bool.not_false, Bool.or_true, Bool.true_or, Bool.or_false, Bool.false_or, cond_dec, cI_ok, cR_ok, cV_ok, cJ_ok, bo_nr, bo_0, bo_i0, nr_0, nr_10, nr_11, nr_i0, nr_i1, bl_0, iI_add, iI_sub, iI_mul, iI_neg, qlt, qeq, qmax, qmin, qdiv, qrem, qn0, qin, I_0, w_0, I_1, w_1, I_2, w_2, I_3, w_3, I_4, w_4, I_5, w_5, I_6, w_6, I_7, w_7, I_8, w_8, I_9, w_9, I_10, w_10, I_11, w_11, I_12, w_12, I_13, w_13, I_14, w_14, I_15, w_15, I_16, w_16, I_17, w_17, I_18, w_18, I_19, w_19, I_20, w_20, I_21, w_21, I_22, w_22, I_23, w_23, I_24, w_24, I_25, w_25, I_26, w_26, I_27, w_27, I_28, w_28, I_29, w_29, I_30, w_30, I_31, w_31, I_32, w_32, I_33, w_33, I_34, w_34, I_35, w_35, I_36, w_36, I_37, w_37, I_38, w_38, I_39, w_39, I_40, w_40, I_41, w_41, I_at, w_at, th_MM, J_MM, wJ_MM, P_F, P_G, fA_in, fA_k, fA_p, fA_P, uA_P, cA_P, uA_eq, uA_k, uA_p, cA_in, cA_k, cA_p, cp_at, cp_le, qlt0, nr_ib, Nat.not_lt_zero, decide_false, ki_1, kp_1_0, kp_1_1, kp_1_2, kp_1_3, kp_1_4, kp_1_5, kp_1_6, kp_1_7, kp_1_8, kp_1_9, kp_1_10, ki_2, kp_2_0, kp_2_1, ki_17, kp_17_0, kp_17_1, ki_32, kp_32_0, kp_32_3, ki_33, kp_33_0, kp_33_1, ki_48, kz_48, ki_49, kp_49_0, ki_50, kz_50, krr_50, ki_67, kp_67_0, kp_67_1, kp_67_2, kp_67_3, kp_67_4, ki_68, kz_68, krr_68, ki_69, kz_69, krr_69, ki_70, kz_70, ki_71, kz_71, ki_144, kp_144_0, kp_144_1, kp_144_2, kp_144_3, kp_144_4, ki_145, kz_145, ki_146, kz_146, ki_147, kz_147, ki_148, kz_148, ki_149, kp_149_0, kp_149_1, kp_149_2, ki_150, kz_150, ki_151, kz_151, ki_152, kp_152_0, kp_152_1, kp_152_2, ki_153, kz_153, ki_154, kz_154, ki_155, kz_155, ki_156, kp_156_0, kp_156_1, kp_156_2, ki_157, kz_157, ki_158, kp_158_0, ki_159, kz_159, ki_160, kz_160, ki_161, kp_161_1, kp_161_2, kp_161_3, kp_161_4, kp_161_7, kp_161_21, kp_161_22, kp_161_23, kp_161_26, kp_161_27, kp_161_28, kp_161_29, kp_161_30, kp_161_32, kp_161_33, kp_161_37, kp_161_40, ki_162, kz_162, ki_163, kz_163, ki_164, kz_164, ki_165, kz_165, ki_166, kz_166, ki_167, kz_167, ki_168, kz_168, ki_169, kz_169, ki_170, kz_170, ki_171, kz_171, ki_172, kz_172, ki_173, kz_173, ki_174, kz_174, ki_175, kz_175, ki_176, kz_176, ki_177, kz_177, ki_178, kz_178, ki_179, kz_179, li_m1000000, li_m8, li_m5, li_m1, li_0, li_1, li_2, li_3, li_4, li_5, li_6, li_7, li_8, li_9, li_10, li_11, li_12, li_13, li_14, li_15, li_16, li_17, li_18, li_19, li_20, li_21, li_22, li_23, li_24, li_25, li_26, li_27, li_28, li_29, li_30, li_31, li_32, li_42, li_43, li_46, li_47, li_48, li_49, li_52, li_57, li_59, li_60, li_64, li_89, li_94, li_97, li_99, li_100, li_108, li_112, li_120, li_122, li_150, li_255, li_300, li_450, li_500, li_671, li_890, li_1000, li_1001, li_1002, li_1003, li_1424, li_12345, li_32767, li_500000, li_1000000, li_1103515245, Int.reduceEq, Int.reduceLT, Int.reduceLE, reduceIte, Int.reduceAdd, Int.reduceSub, Int.reduceMul, Nat.reduceAdd, Nat.reduceMul, eD_Str_coder, h1, h2, L_MM, hL, nr_20, z]
theorem s_charAt (d : Nat) (hd : 5 < d) (h1 : od_s q = true) (h2 : od_b (q + 100) = true) {n : Nat} (hL : eL E (q + 100) = n) (hn : n < 100) {i : Nat} (hi : i < n) {c : Int32} {v : Int} (hO : eO E (q + 100) i = c) (hv : mm_chr (c &&& 255) = iI v) (hr : mm_nr 3 (iI v) = true) : D_Str_charAt d (MM A E) q (iI (i : Int)) = some (.inl (some (.int (iI v))), MM A E) := by
  have e1 : Int32.ofNat n = iI (n : Int) := iI_nat n
  have e2 : Int32.toNatClampNeg (iI (i : Int)) = i := by rw [iI_cl (by omega) (by omega)]; omega
  have l1 : (255 : Int32) = iI 255 := rfl
  rw [l1] at hv
  rw [eD_Str_charAt]
  simp (disch := omega) only [cond_true, cond_false, Bool.and_self, Bool.and_true, Bool.true_and, Bool.and_false, Bool.false_and, Bool.not_true, Bool.not_false, Bool.or_true, Bool.true_or, Bool.or_false, Bool.false_or, cond_dec, cI_ok, cR_ok, cV_ok, cJ_ok, bo_nr, bo_0, bo_i0, nr_0, nr_10, nr_11, nr_i0, nr_i1, bl_0, iI_add, iI_sub, iI_mul, iI_neg, qlt, qeq, qmax, qmin, qdiv, qrem, qn0, qin, I_0, w_0, I_1, w_1, I_2, w_2, I_3, w_3, I_4, w_4, I_5, w_5, I_6, w_6, I_7, w_7, I_8, w_8, I_9, w_9, I_10, w_10, I_11, w_11, I_12, w_12, I_13, w_13, I_14, w_14, I_15, w_15, I_16, w_16, I_17, w_17, I_18, w_18, I_19, w_19, I_20, w_20, I_21, w_21, I_22, w_22, I_23, w_23, I_24, w_24, I_25, w_25, I_26, w_26, I_27, w_27, I_28, w_28, I_29, w_29, I_30, w_30, I_31, w_31, I_32, w_32, I_33, w_33, I_34, w_34, I_35, w_35, I_36, w_36, I_37, w_37, I_38, w_38, I_39, w_39, I_40, w_40, I_41, w_41, I_at, w_at, th_MM, J_MM, wJ_MM, P_F, P_G, fA_in, fA_k, fA_p, fA_P, uA_P, cA_P, uA_eq, uA_k, uA_p, cA_in, cA_k, cA_p, cp_at, cp_le, qlt0, nr_ib, Nat.not_lt_zero, decide_false, ki_1, kp_1_0, kp_1_1, kp_1_2, kp_1_3, kp_1_4, kp_1_5, kp_1_6, kp_1_7, kp_1_8, kp_1_9, kp_1_10, ki_2, kp_2_0, kp_2_1, ki_17, kp_17_0, kp_17_1, ki_32, kp_32_0, kp_32_3, ki_33, kp_33_0, kp_33_1, ki_48, kz_48, ki_49, kp_49_0, ki_50, kz_50, krr_50, ki_67, kp_67_0, kp_67_1, kp_67_2, kp_67_3, kp_67_4, ki_68, kz_68, krr_68, ki_69, kz_69, krr_69, ki_70, kz_70, ki_71, kz_71, ki_144, kp_144_0, kp_144_1, kp_144_2, kp_144_3, kp_144_4, ki_145, kz_145, ki_146, kz_146, ki_147, kz_147, ki_148, kz_148, ki_149, kp_149_0, kp_149_1, kp_149_2, ki_150, kz_150, ki_151, kz_151, ki_152, kp_152_0, kp_152_1, kp_152_2, ki_153, kz_153, ki_154, kz_154, ki_155, kz_155, ki_156, kp_156_0, kp_156_1, kp_156_2, ki_157, kz_157, ki_158, kp_158_0, ki_159, kz_159, ki_160, kz_160, ki_161, kp_161_1, kp_161_2, kp_161_3, kp_161_4, kp_161_7, kp_161_21, kp_161_22, kp_161_23, kp_161_26, kp_161_27, kp_161_28, kp_161_29, kp_161_30, kp_161_32, kp_161_33, kp_161_37, kp_161_40, ki_162, kz_162, ki_163, kz_163, ki_164, kz_164, ki_165, kz_165, ki_166, kz_166, ki_167, kz_167, ki_168, kz_168, ki_169, kz_169, ki_170, kz_170, ki_171, kz_171, ki_172, kz_172, ki_173, kz_173, ki_174, kz_174, ki_175, kz_175, ki_176, kz_176, ki_177, kz_177, ki_178, kz_178, ki_179, kz_179, li_m1000000, li_m8, li_m5, li_m1, li_0, li_1, li_2, li_3, li_4, li_5, li_6, li_7, li_8, li_9, li_10, li_11, li_12, li_13, li_14, li_15, li_16, li_17, li_18, li_19, li_20, li_21, li_22, li_23, li_24, li_25, li_26, li_27, li_28, li_29, li_30, li_31, li_32, li_42, li_43, li_46, li_47, li_48, li_49, li_52, li_57, li_59, li_60, li_64, li_89, li_94, li_97, li_99, li_100, li_108, li_112, li_120, li_122, li_150, li_255, li_300, li_450, li_500, li_671, li_890, li_1000, li_1001, li_1002, li_1003, li_1424, li_12345, li_32767, li_500000, li_1000000, li_1103515245, Int.reduceEq, Int.reduceLT, Int.reduceLE, reduceIte, Int.reduceAdd, Int.reduceSub, Int.reduceMul, Nat.reduceAdd, Nat.reduceMul, eD_Str_isLatin1, eD_Lat_charAt, eD_Str_checkIndex, eD_Pre_checkIndex, h1, h2, L_MM, hL, O_MM, e1, e2, hO, hv, hr]
  rw [if_neg (by omega), if_pos (by omega)]
  simp (disch := omega) only [cond_true, cond_false, Bool.and_self, Bool.and_true, Bool.true_and, Bool.and_false, Bool.false_and, Bool.not_true, Bool.not_false, Bool.or_true, Bool.true_or, Bool.or_false, Bool.false_or, cond_dec, cI_ok, cR_ok, cV_ok, cJ_ok, bo_nr, bo_0, bo_i0, nr_0, nr_10, nr_11, nr_i0, nr_i1, bl_0, iI_add, iI_sub, iI_mul, iI_neg, qlt, qeq, qmax, qmin, qdiv, qrem, qn0, qin, I_0, w_0, I_1, w_1, I_2, w_2, I_3, w_3, I_4, w_4, I_5, w_5, I_6, w_6, I_7, w_7, I_8, w_8, I_9, w_9, I_10, w_10, I_11, w_11, I_12, w_12, I_13, w_13, I_14, w_14, I_15, w_15, I_16, w_16, I_17, w_17, I_18, w_18, I_19, w_19, I_20, w_20, I_21, w_21, I_22, w_22, I_23, w_23, I_24, w_24, I_25, w_25, I_26, w_26, I_27, w_27, I_28, w_28, I_29, w_29, I_30, w_30, I_31, w_31, I_32, w_32, I_33, w_33, I_34, w_34, I_35, w_35, I_36, w_36, I_37, w_37, I_38, w_38, I_39, w_39, I_40, w_40, I_41, w_41, I_at, w_at, th_MM, J_MM, wJ_MM, P_F, P_G, fA_in, fA_k, fA_p, fA_P, uA_P, cA_P, uA_eq, uA_k, uA_p, cA_in, cA_k, cA_p, cp_at, cp_le, qlt0, nr_ib, Nat.not_lt_zero, decide_false, ki_1, kp_1_0, kp_1_1, kp_1_2, kp_1_3, kp_1_4, kp_1_5, kp_1_6, kp_1_7, kp_1_8, kp_1_9, kp_1_10, ki_2, kp_2_0, kp_2_1, ki_17, kp_17_0, kp_17_1, ki_32, kp_32_0, kp_32_3, ki_33, kp_33_0, kp_33_1, ki_48, kz_48, ki_49, kp_49_0, ki_50, kz_50, krr_50, ki_67, kp_67_0, kp_67_1, kp_67_2, kp_67_3, kp_67_4, ki_68, kz_68, krr_68, ki_69, kz_69, krr_69, ki_70, kz_70, ki_71, kz_71, ki_144, kp_144_0, kp_144_1, kp_144_2, kp_144_3, kp_144_4, ki_145, kz_145, ki_146, kz_146, ki_147, kz_147, ki_148, kz_148, ki_149, kp_149_0, kp_149_1, kp_149_2, ki_150, kz_150, ki_151, kz_151, ki_152, kp_152_0, kp_152_1, kp_152_2, ki_153, kz_153, ki_154, kz_154, ki_155, kz_155, ki_156, kp_156_0, kp_156_1, kp_156_2, ki_157, kz_157, ki_158, kp_158_0, ki_159, kz_159, ki_160, kz_160, ki_161, kp_161_1, kp_161_2, kp_161_3, kp_161_4, kp_161_7, kp_161_21, kp_161_22, kp_161_23, kp_161_26, kp_161_27, kp_161_28, kp_161_29, kp_161_30, kp_161_32, kp_161_33, kp_161_37, kp_161_40, ki_162, kz_162, ki_163, kz_163, ki_164, kz_164, ki_165, kz_165, ki_166, kz_166, ki_167, kz_167, ki_168, kz_168, ki_169, kz_169, ki_170, kz_170, ki_171, kz_171, ki_172, kz_172, ki_173, kz_173, ki_174, kz_174, ki_175, kz_175, ki_176, kz_176, ki_177, kz_177, ki_178, kz_178, ki_179, kz_179, li_m1000000, li_m8, li_m5, li_m1, li_0, li_1, li_2, li_3, li_4, li_5, li_6, li_7, li_8, li_9, li_10, li_11, li_12, li_13, li_14, li_15, li_16, li_17, li_18, li_19, li_20, li_21, li_22, li_23, li_24, li_25, li_26, li_27, li_28, li_29, li_30, li_31, li_32, li_42, li_43, li_46, li_47, li_48, li_49, li_52, li_57, li_59, li_60, li_64, li_89, li_94, li_97, li_99, li_100, li_108, li_112, li_120, li_122, li_150, li_255, li_300, li_450, li_500, li_671, li_890, li_1000, li_1001, li_1002, li_1003, li_1424, li_12345, li_32767, li_500000, li_1000000, li_1103515245, Int.reduceEq, Int.reduceLT, Int.reduceLE, reduceIte, Int.reduceAdd, Int.reduceSub, Int.reduceMul, Nat.reduceAdd, Nat.reduceMul, L_MM, hL, O_MM, e2, hO, hv, hr]
def HW (E : En) (q : UInt32) (ws : List Int) : Prop := od_s q = true ∧ (4 ≤ ws.length ∧ ws.length ≤ 5) ∧ (∀ v ∈ ws, 97 ≤ v ∧ v ≤ 122) ∧ (∀ (d : Nat) (A : Am), 1 < d → D_Str_length d (MM A E) q = some (.inl (some (.int (iI (ws.length : Int)))), MM A E)) ∧ ∀ (d : Nat) (A : Am) (i : Nat) (v : Int), 5 < d → ws[i]? = some v → D_Str_charAt d (MM A E) q (iI (i : Int)) = some (.inl (some (.int (iI v))), MM A E)
def wd1 : List Int := [99, 108, 111, 99, 107]
def wd2 : List Int := [116, 101, 97, 109]
def wd3 : List Int := [108, 97, 115, 116]
def wd4 : List Int := [108, 105, 110, 101]
def wd5 : List Int := [112, 97, 105, 114]
def wd6 : List Int := [101, 120, 116, 114, 97]
theorem HW_1 (h : SE E) : HW E (UInt32.ofNat 1) wd1 := by
  obtain ⟨xs, L, hO, hL⟩ := h
  have eL' : eL E (UInt32.ofNat 1 + 100) = 5 := by rw [hL]; rfl
  refine ⟨by decide, by decide, by decide, fun d A hd => s_length d hd (by decide) (by decide) eL' (by decide), fun d A i v hd hi => ?_⟩
  have hi5 : i < 5 := (List.getElem?_eq_some_iff.mp hi).1
  have hc : i = 0 ∨ i = 1 ∨ i = 2 ∨ i = 3 ∨ i = 4 := by omega
  rcases hc with rfl | rfl | rfl | rfl | rfl
  · obtain rfl : (99 : Int) = v := Option.some.inj hi
    exact s_charAt d hd (by decide) (by decide) eL' (by decide) (by decide) (c := 99) (by rw [hO]; rfl) (by decide) (by decide)
  · obtain rfl : (108 : Int) = v := Option.some.inj hi
    exact s_charAt d hd (by decide) (by decide) eL' (by decide) (by decide) (c := 108) (by rw [hO]; rfl) (by decide) (by decide)
  · obtain rfl : (111 : Int) = v := Option.some.inj hi
    exact s_charAt d hd (by decide) (by decide) eL' (by decide) (by decide) (c := 111) (by rw [hO]; rfl) (by decide) (by decide)
  · obtain rfl : (99 : Int) = v := Option.some.inj hi
    exact s_charAt d hd (by decide) (by decide) eL' (by decide) (by decide) (c := 99) (by rw [hO]; rfl) (by decide) (by decide)
  · obtain rfl : (107 : Int) = v := Option.some.inj hi
    exact s_charAt d hd (by decide) (by decide) eL' (by decide) (by decide) (c := 107) (by rw [hO]; rfl) (by decide) (by decide)
theorem HW_11 (h : SE E) : HW E (UInt32.ofNat 11) wd1 := by
  obtain ⟨xs, L, hO, hL⟩ := h
  have eL' : eL E (UInt32.ofNat 11 + 100) = 5 := by rw [hL]; rfl
  refine ⟨by decide, by decide, by decide, fun d A hd => s_length d hd (by decide) (by decide) eL' (by decide), fun d A i v hd hi => ?_⟩
  have hi5 : i < 5 := (List.getElem?_eq_some_iff.mp hi).1
  have hc : i = 0 ∨ i = 1 ∨ i = 2 ∨ i = 3 ∨ i = 4 := by omega
  rcases hc with rfl | rfl | rfl | rfl | rfl
  · obtain rfl : (99 : Int) = v := Option.some.inj hi
    exact s_charAt d hd (by decide) (by decide) eL' (by decide) (by decide) (c := 99) (by rw [hO]; rfl) (by decide) (by decide)
  · obtain rfl : (108 : Int) = v := Option.some.inj hi
    exact s_charAt d hd (by decide) (by decide) eL' (by decide) (by decide) (c := 108) (by rw [hO]; rfl) (by decide) (by decide)
  · obtain rfl : (111 : Int) = v := Option.some.inj hi
    exact s_charAt d hd (by decide) (by decide) eL' (by decide) (by decide) (c := 111) (by rw [hO]; rfl) (by decide) (by decide)
  · obtain rfl : (99 : Int) = v := Option.some.inj hi
    exact s_charAt d hd (by decide) (by decide) eL' (by decide) (by decide) (c := 99) (by rw [hO]; rfl) (by decide) (by decide)
  · obtain rfl : (107 : Int) = v := Option.some.inj hi
    exact s_charAt d hd (by decide) (by decide) eL' (by decide) (by decide) (c := 107) (by rw [hO]; rfl) (by decide) (by decide)
theorem HW_2 (h : SE E) : HW E (UInt32.ofNat 2) wd2 := by
  obtain ⟨xs, L, hO, hL⟩ := h
  have eL' : eL E (UInt32.ofNat 2 + 100) = 4 := by rw [hL]; rfl
  refine ⟨by decide, by decide, by decide, fun d A hd => s_length d hd (by decide) (by decide) eL' (by decide), fun d A i v hd hi => ?_⟩
  have hi5 : i < 4 := (List.getElem?_eq_some_iff.mp hi).1
  have hc : i = 0 ∨ i = 1 ∨ i = 2 ∨ i = 3 := by omega
  rcases hc with rfl | rfl | rfl | rfl
  · obtain rfl : (116 : Int) = v := Option.some.inj hi
    exact s_charAt d hd (by decide) (by decide) eL' (by decide) (by decide) (c := 116) (by rw [hO]; rfl) (by decide) (by decide)
  · obtain rfl : (101 : Int) = v := Option.some.inj hi
    exact s_charAt d hd (by decide) (by decide) eL' (by decide) (by decide) (c := 101) (by rw [hO]; rfl) (by decide) (by decide)
  · obtain rfl : (97 : Int) = v := Option.some.inj hi
    exact s_charAt d hd (by decide) (by decide) eL' (by decide) (by decide) (c := 97) (by rw [hO]; rfl) (by decide) (by decide)
  · obtain rfl : (109 : Int) = v := Option.some.inj hi
    exact s_charAt d hd (by decide) (by decide) eL' (by decide) (by decide) (c := 109) (by rw [hO]; rfl) (by decide) (by decide)
theorem HW_12 (h : SE E) : HW E (UInt32.ofNat 12) wd2 := by
  obtain ⟨xs, L, hO, hL⟩ := h
  have eL' : eL E (UInt32.ofNat 12 + 100) = 4 := by rw [hL]; rfl
  refine ⟨by decide, by decide, by decide, fun d A hd => s_length d hd (by decide) (by decide) eL' (by decide), fun d A i v hd hi => ?_⟩
  have hi5 : i < 4 := (List.getElem?_eq_some_iff.mp hi).1
  have hc : i = 0 ∨ i = 1 ∨ i = 2 ∨ i = 3 := by omega
  rcases hc with rfl | rfl | rfl | rfl
  · obtain rfl : (116 : Int) = v := Option.some.inj hi
    exact s_charAt d hd (by decide) (by decide) eL' (by decide) (by decide) (c := 116) (by rw [hO]; rfl) (by decide) (by decide)
  · obtain rfl : (101 : Int) = v := Option.some.inj hi
    exact s_charAt d hd (by decide) (by decide) eL' (by decide) (by decide) (c := 101) (by rw [hO]; rfl) (by decide) (by decide)
  · obtain rfl : (97 : Int) = v := Option.some.inj hi
    exact s_charAt d hd (by decide) (by decide) eL' (by decide) (by decide) (c := 97) (by rw [hO]; rfl) (by decide) (by decide)
  · obtain rfl : (109 : Int) = v := Option.some.inj hi
    exact s_charAt d hd (by decide) (by decide) eL' (by decide) (by decide) (c := 109) (by rw [hO]; rfl) (by decide) (by decide)
theorem HW_3 (h : SE E) : HW E (UInt32.ofNat 3) wd3 := by
  obtain ⟨xs, L, hO, hL⟩ := h
  have eL' : eL E (UInt32.ofNat 3 + 100) = 4 := by rw [hL]; rfl
  refine ⟨by decide, by decide, by decide, fun d A hd => s_length d hd (by decide) (by decide) eL' (by decide), fun d A i v hd hi => ?_⟩
  have hi5 : i < 4 := (List.getElem?_eq_some_iff.mp hi).1
  have hc : i = 0 ∨ i = 1 ∨ i = 2 ∨ i = 3 := by omega
  rcases hc with rfl | rfl | rfl | rfl
  · obtain rfl : (108 : Int) = v := Option.some.inj hi
    exact s_charAt d hd (by decide) (by decide) eL' (by decide) (by decide) (c := 108) (by rw [hO]; rfl) (by decide) (by decide)
  · obtain rfl : (97 : Int) = v := Option.some.inj hi
    exact s_charAt d hd (by decide) (by decide) eL' (by decide) (by decide) (c := 97) (by rw [hO]; rfl) (by decide) (by decide)
  · obtain rfl : (115 : Int) = v := Option.some.inj hi
    exact s_charAt d hd (by decide) (by decide) eL' (by decide) (by decide) (c := 115) (by rw [hO]; rfl) (by decide) (by decide)
  · obtain rfl : (116 : Int) = v := Option.some.inj hi
    exact s_charAt d hd (by decide) (by decide) eL' (by decide) (by decide) (c := 116) (by rw [hO]; rfl) (by decide) (by decide)
theorem HW_13 (h : SE E) : HW E (UInt32.ofNat 13) wd3 := by
  obtain ⟨xs, L, hO, hL⟩ := h
  have eL' : eL E (UInt32.ofNat 13 + 100) = 4 := by rw [hL]; rfl
  refine ⟨by decide, by decide, by decide, fun d A hd => s_length d hd (by decide) (by decide) eL' (by decide), fun d A i v hd hi => ?_⟩
  have hi5 : i < 4 := (List.getElem?_eq_some_iff.mp hi).1
  have hc : i = 0 ∨ i = 1 ∨ i = 2 ∨ i = 3 := by omega
  rcases hc with rfl | rfl | rfl | rfl
  · obtain rfl : (108 : Int) = v := Option.some.inj hi
    exact s_charAt d hd (by decide) (by decide) eL' (by decide) (by decide) (c := 108) (by rw [hO]; rfl) (by decide) (by decide)
  · obtain rfl : (97 : Int) = v := Option.some.inj hi
    exact s_charAt d hd (by decide) (by decide) eL' (by decide) (by decide) (c := 97) (by rw [hO]; rfl) (by decide) (by decide)
  · obtain rfl : (115 : Int) = v := Option.some.inj hi
    exact s_charAt d hd (by decide) (by decide) eL' (by decide) (by decide) (c := 115) (by rw [hO]; rfl) (by decide) (by decide)
  · obtain rfl : (116 : Int) = v := Option.some.inj hi
    exact s_charAt d hd (by decide) (by decide) eL' (by decide) (by decide) (c := 116) (by rw [hO]; rfl) (by decide) (by decide)
theorem HW_4 (h : SE E) : HW E (UInt32.ofNat 4) wd4 := by
  obtain ⟨xs, L, hO, hL⟩ := h
  have eL' : eL E (UInt32.ofNat 4 + 100) = 4 := by rw [hL]; rfl
  refine ⟨by decide, by decide, by decide, fun d A hd => s_length d hd (by decide) (by decide) eL' (by decide), fun d A i v hd hi => ?_⟩
  have hi5 : i < 4 := (List.getElem?_eq_some_iff.mp hi).1
  have hc : i = 0 ∨ i = 1 ∨ i = 2 ∨ i = 3 := by omega
  rcases hc with rfl | rfl | rfl | rfl
  · obtain rfl : (108 : Int) = v := Option.some.inj hi
    exact s_charAt d hd (by decide) (by decide) eL' (by decide) (by decide) (c := 108) (by rw [hO]; rfl) (by decide) (by decide)
  · obtain rfl : (105 : Int) = v := Option.some.inj hi
    exact s_charAt d hd (by decide) (by decide) eL' (by decide) (by decide) (c := 105) (by rw [hO]; rfl) (by decide) (by decide)
  · obtain rfl : (110 : Int) = v := Option.some.inj hi
    exact s_charAt d hd (by decide) (by decide) eL' (by decide) (by decide) (c := 110) (by rw [hO]; rfl) (by decide) (by decide)
  · obtain rfl : (101 : Int) = v := Option.some.inj hi
    exact s_charAt d hd (by decide) (by decide) eL' (by decide) (by decide) (c := 101) (by rw [hO]; rfl) (by decide) (by decide)
theorem HW_14 (h : SE E) : HW E (UInt32.ofNat 14) wd4 := by
  obtain ⟨xs, L, hO, hL⟩ := h
  have eL' : eL E (UInt32.ofNat 14 + 100) = 4 := by rw [hL]; rfl
  refine ⟨by decide, by decide, by decide, fun d A hd => s_length d hd (by decide) (by decide) eL' (by decide), fun d A i v hd hi => ?_⟩
  have hi5 : i < 4 := (List.getElem?_eq_some_iff.mp hi).1
  have hc : i = 0 ∨ i = 1 ∨ i = 2 ∨ i = 3 := by omega
  rcases hc with rfl | rfl | rfl | rfl
  · obtain rfl : (108 : Int) = v := Option.some.inj hi
    exact s_charAt d hd (by decide) (by decide) eL' (by decide) (by decide) (c := 108) (by rw [hO]; rfl) (by decide) (by decide)
  · obtain rfl : (105 : Int) = v := Option.some.inj hi
    exact s_charAt d hd (by decide) (by decide) eL' (by decide) (by decide) (c := 105) (by rw [hO]; rfl) (by decide) (by decide)
  · obtain rfl : (110 : Int) = v := Option.some.inj hi
    exact s_charAt d hd (by decide) (by decide) eL' (by decide) (by decide) (c := 110) (by rw [hO]; rfl) (by decide) (by decide)
  · obtain rfl : (101 : Int) = v := Option.some.inj hi
    exact s_charAt d hd (by decide) (by decide) eL' (by decide) (by decide) (c := 101) (by rw [hO]; rfl) (by decide) (by decide)
theorem HW_5 (h : SE E) : HW E (UInt32.ofNat 5) wd5 := by
  obtain ⟨xs, L, hO, hL⟩ := h
  have eL' : eL E (UInt32.ofNat 5 + 100) = 4 := by rw [hL]; rfl
  refine ⟨by decide, by decide, by decide, fun d A hd => s_length d hd (by decide) (by decide) eL' (by decide), fun d A i v hd hi => ?_⟩
  have hi5 : i < 4 := (List.getElem?_eq_some_iff.mp hi).1
  have hc : i = 0 ∨ i = 1 ∨ i = 2 ∨ i = 3 := by omega
  rcases hc with rfl | rfl | rfl | rfl
  · obtain rfl : (112 : Int) = v := Option.some.inj hi
    exact s_charAt d hd (by decide) (by decide) eL' (by decide) (by decide) (c := 112) (by rw [hO]; rfl) (by decide) (by decide)
  · obtain rfl : (97 : Int) = v := Option.some.inj hi
    exact s_charAt d hd (by decide) (by decide) eL' (by decide) (by decide) (c := 97) (by rw [hO]; rfl) (by decide) (by decide)
  · obtain rfl : (105 : Int) = v := Option.some.inj hi
    exact s_charAt d hd (by decide) (by decide) eL' (by decide) (by decide) (c := 105) (by rw [hO]; rfl) (by decide) (by decide)
  · obtain rfl : (114 : Int) = v := Option.some.inj hi
    exact s_charAt d hd (by decide) (by decide) eL' (by decide) (by decide) (c := 114) (by rw [hO]; rfl) (by decide) (by decide)
theorem HW_15 (h : SE E) : HW E (UInt32.ofNat 15) wd5 := by
  obtain ⟨xs, L, hO, hL⟩ := h
  have eL' : eL E (UInt32.ofNat 15 + 100) = 4 := by rw [hL]; rfl
  refine ⟨by decide, by decide, by decide, fun d A hd => s_length d hd (by decide) (by decide) eL' (by decide), fun d A i v hd hi => ?_⟩
  have hi5 : i < 4 := (List.getElem?_eq_some_iff.mp hi).1
  have hc : i = 0 ∨ i = 1 ∨ i = 2 ∨ i = 3 := by omega
  rcases hc with rfl | rfl | rfl | rfl
  · obtain rfl : (112 : Int) = v := Option.some.inj hi
    exact s_charAt d hd (by decide) (by decide) eL' (by decide) (by decide) (c := 112) (by rw [hO]; rfl) (by decide) (by decide)
  · obtain rfl : (97 : Int) = v := Option.some.inj hi
    exact s_charAt d hd (by decide) (by decide) eL' (by decide) (by decide) (c := 97) (by rw [hO]; rfl) (by decide) (by decide)
  · obtain rfl : (105 : Int) = v := Option.some.inj hi
    exact s_charAt d hd (by decide) (by decide) eL' (by decide) (by decide) (c := 105) (by rw [hO]; rfl) (by decide) (by decide)
  · obtain rfl : (114 : Int) = v := Option.some.inj hi
    exact s_charAt d hd (by decide) (by decide) eL' (by decide) (by decide) (c := 114) (by rw [hO]; rfl) (by decide) (by decide)
theorem HW_6 (h : SE E) : HW E (UInt32.ofNat 6) wd6 := by
  obtain ⟨xs, L, hO, hL⟩ := h
  have eL' : eL E (UInt32.ofNat 6 + 100) = 5 := by rw [hL]; rfl
  refine ⟨by decide, by decide, by decide, fun d A hd => s_length d hd (by decide) (by decide) eL' (by decide), fun d A i v hd hi => ?_⟩
  have hi5 : i < 5 := (List.getElem?_eq_some_iff.mp hi).1
  have hc : i = 0 ∨ i = 1 ∨ i = 2 ∨ i = 3 ∨ i = 4 := by omega
  rcases hc with rfl | rfl | rfl | rfl | rfl
  · obtain rfl : (101 : Int) = v := Option.some.inj hi
    exact s_charAt d hd (by decide) (by decide) eL' (by decide) (by decide) (c := 101) (by rw [hO]; rfl) (by decide) (by decide)
  · obtain rfl : (120 : Int) = v := Option.some.inj hi
    exact s_charAt d hd (by decide) (by decide) eL' (by decide) (by decide) (c := 120) (by rw [hO]; rfl) (by decide) (by decide)
  · obtain rfl : (116 : Int) = v := Option.some.inj hi
    exact s_charAt d hd (by decide) (by decide) eL' (by decide) (by decide) (c := 116) (by rw [hO]; rfl) (by decide) (by decide)
  · obtain rfl : (114 : Int) = v := Option.some.inj hi
    exact s_charAt d hd (by decide) (by decide) eL' (by decide) (by decide) (c := 114) (by rw [hO]; rfl) (by decide) (by decide)
  · obtain rfl : (97 : Int) = v := Option.some.inj hi
    exact s_charAt d hd (by decide) (by decide) eL' (by decide) (by decide) (c := 97) (by rw [hO]; rfl) (by decide) (by decide)
theorem HW_16 (h : SE E) : HW E (UInt32.ofNat 16) wd6 := by
  obtain ⟨xs, L, hO, hL⟩ := h
  have eL' : eL E (UInt32.ofNat 16 + 100) = 5 := by rw [hL]; rfl
  refine ⟨by decide, by decide, by decide, fun d A hd => s_length d hd (by decide) (by decide) eL' (by decide), fun d A i v hd hi => ?_⟩
  have hi5 : i < 5 := (List.getElem?_eq_some_iff.mp hi).1
  have hc : i = 0 ∨ i = 1 ∨ i = 2 ∨ i = 3 ∨ i = 4 := by omega
  rcases hc with rfl | rfl | rfl | rfl | rfl
  · obtain rfl : (101 : Int) = v := Option.some.inj hi
    exact s_charAt d hd (by decide) (by decide) eL' (by decide) (by decide) (c := 101) (by rw [hO]; rfl) (by decide) (by decide)
  · obtain rfl : (120 : Int) = v := Option.some.inj hi
    exact s_charAt d hd (by decide) (by decide) eL' (by decide) (by decide) (c := 120) (by rw [hO]; rfl) (by decide) (by decide)
  · obtain rfl : (116 : Int) = v := Option.some.inj hi
    exact s_charAt d hd (by decide) (by decide) eL' (by decide) (by decide) (c := 116) (by rw [hO]; rfl) (by decide) (by decide)
  · obtain rfl : (114 : Int) = v := Option.some.inj hi
    exact s_charAt d hd (by decide) (by decide) eL' (by decide) (by decide) (c := 114) (by rw [hO]; rfl) (by decide) (by decide)
  · obtain rfl : (97 : Int) = v := Option.some.inj hi
    exact s_charAt d hd (by decide) (by decide) eL' (by decide) (by decide) (c := 97) (by rw [hO]; rfl) (by decide) (by decide)
end TX
