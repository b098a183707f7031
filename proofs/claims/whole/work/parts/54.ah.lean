/-! ===== the class: what could come ===== -/
def gF (t : Int) : Nat := if t = 0 then 68 else 69
def sP (t l : Int) : Nat := if t = 0 then sH l else sA l
theorem sP_v {t l : Int} (ht : t = 0 ∨ t = 1) : sP t l = 72 + 8 * l.toNat + 4 * t.toNat := by
  rcases ht with rfl | rfl
  · show 72 + 8 * l.toNat = _; omega
  · show 76 + 8 * l.toNat = _; omega
theorem SD_P {t l : Int} (ht : t = 0 ∨ t = 1) (h : l < 9) : SD (sP t l) (tR 2 t) := by
  rcases ht with rfl | rfl
  · exact SD_H h
  · exact SD_A h
section AHp
variable {A : Am} {E : En} {ρ : Rw} {t x y l f : Int}
theorem rr_gF (ht : t = 0 ∨ t = 1) : mm_rr (MM A E) (gF t) = true := by rcases ht with rfl | rfl <;> rfl
theorem sz_gF (ht : t = 0 ∨ t = 1) : mm_sz (MM A E) (gF t) = 9 := by rcases ht with rfl | rfl <;> rfl
theorem P_gF (ht : t = 0 ∨ t = 1) (h0 : 0 ≤ l) (h1 : l < 9) : mm_P (MM A E) (gF t) (Int32.toNatClampNeg (iI l)) = sP t l := by
  rcases ht with rfl | rfl
  · exact P_68 h0 h1
  · exact P_69 h0 h1
/-- what stands at a level -/
def AheadAt (A : Am) (E : En) (ρ : Rw) (l : Int) : Prop := SideAt A (sP 0 l) ρ 0 ∧ SideAt A (sP 1 l) ρ 1 ∧ TS A 3 ρ 0 ∧ TS A 10 ρ 1 ∧ A 67 7 = bs ρ (1 - ρ 1) ∧ A 67 8 = bs ρ (1 - (1 - ρ 1)) ∧ A 67 9 = sg (1 - ρ 1) ∧ eF E = gF (1 - ρ 1) ∧ eG E = gF (1 - (1 - ρ 1))
theorem Ah_S (h : AheadAt A E ρ l) (ht : t = 0 ∨ t = 1) : SideAt A (sP t l) ρ t := by
  rcases ht with rfl | rfl
  · exact h.1
  · exact h.2.1
theorem Ah_T (h : AheadAt A E ρ l) (ht : t = 0 ∨ t = 1) : TS A (tR 2 t) ρ t := by
  rcases ht with rfl | rfl
  · exact h.2.2.1
  · exact h.2.2.2.1
theorem a_gain (d : Nat) (hd : 1 < d) (hf : WF ρ) (h : AheadAt A E ρ l) (l0 : 0 ≤ l) (l1 : l < 9) (e : f = 1 - ρ 1) {u v : Int} (hu : may ρ f u = true) (hv : may ρ (1 - f) v = true) : D_Ahead_gain d (MM A E) 67 (iI l) (iI u) (iI v) = some (.inl (some (.int (iI (sg f * ed ρ (pX f u v) (pY f u v))))), MM A E) := by
  have h1 := hf.2.1
  have ff : f = 0 ∨ f = 1 := by omega
  have fo : 1 - f = 0 ∨ 1 - f = 1 := by omega
  have s1 := Ah_S h ff
  have s2 := Ah_S h fo
  have S1 := SD_P ff l1
  have S2 := SD_P fo l1
  have w1 := WF_t hf ff
  have w2 := WF_t hf fo
  have m1 := may_lt6 w1 hu
  have m2 := may_lt6 w2 hv
  have n1 := may_rg w1 hu
  have n2 := may_rg w2 hv
  have p1 := pw_rg w1 n1.1 n1.2 (w := 0) (.inl rfl)
  have p2 := pw_rg w1 n1.1 n1.2 (w := 1) (.inr rfl)
  have p3 := pw_rg w2 n2.1 n2.2 (w := 0) (.inl rfl)
  have p4 := pw_rg w2 n2.1 n2.2 (w := 1) (.inr rfl)
  rw [may_fs w1] at hu
  rw [may_fs w2] at hv
  have hu' := of_decide_eq_true hu
  have hv' := of_decide_eq_true hv
  obtain ⟨k1, -, -, -, k5⟩ := s1
  obtain ⟨j1, -, -, -, j5⟩ := s2
  obtain ⟨k6, k7⟩ := k5 u hu'.1 hu'.2
  obtain ⟨j6, j7⟩ := j5 v hv'.1 hv'.2
  have b1 := bs_rg hf ff
  have b2 := bs_rg hf fo
  have g1 := h.2.2.2.2.1
  have g2 := h.2.2.2.2.2.1
  obtain ⟨-, -, -, -, -, -, -, e5, e6⟩ := h
  rw [← e] at e5 e6 g1 g2
  have q1 := w1.2.2.2.2.1
  have q2 := w2.2.2.2.2.1
  have g44 : ∀ s o : Int, (s = 0 ∨ s = 1) → (o = 0 ∨ o = 1) → L_Ahead_gain_44 d (MM A E) 67 (iI u) (iI v) (sP f l) (sP (1 - f) l) (iI s) (iI o) = some (.inl (some (.int (iI (lk (bs ρ f) (pw ρ f u 0 - pw ρ (1 - f) v 1) (decide (s = 1)) (decide (o = 1)) - lk (bs ρ (1 - f)) (pw ρ (1 - f) v 0 - pw ρ f u 1) (decide (o = 1)) (decide (s = 1)))))), MM A E) := by
    intro s o hs ho
    rw [eL_Ahead_gain_44]
    simp (disch := omega) only [cond_true, cond_false, Bool.and_self, Bool.and_true, Bool.true_and, Bool.and_false, Bool.false_and, Bool.not_true, Bool.not_false, Bool.or_true, Bool.true_or, Bool.or_false, Bool.false_or, cond_dec, cI_ok, cR_ok, cV_ok, cJ_ok, bo_nr, bo_0, bo_i0, nr_0, nr_10, nr_11, nr_i0, nr_i1, bl_0, iI_add, iI_sub, iI_mul, iI_neg, qlt, qeq, qmax, qmin, qdiv, qrem, qn0, qin, I_0, w_0, I_1, w_1, I_2, w_2, I_3, w_3, I_4, w_4, I_5, w_5, I_6, w_6, I_7, w_7, I_8, w_8, I_9, w_9, I_10, w_10, I_11, w_11, I_12, w_12, I_13, w_13, I_14, w_14, I_15, w_15, I_16, w_16, I_17, w_17, I_18, w_18, I_19, w_19, I_20, w_20, I_21, w_21, I_22, w_22, I_23, w_23, I_24, w_24, I_25, w_25, I_26, w_26, I_27, w_27, I_28, w_28, I_29, w_29, I_30, w_30, I_31, w_31, I_32, w_32, I_33, w_33, I_34, w_34, I_35, w_35, I_36, w_36, I_37, w_37, I_38, w_38, I_39, w_39, I_40, w_40, I_41, w_41, I_at, w_at, th_MM, J_MM, wJ_MM, P_F, P_G, fA_in, fA_k, fA_p, fA_P, uA_P, cA_P, uA_eq, uA_k, uA_p, cA_in, cA_k, cA_p, cp_at, cp_le, qlt0, nr_ib, Nat.not_lt_zero, decide_false, ki_1, kp_1_0, kp_1_1, kp_1_2, kp_1_3, kp_1_4, kp_1_5, kp_1_6, kp_1_7, kp_1_8, kp_1_9, kp_1_10, ki_2, kp_2_0, kp_2_1, ki_17, kp_17_0, kp_17_1, ki_32, kp_32_0, kp_32_3, ki_33, kp_33_0, kp_33_1, ki_48, kz_48, ki_49, kp_49_0, ki_50, kz_50, krr_50, ki_67, kp_67_0, kp_67_1, kp_67_2, kp_67_3, kp_67_4, ki_68, kz_68, krr_68, ki_69, kz_69, krr_69, ki_70, kz_70, ki_71, kz_71, ki_144, kp_144_0, kp_144_1, kp_144_2, kp_144_3, kp_144_4, ki_145, kz_145, ki_146, kz_146, ki_147, kz_147, ki_148, kz_148, ki_149, kp_149_0, kp_149_1, kp_149_2, ki_150, kz_150, ki_151, kz_151, ki_152, kp_152_0, kp_152_1, kp_152_2, ki_153, kz_153, ki_154, kz_154, ki_155, kz_155, ki_156, kp_156_0, kp_156_1, kp_156_2, ki_157, kz_157, ki_158, kp_158_0, ki_159, kz_159, ki_160, kz_160, ki_161, kp_161_1, kp_161_2, kp_161_3, kp_161_4, kp_161_7, kp_161_21, kp_161_22, kp_161_23, kp_161_26, kp_161_27, kp_161_28, kp_161_29, kp_161_30, kp_161_32, kp_161_33, kp_161_37, kp_161_40, ki_162, kz_162, ki_163, kz_163, ki_164, kz_164, ki_165, kz_165, ki_166, kz_166, ki_167, kz_167, ki_168, kz_168, ki_169, kz_169, ki_170, kz_170, ki_171, kz_171, ki_172, kz_172, ki_173, kz_173, ki_174, kz_174, ki_175, kz_175, ki_176, kz_176, ki_177, kz_177, ki_178, kz_178, ki_179, kz_179, li_m1000000, li_m8, li_m5, li_m1, li_0, li_1, li_2, li_3, li_4, li_5, li_6, li_7, li_8, li_9, li_10, li_11, li_12, li_13, li_14, li_15, li_16, li_17, li_18, li_19, li_20, li_21, li_22, li_23, li_24, li_25, li_26, li_27, li_28, li_29, li_30, li_31, li_32, li_42, li_43, li_46, li_47, li_48, li_49, li_52, li_57, li_59, li_60, li_64, li_89, li_94, li_97, li_99, li_100, li_108, li_112, li_120, li_122, li_150, li_255, li_300, li_450, li_500, li_671, li_890, li_1000, li_1001, li_1002, li_1003, li_1424, li_12345, li_32767, li_500000, li_1000000, li_1103515245, Int.reduceEq, Int.reduceLT, Int.reduceLE, reduceIte, Int.reduceAdd, Int.reduceSub, Int.reduceMul, Nat.reduceAdd, Nat.reduceMul, is_S S1, is_S S2, is_S2 S1, is_S2 S2, is_S3 S1, is_S3 S2, sz_S2 S1, sz_S2 S2, sz_S3 S1, sz_S3 S2, P_S2 S1, P_S2 S2, P_S3 S1, P_S3 S2, k6, k7, j6, j7, g1, g2, r_likely]
  rw [eD_Ahead_gain]
  simp (disch := omega) only [cond_true, cond_false, Bool.and_self, Bool.and_true, Bool.true_and, Bool.and_false, Bool.false_and, Bool.not_true, Bool.not_false, Bool.or_true, Bool.true_or, Bool.or_false, Bool.false_or, cond_dec, cI_ok, cR_ok, cV_ok, cJ_ok, bo_nr, bo_0, bo_i0, nr_0, nr_10, nr_11, nr_i0, nr_i1, bl_0, iI_add, iI_sub, iI_mul, iI_neg, qlt, qeq, qmax, qmin, qdiv, qrem, qn0, qin, I_0, w_0, I_1, w_1, I_2, w_2, I_3, w_3, I_4, w_4, I_5, w_5, I_6, w_6, I_7, w_7, I_8, w_8, I_9, w_9, I_10, w_10, I_11, w_11, I_12, w_12, I_13, w_13, I_14, w_14, I_15, w_15, I_16, w_16, I_17, w_17, I_18, w_18, I_19, w_19, I_20, w_20, I_21, w_21, I_22, w_22, I_23, w_23, I_24, w_24, I_25, w_25, I_26, w_26, I_27, w_27, I_28, w_28, I_29, w_29, I_30, w_30, I_31, w_31, I_32, w_32, I_33, w_33, I_34, w_34, I_35, w_35, I_36, w_36, I_37, w_37, I_38, w_38, I_39, w_39, I_40, w_40, I_41, w_41, I_at, w_at, th_MM, J_MM, wJ_MM, P_F, P_G, fA_in, fA_k, fA_p, fA_P, uA_P, cA_P, uA_eq, uA_k, uA_p, cA_in, cA_k, cA_p, cp_at, cp_le, qlt0, nr_ib, Nat.not_lt_zero, decide_false, ki_1, kp_1_0, kp_1_1, kp_1_2, kp_1_3, kp_1_4, kp_1_5, kp_1_6, kp_1_7, kp_1_8, kp_1_9, kp_1_10, ki_2, kp_2_0, kp_2_1, ki_17, kp_17_0, kp_17_1, ki_32, kp_32_0, kp_32_3, ki_33, kp_33_0, kp_33_1, ki_48, kz_48, ki_49, kp_49_0, ki_50, kz_50, krr_50, ki_67, kp_67_0, kp_67_1, kp_67_2, kp_67_3, kp_67_4, ki_68, kz_68, krr_68, ki_69, kz_69, krr_69, ki_70, kz_70, ki_71, kz_71, ki_144, kp_144_0, kp_144_1, kp_144_2, kp_144_3, kp_144_4, ki_145, kz_145, ki_146, kz_146, ki_147, kz_147, ki_148, kz_148, ki_149, kp_149_0, kp_149_1, kp_149_2, ki_150, kz_150, ki_151, kz_151, ki_152, kp_152_0, kp_152_1, kp_152_2, ki_153, kz_153, ki_154, kz_154, ki_155, kz_155, ki_156, kp_156_0, kp_156_1, kp_156_2, ki_157, kz_157, ki_158, kp_158_0, ki_159, kz_159, ki_160, kz_160, ki_161, kp_161_1, kp_161_2, kp_161_3, kp_161_4, kp_161_7, kp_161_21, kp_161_22, kp_161_23, kp_161_26, kp_161_27, kp_161_28, kp_161_29, kp_161_30, kp_161_32, kp_161_33, kp_161_37, kp_161_40, ki_162, kz_162, ki_163, kz_163, ki_164, kz_164, ki_165, kz_165, ki_166, kz_166, ki_167, kz_167, ki_168, kz_168, ki_169, kz_169, ki_170, kz_170, ki_171, kz_171, ki_172, kz_172, ki_173, kz_173, ki_174, kz_174, ki_175, kz_175, ki_176, kz_176, ki_177, kz_177, ki_178, kz_178, ki_179, kz_179, li_m1000000, li_m8, li_m5, li_m1, li_0, li_1, li_2, li_3, li_4, li_5, li_6, li_7, li_8, li_9, li_10, li_11, li_12, li_13, li_14, li_15, li_16, li_17, li_18, li_19, li_20, li_21, li_22, li_23, li_24, li_25, li_26, li_27, li_28, li_29, li_30, li_31, li_32, li_42, li_43, li_46, li_47, li_48, li_49, li_52, li_57, li_59, li_60, li_64, li_89, li_94, li_97, li_99, li_100, li_108, li_112, li_120, li_122, li_150, li_255, li_300, li_450, li_500, li_671, li_890, li_1000, li_1001, li_1002, li_1003, li_1424, li_12345, li_32767, li_500000, li_1000000, li_1103515245, Int.reduceEq, Int.reduceLT, Int.reduceLE, reduceIte, Int.reduceAdd, Int.reduceSub, Int.reduceMul, Nat.reduceAdd, Nat.reduceMul, e5, e6, rr_gF ff, rr_gF fo, sz_gF ff, sz_gF fo, P_gF ff, P_gF fo, is_S S1, is_S S2, k1, j1, g44]
  have ee : sg f * ed ρ (pX f u v) (pY f u v) = ch ρ f u v - ch ρ (1 - f) v u := by
    rcases ff with rfl | rfl
    · show 1 * (ch ρ 0 u v - ch ρ 1 v u) = ch ρ 0 u v - ch ρ 1 v u
      omega
    · show -1 * (ch ρ 0 v u - ch ρ 1 u v) = ch ρ 1 u v - ch ρ 0 v u
      omega
  rw [ee]
  unfold ch
  rw [show 1 - (1 - f) = f by omega]
  by_cases c1 : 0 < tf ρ f 4 <;> by_cases c2 : 0 < tf ρ (1 - f) 4 <;> simp only [c1, c2, if_true, if_false, decide_true, decide_false] <;> rfl
/-- the two sides at the next level -/
theorem a_step1 (d : Nat) (hd : 1 < d) (hf : WF ρ) (h : AheadAt A E ρ l) (l0 : 0 ≤ l) (l1 : l < 8) (ht : t = 0 ∨ t = 1) (hx : -2147483648 ≤ onT t x y) (hx' : onT t x y < 2147483648) :
    ∃ A', D_Side_follow d (MM A E) (sP t (l + 1)) (sP t l) (iI (onT t x y)) = some (.inl none, MM A' E) ∧ SideAt A' (sP t (l + 1)) (tn ρ x y) t ∧ ∀ p, p < sP t (l + 1) ∨ sP t (l + 1) + 3 < p → A' p = A p :=
  s_follow d hd (SD_P ht (by omega)) ht (WF_t hf ht) (SD_P ht (by omega)) (by rw [sP_v ht, sP_v ht]; omega) hx hx' (Ah_T h ht) (Ah_S h ht)
end AHp
