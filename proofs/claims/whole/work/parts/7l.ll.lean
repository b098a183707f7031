/-! ===== the law: its loop ===== -/
section LL
variable {A : Am} {E : En} {S : St}
theorem NX_c {d : Nat} {b : Bool} {X Y : Option am_R} {i : Int} (h1 : NX d X E i) (h2 : NX d Y E i) : NX d (cond b X Y) E i := by
  cases b
  · exact h2
  · exact h1
theorem law_257n (d : Nat) (hd : 70 < d) (hE : SE E) (hs : WS S) (hc : CI A S) (hm : MI A S) {i : Int} (i0 : 0 ≤ i) (hL : i + 6 < (eL E 0 : Int)) (l1 : eL E 0 < 1000000) : NX d (L_Law_law_257 d (MM A E) 0 1 161 179 (iI i)) E i := by
  obtain ⟨n, h1, a1, b1⟩ := sc_ex E (i + 1).toNat
  obtain ⟨A', E', x1, x2, x3, x4, x5⟩ := law_257 d (by omega) hE hs hc hm i0 hL l1 h1 a1 b1
  exact ⟨_, A', E', x1, x2, x3, x4, x5⟩
theorem law_sw (d : Nat) (hd : 70 < d) (hE : SE E) (hs : WS S) (hc : CI A S) (hm : MI A S) {i : Int} (i0 : 0 ≤ i) (hL : i + 6 < (eL E 0 : Int)) (l1 : eL E 0 < 1000000) : NX d (L_Law_law_23 d (MM A E) 0 1 161 179 (iI i)) E i := by
  have q0 : (od_i 0 || od_b 0) = true := by decide
  have q1 : mm_lt ((Int32.ofNat (mm_L (MM A E) 0)) - 7) (iI i) = false := by
    have e : Int32.ofNat (mm_L (MM A E) 0) = iI ((eL E 0 : Nat) : Int) := (Int32.ofInt_eq_ofNat).symm
    rw [e, li_7, iI_sub, qlt (by omega) (by omega) (by omega) (by omega)]
    exact decide_eq_false (by omega)
  have q2 : (od_i 0 && mm_in (iI i) (mm_L (MM A E) 0)) = true := by
    rw [L_MM]
    simp (disch := omega) only [cond_true, cond_false, Bool.and_self, Bool.and_true, Bool.true_and, Bool.and_false, Bool.false_and, Bool.not_true, Bool.not_false, Bool.or_true, Bool.true_or, Bool.or_false, Bool.false_or, cond_dec, cI_ok, cR_ok, cV_ok, cJ_ok, bo_nr, bo_0, bo_i0, nr_0, nr_10, nr_11, nr_i0, nr_i1, bl_0, iI_add, iI_sub, iI_mul, iI_neg, qlt, qeq, qmax, qmin, qdiv, qrem, qn0, qin, I_0, w_0, I_1, w_1, I_2, w_2, I_3, w_3, I_4, w_4, I_5, w_5, I_6, w_6, I_7, w_7, I_8, w_8, I_9, w_9, I_10, w_10, I_11, w_11, I_12, w_12, I_13, w_13, I_14, w_14, I_15, w_15, I_16, w_16, I_17, w_17, I_18, w_18, I_19, w_19, I_20, w_20, I_21, w_21, I_22, w_22, I_23, w_23, I_24, w_24, I_25, w_25, I_26, w_26, I_27, w_27, I_28, w_28, I_29, w_29, I_30, w_30, I_31, w_31, I_32, w_32, I_33, w_33, I_34, w_34, I_35, w_35, I_36, w_36, I_37, w_37, I_38, w_38, I_39, w_39, I_40, w_40, I_41, w_41, I_at, w_at, th_MM, J_MM, wJ_MM, P_F, P_G, fA_in, fA_k, fA_p, fA_P, uA_P, cA_P, uA_eq, uA_k, uA_p, cA_in, cA_k, cA_p, cp_at, cp_le, qlt0, nr_ib, Nat.not_lt_zero, decide_false, ki_1, kp_1_0, kp_1_1, kp_1_2, kp_1_3, kp_1_4, kp_1_5, kp_1_6, kp_1_7, kp_1_8, kp_1_9, kp_1_10, ki_2, kp_2_0, kp_2_1, ki_17, kp_17_0, kp_17_1, ki_32, kp_32_0, kp_32_3, ki_33, kp_33_0, kp_33_1, ki_48, kz_48, ki_49, kp_49_0, ki_50, kz_50, krr_50, ki_67, kp_67_0, kp_67_1, kp_67_2, kp_67_3, kp_67_4, ki_68, kz_68, krr_68, ki_69, kz_69, krr_69, ki_70, kz_70, ki_71, kz_71, ki_144, kp_144_0, kp_144_1, kp_144_2, kp_144_3, kp_144_4, ki_145, kz_145, ki_146, kz_146, ki_147, kz_147, ki_148, kz_148, ki_149, kp_149_0, kp_149_1, kp_149_2, ki_150, kz_150, ki_151, kz_151, ki_152, kp_152_0, kp_152_1, kp_152_2, ki_153, kz_153, ki_154, kz_154, ki_155, kz_155, ki_156, kp_156_0, kp_156_1, kp_156_2, ki_157, kz_157, ki_158, kp_158_0, ki_159, kz_159, ki_160, kz_160, ki_161, kp_161_1, kp_161_2, kp_161_3, kp_161_4, kp_161_7, kp_161_21, kp_161_22, kp_161_23, kp_161_26, kp_161_27, kp_161_28, kp_161_29, kp_161_30, kp_161_32, kp_161_33, kp_161_37, kp_161_40, ki_162, kz_162, ki_163, kz_163, ki_164, kz_164, ki_165, kz_165, ki_166, kz_166, ki_167, kz_167, ki_168, kz_168, ki_169, kz_169, ki_170, kz_170, ki_171, kz_171, ki_172, kz_172, ki_173, kz_173, ki_174, kz_174, ki_175, kz_175, ki_176, kz_176, ki_177, kz_177, ki_178, kz_178, ki_179, kz_179, li_m1000000, li_m8, li_m5, li_m1, li_0, li_1, li_2, li_3, li_4, li_5, li_6, li_7, li_8, li_9, li_10, li_11, li_12, li_13, li_14, li_15, li_16, li_17, li_18, li_19, li_20, li_21, li_22, li_23, li_24, li_25, li_26, li_27, li_28, li_29, li_30, li_31, li_32, li_42, li_43, li_46, li_47, li_48, li_49, li_52, li_57, li_59, li_60, li_64, li_89, li_94, li_97, li_99, li_100, li_108, li_112, li_120, li_122, li_150, li_255, li_300, li_450, li_500, li_671, li_890, li_1000, li_1001, li_1002, li_1003, li_1424, li_12345, li_32767, li_500000, li_1000000, li_1103515245, Int.reduceEq, Int.reduceLT, Int.reduceLE, reduceIte, Int.reduceAdd, Int.reduceSub, Int.reduceMul, Nat.reduceAdd, Nat.reduceMul, od_0]
  rw [eL_Law_law_23, q0, q1, q2, cond_true, cond_false, cond_true]
  exact (NX_c (law_184 d hd hE hs hc hm i0 hL l1) (NX_c (law_257n d hd hE hs hc hm i0 hL l1) (NX_c (law_313 d hd hE hs hc hm i0 hL l1) (NX_c (law_326 d hd hE hs hc hm i0 hL l1) (NX_c (law_382 d hd hE hs hc hm i0 hL l1) (NX_c (law_450 d hd hE hs hc hm i0 hL l1) (NX_c (law_530 d hd hE hs hc hm i0 hL l1) (NX_c (law_610 d hd hE hs hc hm i0 hL l1) (NX_c (law_678 d hd hE hs hc hm i0 hL l1) (NX_c (law_746 d hd hE hs hc hm i0 hL l1) (NX_c (law_802 d hd hE hs hc hm i0 hL l1) (NX_c (law_858 d hd hE hs hc hm i0 hL l1) (NX_c (law_926 d hd hE hs hc hm i0 hL l1) (NX_c (law_1006 d hd hE hs hc hm i0 hL l1) (NX_c (law_1086 d hd hE hs hc hm i0 hL l1) (NX_c (law_1166 d hd hE hs hc hm i0 hL l1) (NX_c (law_1222 d hd hE hs hc hm i0 hL l1) (NX_c (law_1290 d hd hE hs hc hm i0 hL l1) (NX_c (law_1370 d hd hE hs hc hm i0 hL l1) (NX_c (law_1426 d hd hE hs hc hm i0 hL l1) (NX_c (law_1518 d hd hE hs hc hm i0 hL l1) (NX_c (law_1598 d hd hE hs hc hm i0 hL l1) (NX_c (law_1635 d hd hE hs hc hm i0 hL l1) (NX_c (law_1727 d hd hE hs hc hm i0 hL l1) (NX_c (law_1845 d hd hE hs hc hm i0 hL l1) (NX_c (law_1925 d hd hE hs hc hm i0 hL l1) (NX_c (law_1981 d hd hE hs hc hm i0 hL l1) (NX_c (law_2077 d hd hE hs hc hm i0 hL l1) (NX_c (law_2090 d hd hE hs hc hm i0 hL l1) (NX_c (law_2115 d hd hE hs hc hm i0 hL l1) (NX_c (law_2128 d hd hE hs hc hm i0 hL l1) (NX_c (law_2139 d hd hE hs hc hm i0 hL l1) ⟨S, A, E, rfl, hs, hc, hm, ⟨rfl, rfl, by omega, by omega⟩⟩))))))))))))))))))))))))))))))))
theorem law_st {d : Nat} {i : Int} (i0 : 0 ≤ i) (hL : (eL E 0 : Int) - 7 < i) (l1 : eL E 0 < 1000000) (i1 : i < 2000000) : L_Law_law_23 d (MM A E) 0 1 161 179 (iI i) = some (.inl (some (.int 1)), MM A E) := by
  have q0 : (od_i 0 || od_b 0) = true := by decide
  have q1 : mm_lt ((Int32.ofNat (mm_L (MM A E) 0)) - 7) (iI i) = true := by
    have e : Int32.ofNat (mm_L (MM A E) 0) = iI ((eL E 0 : Nat) : Int) := (Int32.ofInt_eq_ofNat).symm
    rw [e, li_7, iI_sub, qlt (by omega) (by omega) (by omega) (by omega)]
    exact decide_eq_true (by omega)
  rw [eL_Law_law_23, q0, q1, nr_11]
  rfl
theorem law_loop (d : Nat) (hd : 70 < d) : ∀ (n : Nat) (i : Int) (A : Am) (E : En) (S : St), SE E → WS S → CI A S → MI A S → 0 ≤ i → i < 1000007 → (eL E 0 : Int) - i ≤ 7 * n + 6 → eL E 0 < 1000000 →
    ∃ A' E', L_Law_law_23 d (MM A E) 0 1 161 179 (iI i) = some (.inl (some (.int 1)), MM A' E') ∧ eX E' ≤ eX E + n ∧ eS E' ≤ eS E + 6 * n
  | 0, i, A, E, S, _, _, _, _, i0, i1, hn, l1 => ⟨A, E, law_st i0 (by omega) l1 (by omega), by omega, by omega⟩
  | n + 1, i, A, E, S, hE, hs, hc, hm, i0, i1, hn, l1 => by
    by_cases c : (eL E 0 : Int) - 7 < i
    · exact ⟨A, E, law_st i0 c l1 (by omega), by omega, by omega⟩
    · obtain ⟨S1, A1, E1, x1, x2, x3, x4, x5⟩ := law_sw d hd hE hs hc hm i0 (by omega) l1
      have eL1 : eL E1 0 = eL E 0 := by rw [x5.2.1]
      obtain ⟨A2, E2, y1, y2, y3⟩ := law_loop d hd n (i + 7) A1 E1 S1 (SE_EE hE ⟨x5.1, x5.2.1⟩) x2 x3 x4 (by omega) (by omega) (by rw [eL1]; omega) (by rw [eL1]; exact l1)
      refine ⟨A2, E2, ?_, by have := x5.2.2.1; omega, by have := x5.2.2.2; omega⟩
      rw [x1, eL_Law_law_2152, li_7, iI_add]
      exact y1
end LL
