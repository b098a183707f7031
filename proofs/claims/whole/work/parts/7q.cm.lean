/-! ===== the model's constructor (printed by mk7q.py) ===== -/
section CM
variable {w : Wd} {O : UInt32 → Nat → Int32} {L : UInt32 → Nat} {g : Gt} {A : Am} {s : Nat}
def wMd (w : Wd) (a0 : Nat) : Wd := (oP a0 40 (w.1.length + 17) (oAl 101 120 (oP a0 37 (w.1.length + 16) (oAl 100 2 (oP a0 33 (w.1.length + 15) (oAl 100 11 (oP a0 32 (w.1.length + 14) (oAl 100 671 (oP a0 30 (w.1.length + 13) (oAl 100 16 (oP a0 29 (w.1.length + 12) (oAl 100 16 (oP a0 28 (w.1.length + 11) (oAl 100 16 (oP a0 27 (w.1.length + 10) (oAl 100 4 (oP a0 26 (w.1.length + 9) (oAl 100 4 (oP a0 23 (w.1.length + 8) (oAl 100 8 (oP a0 22 (w.1.length + 7) (oAl 100 8 (oP a0 21 (w.1.length + 6) (oAl 100 8 (oI a0 ((17 : Nat) : Int) (-1) (oP a0 7 (w.1.length + 5) (oAl 101 500 (oP a0 4 (w.1.length + 4) (oAl 100 89 (oP a0 3 (w.1.length + 3) (oAl 100 1424 (oP a0 2 (w.1.length + 2) (oAl 100 89 (oP a0 1 (w.1.length + 1) (oAl 100 890 w)))))))))))))))))))))))))))))))))))
theorem i_Md0 (d : Nat) (hd : 0 < d) (a0 : Nat) (h0 : 0 < a0) (h1 : a0 ≤ w.1.length) (hk : kd w.1 a0 = 13) : D_Md_init d (TW w O L) a0 = am_cV (D_Md_clears (d - 1) (TW (wMd w a0) O L) a0) (fun h1 => L_Md_init_152 d h1 a0 0) am_xT := by
  have b0 : Nat.blt 0 d = true := Nat.blt_eq.mpr hd
  have b1 : Nat.blt 0 a0 = true := Nat.blt_eq.mpr h0
  rw [eD_Md_init]
  simp (disch := (first | omega | (simp only [ln_A, ln_P, ln_I, ln_2]; omega))) only [b0, b1, hk, kd_2, al_TW, wP_TW, wI_p1, wI_m1, wI_0, wI_150, A2_TW, is_TW, sz_TW, P_TW, n_TW, x_TW, ok_TW, ln_A, ln_P, ln_I, ln_2, kd_A, zz_A, gP_A, kd_P, zz_P, gP_P, kd_I, zz_I, gP_I, if_neg, if_pos, decide_true, bq_0, nr_m1, nr_150, nr_00, nr_01, in_06, reduceIte, and_self, Bool.not_false, Bool.and_self, cond_true, tN_0, ng_0, bk_0, bh_0, tN_1, ng_1, bk_1, bh_1, tN_2, ng_2, bk_2, bh_2, tN_4, ng_4, bk_4, bh_4, tN_6, ng_6, bk_6, bh_6, tN_8, ng_8, bk_8, bh_8, tN_9, ng_9, bk_9, bh_9, tN_11, ng_11, bk_11, bh_11, tN_16, ng_16, bk_16, bh_16, tN_22, ng_22, bk_22, bh_22, tN_64, ng_64, bk_64, bh_64, tN_89, ng_89, bk_89, bh_89, tN_120, ng_120, bk_120, bh_120, tN_500, ng_500, bk_500, bh_500, tN_671, ng_671, bk_671, bh_671, tN_890, ng_890, bk_890, bh_890, tN_1424, ng_1424, bk_1424]
  rfl
def MdF (g : Gt) : Prop := kd g 161 = 13 ∧ gP g 161 1 = 162 ∧ gP g 161 2 = 163 ∧ kd g 162 = 100 ∧ zz g 162 = 890 ∧ kd g 163 = 100 ∧ zz g 163 = 89
theorem I_TA {a : Int} (p : Nat) (h0 : 0 ≤ a) (h1 : a < 2147483648) : mm_I (TW (g, A, s) O L) p (Int32.toNatClampNeg (iI a)) = iI (A p a) := by
  show iI (A p ((Int32.toNatClampNeg (iI a) : Nat) : Int)) = _
  rw [iI_cl h0 h1, Int.toNat_of_nonneg h0]
theorem w_TA {a : Int} (p : Nat) (v : Int) (h0 : 0 ≤ a) (h1 : a < 2147483648) : mm_wI (TW (g, A, s) O L) p (Int32.toNatClampNeg (iI a)) (iI v) = TW (g, uA A p a v, s) O L := by
  rw [wI_TW, iI_cl h0 h1, Int.toNat_of_nonneg h0]
  rfl
theorem w_T6 (p : Nat) (v : Int) : mm_wI (TW (g, A, s) O L) p 6 (iI v) = TW (g, uA A p 6 v, s) O L := wI_TW p 6 v
theorem n_clearsL (d : Nat) (hg : MdF g) : ∀ (m : Nat) (i : Int) (A : Am), (m : Int) + i = 89 → 0 ≤ i → (∀ j, 0 ≤ j → j < i → A 163 j = 0) → ∃ A', L_Md_clears_2 d (TW (g, A, s) O L) 161 (iI i) = some (.inl none, TW (g, A', s) O L) ∧ RFw A' rwC ∧ ∀ p, p ≠ 163 → A' p = A p := by
  obtain ⟨f1, f2, f3, f4, f5, f6, f7⟩ := hg
  intro m
  induction m with
  | zero =>
    intro i A hm i0 hk
    refine ⟨uA (uA (uA A 163 2 150) 163 9 (-1)) 163 52 (-1), ?_, fun j j0 j1 => ?_, fun p hp => by rw [uA_P hp, uA_P hp, uA_P hp]⟩
    · rw [eL_Md_clears_2]
      simp (disch := omega) only [cond_true, cond_false, Bool.and_self, Bool.and_true, Bool.true_and, Bool.and_false, Bool.false_and, Bool.not_true, Bool.not_false, Bool.or_true, Bool.true_or, Bool.or_false, Bool.false_or, cond_dec, cI_ok, cR_ok, cV_ok, cJ_ok, bo_nr, bo_0, bo_i0, nr_0, nr_10, nr_11, nr_i0, nr_i1, bl_0, iI_add, iI_sub, iI_mul, iI_neg, qlt, qeq, qmax, qmin, qdiv, qrem, qn0, qin, li_m1000000, li_m8, li_m5, li_m1, li_0, li_1, li_2, li_3, li_4, li_5, li_6, li_7, li_8, li_9, li_10, li_11, li_12, li_13, li_14, li_15, li_16, li_17, li_18, li_19, li_20, li_21, li_22, li_23, li_24, li_25, li_26, li_27, li_28, li_29, li_30, li_31, li_32, li_42, li_43, li_46, li_47, li_48, li_49, li_52, li_57, li_59, li_60, li_64, li_89, li_94, li_97, li_99, li_100, li_108, li_112, li_120, li_122, li_150, li_255, li_300, li_450, li_500, li_671, li_890, li_1000, li_1001, li_1002, li_1003, li_1424, li_12345, li_32767, li_500000, li_1000000, li_1103515245, Int.reduceEq, Int.reduceLT, Int.reduceLE, reduceIte, Int.reduceAdd, Int.reduceSub, Int.reduceMul, Nat.reduceAdd, Nat.reduceMul, is_TW, sz_TW, P_TW, f1, f2, f3, f4, f5, f6, f7, decide_true, w_TA]
      rw [if_neg (by omega)]
    · unfold rwC
      by_cases c1 : j = 2
      · subst c1; rw [uA_k _ (by decide), uA_k _ (by decide), uA_eq, if_pos rfl]
      · rw [if_neg c1]
        by_cases c2 : j = 9
        · subst c2; rw [uA_k _ (by decide), uA_eq, if_pos (.inl rfl)]
        · by_cases c3 : j = 52
          · subst c3; rw [uA_eq, if_pos (.inr rfl)]
          · rw [uA_k _ c3, uA_k _ c2, uA_k _ c1, if_neg (by omega)]
            exact hk j j0 (by omega)
  | succ m ih =>
    intro i A hm i0 hk
    obtain ⟨A', x1, x2, x3⟩ := ih (i + 1) (uA A 163 i 0) (by omega) (by omega) (fun j j0 j1 => by
      by_cases c : j = i
      · subst c; exact uA_eq _ _ _
      · rw [uA_k _ c]; exact hk j j0 (by omega))
    refine ⟨A', ?_, x2, fun p hp => by rw [x3 p hp, uA_P hp]⟩
    rw [eL_Md_clears_2]
    simp (disch := omega) only [cond_true, cond_false, Bool.and_self, Bool.and_true, Bool.true_and, Bool.and_false, Bool.false_and, Bool.not_true, Bool.not_false, Bool.or_true, Bool.true_or, Bool.or_false, Bool.false_or, cond_dec, cI_ok, cR_ok, cV_ok, cJ_ok, bo_nr, bo_0, bo_i0, nr_0, nr_10, nr_11, nr_i0, nr_i1, bl_0, iI_add, iI_sub, iI_mul, iI_neg, qlt, qeq, qmax, qmin, qdiv, qrem, qn0, qin, li_m1000000, li_m8, li_m5, li_m1, li_0, li_1, li_2, li_3, li_4, li_5, li_6, li_7, li_8, li_9, li_10, li_11, li_12, li_13, li_14, li_15, li_16, li_17, li_18, li_19, li_20, li_21, li_22, li_23, li_24, li_25, li_26, li_27, li_28, li_29, li_30, li_31, li_32, li_42, li_43, li_46, li_47, li_48, li_49, li_52, li_57, li_59, li_60, li_64, li_89, li_94, li_97, li_99, li_100, li_108, li_112, li_120, li_122, li_150, li_255, li_300, li_450, li_500, li_671, li_890, li_1000, li_1001, li_1002, li_1003, li_1424, li_12345, li_32767, li_500000, li_1000000, li_1103515245, Int.reduceEq, Int.reduceLT, Int.reduceLE, reduceIte, Int.reduceAdd, Int.reduceSub, Int.reduceMul, Nat.reduceAdd, Nat.reduceMul, is_TW, sz_TW, P_TW, f1, f2, f3, f4, f5, f6, f7, decide_true, w_TA, x1]
    rw [if_pos (by omega)]
theorem n_takesL (d : Nat) (hg : MdF g) {ρ : Rw} (hr : RFw A ρ) : ∀ (m : Nat) (i : Int) (B : Am), (m : Int) + i = 89 → 0 ≤ i → B 163 = A 163 → (∀ j, 0 ≤ j → j < i → B 162 j = ρ j) → ∃ B', L_Md_takesRead_2 d (TW (g, B, s) O L) 161 (iI i) = some (.inl none, TW (g, B', s) O L) ∧ RowAt B' 0 ρ ∧ B' 161 6 = 0 ∧ (∀ j, j ≠ 6 → B' 161 j = B 161 j) ∧ ∀ p, p ≠ 161 → p ≠ 162 → B' p = B p := by
  obtain ⟨f1, f2, f3, f4, f5, f6, f7⟩ := hg
  intro m
  induction m with
  | zero =>
    intro i B hm i0 hB hk
    refine ⟨uA B 161 6 0, ?_, fun j j0 j1 => ?_, uA_eq _ _ _, fun j hj => uA_k _ hj, fun p a _ => uA_P a⟩
    · rw [eL_Md_takesRead_2]
      simp (disch := omega) only [cond_true, cond_false, Bool.and_self, Bool.and_true, Bool.true_and, Bool.and_false, Bool.false_and, Bool.not_true, Bool.not_false, Bool.or_true, Bool.true_or, Bool.or_false, Bool.false_or, cond_dec, cI_ok, cR_ok, cV_ok, cJ_ok, bo_nr, bo_0, bo_i0, nr_0, nr_10, nr_11, nr_i0, nr_i1, bl_0, iI_add, iI_sub, iI_mul, iI_neg, qlt, qeq, qmax, qmin, qdiv, qrem, qn0, qin, li_m1000000, li_m8, li_m5, li_m1, li_0, li_1, li_2, li_3, li_4, li_5, li_6, li_7, li_8, li_9, li_10, li_11, li_12, li_13, li_14, li_15, li_16, li_17, li_18, li_19, li_20, li_21, li_22, li_23, li_24, li_25, li_26, li_27, li_28, li_29, li_30, li_31, li_32, li_42, li_43, li_46, li_47, li_48, li_49, li_52, li_57, li_59, li_60, li_64, li_89, li_94, li_97, li_99, li_100, li_108, li_112, li_120, li_122, li_150, li_255, li_300, li_450, li_500, li_671, li_890, li_1000, li_1001, li_1002, li_1003, li_1424, li_12345, li_32767, li_500000, li_1000000, li_1103515245, Int.reduceEq, Int.reduceLT, Int.reduceLE, reduceIte, Int.reduceAdd, Int.reduceSub, Int.reduceMul, Nat.reduceAdd, Nat.reduceMul, is_TW, sz_TW, P_TW, f1, f2, f3, f4, f5, f6, f7, decide_true, w_T6]
      rw [if_neg (by omega)]
    · rw [uA_p _ _ _ (by decide), show (89 : Int) * 0 + j = j by omega]
      exact hk j j0 (by omega)
  | succ m ih =>
    intro i B hm i0 hB hk
    have q := hr i i0 (by omega)
    rw [← hB] at q
    obtain ⟨B', x1, x2, x3, x4, x5⟩ := ih (i + 1) (uA B 162 i (ρ i)) (by omega) (by omega) (by rw [uA_P (by decide)]; exact hB) (fun j j0 j1 => by
      by_cases c : j = i
      · subst c; exact uA_eq _ _ _
      · rw [uA_k _ c]; exact hk j j0 (by omega))
    refine ⟨B', ?_, x2, x3, fun j hj => by rw [x4 j hj, uA_p _ _ _ (by decide)], fun p a c => by rw [x5 p a c, uA_P c]⟩
    rw [eL_Md_takesRead_2]
    simp (disch := omega) only [cond_true, cond_false, Bool.and_self, Bool.and_true, Bool.true_and, Bool.and_false, Bool.false_and, Bool.not_true, Bool.not_false, Bool.or_true, Bool.true_or, Bool.or_false, Bool.false_or, cond_dec, cI_ok, cR_ok, cV_ok, cJ_ok, bo_nr, bo_0, bo_i0, nr_0, nr_10, nr_11, nr_i0, nr_i1, bl_0, iI_add, iI_sub, iI_mul, iI_neg, qlt, qeq, qmax, qmin, qdiv, qrem, qn0, qin, li_m1000000, li_m8, li_m5, li_m1, li_0, li_1, li_2, li_3, li_4, li_5, li_6, li_7, li_8, li_9, li_10, li_11, li_12, li_13, li_14, li_15, li_16, li_17, li_18, li_19, li_20, li_21, li_22, li_23, li_24, li_25, li_26, li_27, li_28, li_29, li_30, li_31, li_32, li_42, li_43, li_46, li_47, li_48, li_49, li_52, li_57, li_59, li_60, li_64, li_89, li_94, li_97, li_99, li_100, li_108, li_112, li_120, li_122, li_150, li_255, li_300, li_450, li_500, li_671, li_890, li_1000, li_1001, li_1002, li_1003, li_1424, li_12345, li_32767, li_500000, li_1000000, li_1103515245, Int.reduceEq, Int.reduceLT, Int.reduceLE, reduceIte, Int.reduceAdd, Int.reduceSub, Int.reduceMul, Nat.reduceAdd, Nat.reduceMul, is_TW, sz_TW, P_TW, f1, f2, f3, f4, f5, f6, f7, decide_true, w_TA, I_TA, q, x1]
    rw [if_pos (by omega)]
/-- the row of a new object -/
def row0 : Rw := fun j => if j = 3 ∨ j = 46 ∨ (12 ≤ j ∧ j ≤ 15) ∨ (55 ≤ j ∧ j ≤ 58) then 1 else rwC j
theorem n_171 (d : Nat) (hg : MdF g) {t : Int} (ht : t = 0 ∨ t = 1) (A : Am) : L_Md_init_171 d (TW (g, A, s) O L) 161 (iI t) (iI 2) = L_Md_init_152 d (TW (g, uA (uA (uA (uA A 163 (3 + 43 * t + 7 + 2) 1) 163 (3 + 43 * t + 7 + 3) 1) 163 (3 + 43 * t + 7 + 4) 1) 163 (3 + 43 * t + 7 + 5) 1, s) O L) 161 (iI (t + 1)) := by
  obtain ⟨f1, f2, f3, f4, f5, f6, f7⟩ := hg
  rw [eL_Md_init_171]
  simp (disch := omega) only [cond_true, cond_false, Bool.and_self, Bool.and_true, Bool.true_and, Bool.and_false, Bool.false_and, Bool.not_true, Bool.not_false, Bool.or_true, Bool.true_or, Bool.or_false, Bool.false_or, cond_dec, cI_ok, cR_ok, cV_ok, cJ_ok, bo_nr, bo_0, bo_i0, nr_0, nr_10, nr_11, nr_i0, nr_i1, bl_0, iI_add, iI_sub, iI_mul, iI_neg, qlt, qeq, qmax, qmin, qdiv, qrem, qn0, qin, li_m1000000, li_m8, li_m5, li_m1, li_0, li_1, li_2, li_3, li_4, li_5, li_6, li_7, li_8, li_9, li_10, li_11, li_12, li_13, li_14, li_15, li_16, li_17, li_18, li_19, li_20, li_21, li_22, li_23, li_24, li_25, li_26, li_27, li_28, li_29, li_30, li_31, li_32, li_42, li_43, li_46, li_47, li_48, li_49, li_52, li_57, li_59, li_60, li_64, li_89, li_94, li_97, li_99, li_100, li_108, li_112, li_120, li_122, li_150, li_255, li_300, li_450, li_500, li_671, li_890, li_1000, li_1001, li_1002, li_1003, li_1424, li_12345, li_32767, li_500000, li_1000000, li_1103515245, Int.reduceEq, Int.reduceLT, Int.reduceLE, reduceIte, Int.reduceAdd, Int.reduceSub, Int.reduceMul, Nat.reduceAdd, Nat.reduceMul, is_TW, sz_TW, P_TW, f1, f2, f3, f4, f5, f6, f7, decide_true, decide_false, w_TA, Int.reduceAdd]
  rw [eL_Md_init_171]
  simp (disch := omega) only [cond_true, cond_false, Bool.and_self, Bool.and_true, Bool.true_and, Bool.and_false, Bool.false_and, Bool.not_true, Bool.not_false, Bool.or_true, Bool.true_or, Bool.or_false, Bool.false_or, cond_dec, cI_ok, cR_ok, cV_ok, cJ_ok, bo_nr, bo_0, bo_i0, nr_0, nr_10, nr_11, nr_i0, nr_i1, bl_0, iI_add, iI_sub, iI_mul, iI_neg, qlt, qeq, qmax, qmin, qdiv, qrem, qn0, qin, li_m1000000, li_m8, li_m5, li_m1, li_0, li_1, li_2, li_3, li_4, li_5, li_6, li_7, li_8, li_9, li_10, li_11, li_12, li_13, li_14, li_15, li_16, li_17, li_18, li_19, li_20, li_21, li_22, li_23, li_24, li_25, li_26, li_27, li_28, li_29, li_30, li_31, li_32, li_42, li_43, li_46, li_47, li_48, li_49, li_52, li_57, li_59, li_60, li_64, li_89, li_94, li_97, li_99, li_100, li_108, li_112, li_120, li_122, li_150, li_255, li_300, li_450, li_500, li_671, li_890, li_1000, li_1001, li_1002, li_1003, li_1424, li_12345, li_32767, li_500000, li_1000000, li_1103515245, Int.reduceEq, Int.reduceLT, Int.reduceLE, reduceIte, Int.reduceAdd, Int.reduceSub, Int.reduceMul, Nat.reduceAdd, Nat.reduceMul, is_TW, sz_TW, P_TW, f1, f2, f3, f4, f5, f6, f7, decide_true, decide_false, w_TA, Int.reduceAdd]
  rw [eL_Md_init_171]
  simp (disch := omega) only [cond_true, cond_false, Bool.and_self, Bool.and_true, Bool.true_and, Bool.and_false, Bool.false_and, Bool.not_true, Bool.not_false, Bool.or_true, Bool.true_or, Bool.or_false, Bool.false_or, cond_dec, cI_ok, cR_ok, cV_ok, cJ_ok, bo_nr, bo_0, bo_i0, nr_0, nr_10, nr_11, nr_i0, nr_i1, bl_0, iI_add, iI_sub, iI_mul, iI_neg, qlt, qeq, qmax, qmin, qdiv, qrem, qn0, qin, li_m1000000, li_m8, li_m5, li_m1, li_0, li_1, li_2, li_3, li_4, li_5, li_6, li_7, li_8, li_9, li_10, li_11, li_12, li_13, li_14, li_15, li_16, li_17, li_18, li_19, li_20, li_21, li_22, li_23, li_24, li_25, li_26, li_27, li_28, li_29, li_30, li_31, li_32, li_42, li_43, li_46, li_47, li_48, li_49, li_52, li_57, li_59, li_60, li_64, li_89, li_94, li_97, li_99, li_100, li_108, li_112, li_120, li_122, li_150, li_255, li_300, li_450, li_500, li_671, li_890, li_1000, li_1001, li_1002, li_1003, li_1424, li_12345, li_32767, li_500000, li_1000000, li_1103515245, Int.reduceEq, Int.reduceLT, Int.reduceLE, reduceIte, Int.reduceAdd, Int.reduceSub, Int.reduceMul, Nat.reduceAdd, Nat.reduceMul, is_TW, sz_TW, P_TW, f1, f2, f3, f4, f5, f6, f7, decide_true, decide_false, w_TA, Int.reduceAdd]
  rw [eL_Md_init_171]
  simp (disch := omega) only [cond_true, cond_false, Bool.and_self, Bool.and_true, Bool.true_and, Bool.and_false, Bool.false_and, Bool.not_true, Bool.not_false, Bool.or_true, Bool.true_or, Bool.or_false, Bool.false_or, cond_dec, cI_ok, cR_ok, cV_ok, cJ_ok, bo_nr, bo_0, bo_i0, nr_0, nr_10, nr_11, nr_i0, nr_i1, bl_0, iI_add, iI_sub, iI_mul, iI_neg, qlt, qeq, qmax, qmin, qdiv, qrem, qn0, qin, li_m1000000, li_m8, li_m5, li_m1, li_0, li_1, li_2, li_3, li_4, li_5, li_6, li_7, li_8, li_9, li_10, li_11, li_12, li_13, li_14, li_15, li_16, li_17, li_18, li_19, li_20, li_21, li_22, li_23, li_24, li_25, li_26, li_27, li_28, li_29, li_30, li_31, li_32, li_42, li_43, li_46, li_47, li_48, li_49, li_52, li_57, li_59, li_60, li_64, li_89, li_94, li_97, li_99, li_100, li_108, li_112, li_120, li_122, li_150, li_255, li_300, li_450, li_500, li_671, li_890, li_1000, li_1001, li_1002, li_1003, li_1424, li_12345, li_32767, li_500000, li_1000000, li_1103515245, Int.reduceEq, Int.reduceLT, Int.reduceLE, reduceIte, Int.reduceAdd, Int.reduceSub, Int.reduceMul, Nat.reduceAdd, Nat.reduceMul, is_TW, sz_TW, P_TW, f1, f2, f3, f4, f5, f6, f7, decide_true, decide_false, w_TA, Int.reduceAdd]
  rw [eL_Md_init_171]
  simp (disch := omega) only [cond_true, cond_false, Bool.and_self, Bool.and_true, Bool.true_and, Bool.and_false, Bool.false_and, Bool.not_true, Bool.not_false, Bool.or_true, Bool.true_or, Bool.or_false, Bool.false_or, cond_dec, cI_ok, cR_ok, cV_ok, cJ_ok, bo_nr, bo_0, bo_i0, nr_0, nr_10, nr_11, nr_i0, nr_i1, bl_0, iI_add, iI_sub, iI_mul, iI_neg, qlt, qeq, qmax, qmin, qdiv, qrem, qn0, qin, li_m1000000, li_m8, li_m5, li_m1, li_0, li_1, li_2, li_3, li_4, li_5, li_6, li_7, li_8, li_9, li_10, li_11, li_12, li_13, li_14, li_15, li_16, li_17, li_18, li_19, li_20, li_21, li_22, li_23, li_24, li_25, li_26, li_27, li_28, li_29, li_30, li_31, li_32, li_42, li_43, li_46, li_47, li_48, li_49, li_52, li_57, li_59, li_60, li_64, li_89, li_94, li_97, li_99, li_100, li_108, li_112, li_120, li_122, li_150, li_255, li_300, li_450, li_500, li_671, li_890, li_1000, li_1001, li_1002, li_1003, li_1424, li_12345, li_32767, li_500000, li_1000000, li_1103515245, Int.reduceEq, Int.reduceLT, Int.reduceLE, reduceIte, Int.reduceAdd, Int.reduceSub, Int.reduceMul, Nat.reduceAdd, Nat.reduceMul, is_TW, sz_TW, P_TW, f1, f2, f3, f4, f5, f6, f7, decide_true, decide_false, w_TA, Int.reduceAdd]
theorem n_152 (d : Nat) (hg : MdF g) {t : Int} (ht : t = 0 ∨ t = 1) (A : Am) : L_Md_init_152 d (TW (g, A, s) O L) 161 (iI t) = L_Md_init_152 d (TW (g, uA (uA (uA (uA (uA A 163 (3 + 43 * t) 1) 163 (3 + 43 * t + 7 + 2) 1) 163 (3 + 43 * t + 7 + 3) 1) 163 (3 + 43 * t + 7 + 4) 1) 163 (3 + 43 * t + 7 + 5) 1, s) O L) 161 (iI (t + 1)) := by
  rw [← n_171 d hg ht]
  obtain ⟨f1, f2, f3, f4, f5, f6, f7⟩ := hg
  have q : t < 2 := by omega
  rw [eL_Md_init_152]
  simp (disch := omega) only [cond_true, cond_false, Bool.and_self, Bool.and_true, Bool.true_and, Bool.and_false, Bool.false_and, Bool.not_true, Bool.not_false, Bool.or_true, Bool.true_or, Bool.or_false, Bool.false_or, cond_dec, cI_ok, cR_ok, cV_ok, cJ_ok, bo_nr, bo_0, bo_i0, nr_0, nr_10, nr_11, nr_i0, nr_i1, bl_0, iI_add, iI_sub, iI_mul, iI_neg, qlt, qeq, qmax, qmin, qdiv, qrem, qn0, qin, li_m1000000, li_m8, li_m5, li_m1, li_0, li_1, li_2, li_3, li_4, li_5, li_6, li_7, li_8, li_9, li_10, li_11, li_12, li_13, li_14, li_15, li_16, li_17, li_18, li_19, li_20, li_21, li_22, li_23, li_24, li_25, li_26, li_27, li_28, li_29, li_30, li_31, li_32, li_42, li_43, li_46, li_47, li_48, li_49, li_52, li_57, li_59, li_60, li_64, li_89, li_94, li_97, li_99, li_100, li_108, li_112, li_120, li_122, li_150, li_255, li_300, li_450, li_500, li_671, li_890, li_1000, li_1001, li_1002, li_1003, li_1424, li_12345, li_32767, li_500000, li_1000000, li_1103515245, Int.reduceEq, Int.reduceLT, Int.reduceLE, reduceIte, Int.reduceAdd, Int.reduceSub, Int.reduceMul, Nat.reduceAdd, Nat.reduceMul, is_TW, sz_TW, P_TW, f1, f2, f3, f4, f5, f6, f7, decide_true, decide_false, w_TA, q]
theorem i_Md1 (d : Nat) (hd : 0 < d) (hg : MdF g) (A : Am) : ∃ A', am_cV (D_Md_clears (d - 1) (TW (g, A, s) O L) 161) (fun h1 => L_Md_init_152 d h1 161 0) am_xT = some (.inl none, TW (g, A', s) O L) ∧ RowAt A' 0 row0 ∧ A' 161 6 = 0 ∧ (∀ j, j ≠ 6 → A' 161 j = A 161 j) ∧ ∀ p, p ≠ 161 → p ≠ 162 → p ≠ 163 → A' p = A p := by
  have b0 : Nat.blt 0 d = true := Nat.blt_eq.mpr hd
  obtain ⟨A1, x1, x2, x3⟩ := n_clearsL (O := O) (L := L) (s := s) (d - 1) hg 89 0 A (by decide) (by decide) (fun j a e => by omega)
  have s0 := n_152 (O := O) (L := L) (s := s) d hg (t := 0) (.inl rfl) A1
  have s1 := n_152 (O := O) (L := L) (s := s) d hg (t := 1) (.inr rfl) (uA (uA (uA (uA (uA A1 163 (3 + 43 * 0) 1) 163 (3 + 43 * 0 + 7 + 2) 1) 163 (3 + 43 * 0 + 7 + 3) 1) 163 (3 + 43 * 0 + 7 + 4) 1) 163 (3 + 43 * 0 + 7 + 5) 1)
  obtain ⟨B, hB⟩ : ∃ B, B = uA (uA (uA (uA (uA (uA (uA (uA (uA (uA A1 163 (3 + 43 * 0) 1) 163 (3 + 43 * 0 + 7 + 2) 1) 163 (3 + 43 * 0 + 7 + 3) 1) 163 (3 + 43 * 0 + 7 + 4) 1) 163 (3 + 43 * 0 + 7 + 5) 1) 163 (3 + 43 * 1) 1) 163 (3 + 43 * 1 + 7 + 2) 1) 163 (3 + 43 * 1 + 7 + 3) 1) 163 (3 + 43 * 1 + 7 + 4) 1) 163 (3 + 43 * 1 + 7 + 5) 1 := ⟨_, rfl⟩
  rw [← hB] at s1
  have rB : RFw B row0 := by
    intro j j0 j1
    have := x2 j j0 j1
    rw [hB]
    simp only [uA, true_and]
    unfold row0
    repeat' split
    all_goals first | rfl | omega | exact this
  have oB : ∀ p, p ≠ 163 → B p = A1 p := by
    intro p hp
    rw [hB]
    simp only [uA_P hp]
  obtain ⟨A2, y1, y2, y3, y4, y5⟩ := n_takesL (O := O) (L := L) (s := s) (d - 1) hg rB 89 0 B (by decide) (by decide) rfl (fun j a e => by omega)
  obtain ⟨f1, f2, f3, f4, f5, f6, f7⟩ := hg
  refine ⟨A2, ?_, y2, y3, fun j hj => by rw [y4 j hj, oB 161 (by decide), x3 161 (by decide)], fun p a b c => by rw [y5 p a b, oB p c, x3 p c]⟩
  have l2 : mm_lt (iI (1 + 1)) 2 = false := by decide
  rw [eD_Md_clears, li_0, x1, cV_ok, s0, show iI (0 + 1) = iI 1 from rfl, s1, eL_Md_init_152]
  simp only [l2, cond_false, is_TW, f1, b0, decide_true, Bool.and_self, cond_true, eD_Md_takesRead, li_0, y1, cV_ok]
end CM
