/-! ===== the tape is fed ===== -/
def by8 (v s : Int) : Int := (mm_byt (iI v >>> (iI s &&& iI 31))).toInt
def fbL (v : Int) : List Int := [by8 v 24] ++ ([by8 v 16] ++ ([by8 v 8] ++ [by8 v 0]))
def fdL (a b c e f : Int) : List Int := fbL a ++ (fbL b ++ (fbL c ++ (fbL e ++ fbL f)))
def spFeed (S : St) (a b c e f : Int) : (Int ⊕ Nat) × St := if sN S + 20 ≤ 500 then (.inl (sN S + 20), (sR S, sK S, (sN S + 20, fun i => if i < sN S then sB S i else (fdL a b c e f).getD (i - sN S).toNat 0), S.2.2.2)) else (.inl (-1), S)
theorem byt_rg (x : Int32) : -128 ≤ (mm_byt x).toInt ∧ (mm_byt x).toInt ≤ 127 := by
  unfold mm_byt
  rw [Int8.toInt_toInt32]
  have a := Int8.le_toInt x.toInt8
  have b := Int8.toInt_lt x.toInt8
  omega
theorem byt_id2 {v : Int} (h0 : -128 ≤ v) (h1 : v ≤ 127) : mm_byt (iI v) = iI v := by
  unfold mm_byt
  apply Int32.toInt_inj.mp
  rw [Int8.toInt_toInt32, Int32.toInt_toInt8, iI_toInt ⟨by omega, by omega⟩]
  exact Int.bmod_eq_of_le (by omega) (by omega)
theorem by8_rg (v s : Int) : -128 ≤ by8 v s ∧ by8 v s ≤ 127 := byt_rg _
theorem by8_w (v s : Int) : mm_byt (mm_byt (iI v >>> (iI s &&& iI 31))) = iI (by8 v s) := by
  have e : mm_byt (iI v >>> (iI s &&& iI 31)) = iI (by8 v s) := (iI_of _).symm
  rw [e]
  exact byt_id2 (by8_rg v s).1 (by8_rg v s).2
def bty (l : List Int) : Prop := ∀ v ∈ l, -128 ≤ v ∧ v ≤ 127
theorem bty_app {l m : List Int} (h : bty l) (g : bty m) : bty (l ++ m) := fun v hv => (List.mem_append.mp hv).elim (h v) (g v)
theorem bty_1 (v s : Int) : bty [by8 v s] := fun w hw => by
  rw [List.mem_singleton.mp hw]
  exact by8_rg v s
theorem bty_fb (v : Int) : bty (fbL v) := bty_app (bty_1 _ _) (bty_app (bty_1 _ _) (bty_app (bty_1 _ _) (bty_1 _ _)))
theorem bty_fd (a b c e f : Int) : bty (fdL a b c e f) := bty_app (bty_fb _) (bty_app (bty_fb _) (bty_app (bty_fb _) (bty_app (bty_fb _) (bty_fb _))))
theorem WS_feed {S : St} (hs : WS S) (a b c e f : Int) : WS (spFeed S a b c e f).2 := by
  unfold spFeed
  split
  · rename_i hn
    obtain ⟨h1, h2, h3, h4, h5, h6, h7, h8⟩ := hs
    refine ⟨h1, h2, h3, ?_, fun i i0 i1 => ?_, h6, h7, h8⟩
    · show 0 ≤ sN S + 20 ∧ sN S + 20 ≤ 500
      omega
    · have i1' : i < sN S + 20 := i1
      show -128 ≤ (if i < sN S then sB S i else (fdL a b c e f).getD (i - sN S).toNat 0) ∧ (if i < sN S then sB S i else (fdL a b c e f).getD (i - sN S).toNat 0) ≤ 127
      split
      · exact h5 i i0 (by assumption)
      · have hl : (fdL a b c e f).length = 20 := rfl
        have hi : (i - sN S).toNat < (fdL a b c e f).length := by omega
        rw [ld_get hi]
        exact bty_fd a b c e f _ (List.getElem_mem hi)
  · exact hs
section FD
variable {A : Am} {E : En} {S : St} {v a b c e f : Int}
theorem c_app1 (d : Nat) {s : Int} (s0 : 0 ≤ s) (s1 : s ≤ 24) (a0 : 0 ≤ A 32 1) (a1 : A 32 1 < 500) : L_Reader_append_3 d (MM A E) 32 (iI v) (iI s) = L_Reader_append_3 d (MM (uA (uA A 48 (A 32 1) (by8 v s)) 32 1 (A 32 1 + 1)) E) 32 (iI v) (iI (s - 8)) := by
  rw [eL_Reader_append_3]
  simp (disch := omega) only [cond_true, cond_false, Bool.and_self, Bool.and_true, Bool.true_and, Bool.and_false, Bool.false_and, Bool.not_true, Bool.not_false, Bool.or_true, Bool.true_or, Bool.or_false, Bool.false_or, cond_dec, cI_ok, cR_ok, cV_ok, cJ_ok, bo_nr, bo_0, bo_i0, nr_0, nr_10, nr_11, nr_i0, nr_i1, bl_0, iI_add, iI_sub, iI_mul, iI_neg, qlt, qeq, qmax, qmin, qdiv, qrem, qn0, qin, I_0, w_0, I_1, w_1, I_2, w_2, I_3, w_3, I_4, w_4, I_5, w_5, I_6, w_6, I_7, w_7, I_8, w_8, I_9, w_9, I_10, w_10, I_11, w_11, I_12, w_12, I_13, w_13, I_14, w_14, I_15, w_15, I_16, w_16, I_17, w_17, I_18, w_18, I_19, w_19, I_20, w_20, I_21, w_21, I_22, w_22, I_23, w_23, I_24, w_24, I_25, w_25, I_26, w_26, I_27, w_27, I_28, w_28, I_29, w_29, I_30, w_30, I_31, w_31, I_32, w_32, I_33, w_33, I_34, w_34, I_35, w_35, I_36, w_36, I_37, w_37, I_38, w_38, I_39, w_39, I_40, w_40, I_41, w_41, I_at, w_at, th_MM, J_MM, wJ_MM, P_F, P_G, fA_in, fA_k, fA_p, fA_P, uA_P, cA_P, uA_eq, uA_k, uA_p, cA_in, cA_k, cA_p, cp_at, cp_le, qlt0, nr_ib, Nat.not_lt_zero, decide_false, ki_1, kp_1_0, kp_1_1, kp_1_2, kp_1_3, kp_1_4, kp_1_5, kp_1_6, kp_1_7, kp_1_8, kp_1_9, kp_1_10, ki_2, kp_2_0, kp_2_1, ki_17, kp_17_0, kp_17_1, ki_32, kp_32_0, kp_32_3, ki_33, kp_33_0, kp_33_1, ki_48, kz_48, ki_49, kp_49_0, ki_50, kz_50, krr_50, ki_67, kp_67_0, kp_67_1, kp_67_2, kp_67_3, kp_67_4, ki_68, kz_68, krr_68, ki_69, kz_69, krr_69, ki_70, kz_70, ki_71, kz_71, ki_144, kp_144_0, kp_144_1, kp_144_2, kp_144_3, kp_144_4, ki_145, kz_145, ki_146, kz_146, ki_147, kz_147, ki_148, kz_148, ki_149, kp_149_0, kp_149_1, kp_149_2, ki_150, kz_150, ki_151, kz_151, ki_152, kp_152_0, kp_152_1, kp_152_2, ki_153, kz_153, ki_154, kz_154, ki_155, kz_155, ki_156, kp_156_0, kp_156_1, kp_156_2, ki_157, kz_157, ki_158, kp_158_0, ki_159, kz_159, ki_160, kz_160, ki_161, kp_161_1, kp_161_2, kp_161_3, kp_161_4, kp_161_7, kp_161_21, kp_161_22, kp_161_23, kp_161_26, kp_161_27, kp_161_28, kp_161_29, kp_161_30, kp_161_32, kp_161_33, kp_161_37, kp_161_40, ki_162, kz_162, ki_163, kz_163, ki_164, kz_164, ki_165, kz_165, ki_166, kz_166, ki_167, kz_167, ki_168, kz_168, ki_169, kz_169, ki_170, kz_170, ki_171, kz_171, ki_172, kz_172, ki_173, kz_173, ki_174, kz_174, ki_175, kz_175, ki_176, kz_176, ki_177, kz_177, ki_178, kz_178, ki_179, kz_179, li_m1000000, li_m8, li_m5, li_m1, li_0, li_1, li_2, li_3, li_4, li_5, li_6, li_7, li_8, li_9, li_10, li_11, li_12, li_13, li_14, li_15, li_16, li_17, li_18, li_19, li_20, li_21, li_22, li_23, li_24, li_25, li_26, li_27, li_28, li_29, li_30, li_31, li_32, li_42, li_43, li_46, li_47, li_48, li_49, li_52, li_57, li_59, li_60, li_64, li_89, li_94, li_97, li_99, li_100, li_108, li_112, li_120, li_122, li_150, li_255, li_300, li_450, li_500, li_671, li_890, li_1000, li_1001, li_1002, li_1003, li_1424, li_12345, li_32767, li_500000, li_1000000, li_1103515245, Int.reduceEq, Int.reduceLT, Int.reduceLE, reduceIte, Int.reduceAdd, Int.reduceSub, Int.reduceMul, Nat.reduceAdd, Nat.reduceMul, by8_w]
  rw [if_neg (by omega), if_pos a1, show s + -8 = s - 8 by omega]
theorem c_append (d : Nat) (a0 : 0 ≤ A 32 1) (a1 : A 32 1 + 4 ≤ 500) : ∃ A', D_Reader_append d (MM A E) 32 (iI v) = some (.inl none, MM A' E) ∧ Put 32 1 48 A A' (fbL v) := by
  have p1 := Put_1 (A := A) (v := by8 v 24) (q := 32) (c := 1) (b := 48) (by decide)
  have e1 := c_app1 (A := A) (E := E) (v := v) (s := 24) d (by decide) (by decide) a0 (by omega)
  generalize uA (uA A 48 (A 32 1) (by8 v 24)) 32 1 (A 32 1 + 1) = A1 at *
  have n1 : A1 32 1 = A 32 1 + 1 := p1.1
  have p2 := Put_1 (A := A1) (v := by8 v 16) (q := 32) (c := 1) (b := 48) (by decide)
  have e2 := c_app1 (A := A1) (E := E) (v := v) (s := 16) d (by decide) (by decide) (by omega) (by omega)
  generalize uA (uA A1 48 (A1 32 1) (by8 v 16)) 32 1 (A1 32 1 + 1) = A2 at *
  have n2 : A2 32 1 = A1 32 1 + 1 := p2.1
  have p3 := Put_1 (A := A2) (v := by8 v 8) (q := 32) (c := 1) (b := 48) (by decide)
  have e3 := c_app1 (A := A2) (E := E) (v := v) (s := 8) d (by decide) (by decide) (by omega) (by omega)
  generalize uA (uA A2 48 (A2 32 1) (by8 v 8)) 32 1 (A2 32 1 + 1) = A3 at *
  have n3 : A3 32 1 = A2 32 1 + 1 := p3.1
  have p4 := Put_1 (A := A3) (v := by8 v 0) (q := 32) (c := 1) (b := 48) (by decide)
  have e4 := c_app1 (A := A3) (E := E) (v := v) (s := 0) d (by decide) (by decide) (by omega) (by omega)
  generalize uA (uA A3 48 (A3 32 1) (by8 v 0)) 32 1 (A3 32 1 + 1) = A4 at *
  refine ⟨A4, ?_, Put_app p1 (Put_app p2 (Put_app p3 p4))⟩
  rw [eD_Reader_append, li_24, e1, show (24 : Int) - 8 = 16 from rfl, e2, show (16 : Int) - 8 = 8 from rfl, e3, show (8 : Int) - 8 = 0 from rfl, e4, show (0 : Int) - 8 = -8 from rfl, eL_Reader_append_3]
  simp (disch := omega) only [cond_true, cond_false, Bool.and_self, Bool.and_true, Bool.true_and, Bool.and_false, Bool.false_and, Bool.not_true, Bool.not_false, Bool.or_true, Bool.true_or, Bool.or_false, Bool.false_or, cond_dec, cI_ok, cR_ok, cV_ok, cJ_ok, bo_nr, bo_0, bo_i0, nr_0, nr_10, nr_11, nr_i0, nr_i1, bl_0, iI_add, iI_sub, iI_mul, iI_neg, qlt, qeq, qmax, qmin, qdiv, qrem, qn0, qin, I_0, w_0, I_1, w_1, I_2, w_2, I_3, w_3, I_4, w_4, I_5, w_5, I_6, w_6, I_7, w_7, I_8, w_8, I_9, w_9, I_10, w_10, I_11, w_11, I_12, w_12, I_13, w_13, I_14, w_14, I_15, w_15, I_16, w_16, I_17, w_17, I_18, w_18, I_19, w_19, I_20, w_20, I_21, w_21, I_22, w_22, I_23, w_23, I_24, w_24, I_25, w_25, I_26, w_26, I_27, w_27, I_28, w_28, I_29, w_29, I_30, w_30, I_31, w_31, I_32, w_32, I_33, w_33, I_34, w_34, I_35, w_35, I_36, w_36, I_37, w_37, I_38, w_38, I_39, w_39, I_40, w_40, I_41, w_41, I_at, w_at, th_MM, J_MM, wJ_MM, P_F, P_G, fA_in, fA_k, fA_p, fA_P, uA_P, cA_P, uA_eq, uA_k, uA_p, cA_in, cA_k, cA_p, cp_at, cp_le, qlt0, nr_ib, Nat.not_lt_zero, decide_false, ki_1, kp_1_0, kp_1_1, kp_1_2, kp_1_3, kp_1_4, kp_1_5, kp_1_6, kp_1_7, kp_1_8, kp_1_9, kp_1_10, ki_2, kp_2_0, kp_2_1, ki_17, kp_17_0, kp_17_1, ki_32, kp_32_0, kp_32_3, ki_33, kp_33_0, kp_33_1, ki_48, kz_48, ki_49, kp_49_0, ki_50, kz_50, krr_50, ki_67, kp_67_0, kp_67_1, kp_67_2, kp_67_3, kp_67_4, ki_68, kz_68, krr_68, ki_69, kz_69, krr_69, ki_70, kz_70, ki_71, kz_71, ki_144, kp_144_0, kp_144_1, kp_144_2, kp_144_3, kp_144_4, ki_145, kz_145, ki_146, kz_146, ki_147, kz_147, ki_148, kz_148, ki_149, kp_149_0, kp_149_1, kp_149_2, ki_150, kz_150, ki_151, kz_151, ki_152, kp_152_0, kp_152_1, kp_152_2, ki_153, kz_153, ki_154, kz_154, ki_155, kz_155, ki_156, kp_156_0, kp_156_1, kp_156_2, ki_157, kz_157, ki_158, kp_158_0, ki_159, kz_159, ki_160, kz_160, ki_161, kp_161_1, kp_161_2, kp_161_3, kp_161_4, kp_161_7, kp_161_21, kp_161_22, kp_161_23, kp_161_26, kp_161_27, kp_161_28, kp_161_29, kp_161_30, kp_161_32, kp_161_33, kp_161_37, kp_161_40, ki_162, kz_162, ki_163, kz_163, ki_164, kz_164, ki_165, kz_165, ki_166, kz_166, ki_167, kz_167, ki_168, kz_168, ki_169, kz_169, ki_170, kz_170, ki_171, kz_171, ki_172, kz_172, ki_173, kz_173, ki_174, kz_174, ki_175, kz_175, ki_176, kz_176, ki_177, kz_177, ki_178, kz_178, ki_179, kz_179, li_m1000000, li_m8, li_m5, li_m1, li_0, li_1, li_2, li_3, li_4, li_5, li_6, li_7, li_8, li_9, li_10, li_11, li_12, li_13, li_14, li_15, li_16, li_17, li_18, li_19, li_20, li_21, li_22, li_23, li_24, li_25, li_26, li_27, li_28, li_29, li_30, li_31, li_32, li_42, li_43, li_46, li_47, li_48, li_49, li_52, li_57, li_59, li_60, li_64, li_89, li_94, li_97, li_99, li_100, li_108, li_112, li_120, li_122, li_150, li_255, li_300, li_450, li_500, li_671, li_890, li_1000, li_1001, li_1002, li_1003, li_1424, li_12345, li_32767, li_500000, li_1000000, li_1103515245, Int.reduceEq, Int.reduceLT, Int.reduceLE, reduceIte, Int.reduceAdd, Int.reduceSub, Int.reduceMul, Nat.reduceAdd, Nat.reduceMul]
theorem m_app1 (d : Nat) {s : Int} (s0 : 0 ≤ s) (s1 : s ≤ 24) (a0 : 0 ≤ A 161 8) (a1 : A 161 8 < 500) : L_Md_comes_3 d (MM A E) 161 (iI v) (iI s) = L_Md_comes_3 d (MM (uA (uA A 166 (A 161 8) (by8 v s)) 161 8 (A 161 8 + 1)) E) 161 (iI v) (iI (s - 8)) := by
  rw [eL_Md_comes_3]
  simp (disch := omega) only [cond_true, cond_false, Bool.and_self, Bool.and_true, Bool.true_and, Bool.and_false, Bool.false_and, Bool.not_true, Bool.not_false, Bool.or_true, Bool.true_or, Bool.or_false, Bool.false_or, cond_dec, cI_ok, cR_ok, cV_ok, cJ_ok, bo_nr, bo_0, bo_i0, nr_0, nr_10, nr_11, nr_i0, nr_i1, bl_0, iI_add, iI_sub, iI_mul, iI_neg, qlt, qeq, qmax, qmin, qdiv, qrem, qn0, qin, I_0, w_0, I_1, w_1, I_2, w_2, I_3, w_3, I_4, w_4, I_5, w_5, I_6, w_6, I_7, w_7, I_8, w_8, I_9, w_9, I_10, w_10, I_11, w_11, I_12, w_12, I_13, w_13, I_14, w_14, I_15, w_15, I_16, w_16, I_17, w_17, I_18, w_18, I_19, w_19, I_20, w_20, I_21, w_21, I_22, w_22, I_23, w_23, I_24, w_24, I_25, w_25, I_26, w_26, I_27, w_27, I_28, w_28, I_29, w_29, I_30, w_30, I_31, w_31, I_32, w_32, I_33, w_33, I_34, w_34, I_35, w_35, I_36, w_36, I_37, w_37, I_38, w_38, I_39, w_39, I_40, w_40, I_41, w_41, I_at, w_at, th_MM, J_MM, wJ_MM, P_F, P_G, fA_in, fA_k, fA_p, fA_P, uA_P, cA_P, uA_eq, uA_k, uA_p, cA_in, cA_k, cA_p, cp_at, cp_le, qlt0, nr_ib, Nat.not_lt_zero, decide_false, ki_1, kp_1_0, kp_1_1, kp_1_2, kp_1_3, kp_1_4, kp_1_5, kp_1_6, kp_1_7, kp_1_8, kp_1_9, kp_1_10, ki_2, kp_2_0, kp_2_1, ki_17, kp_17_0, kp_17_1, ki_32, kp_32_0, kp_32_3, ki_33, kp_33_0, kp_33_1, ki_48, kz_48, ki_49, kp_49_0, ki_50, kz_50, krr_50, ki_67, kp_67_0, kp_67_1, kp_67_2, kp_67_3, kp_67_4, ki_68, kz_68, krr_68, ki_69, kz_69, krr_69, ki_70, kz_70, ki_71, kz_71, ki_144, kp_144_0, kp_144_1, kp_144_2, kp_144_3, kp_144_4, ki_145, kz_145, ki_146, kz_146, ki_147, kz_147, ki_148, kz_148, ki_149, kp_149_0, kp_149_1, kp_149_2, ki_150, kz_150, ki_151, kz_151, ki_152, kp_152_0, kp_152_1, kp_152_2, ki_153, kz_153, ki_154, kz_154, ki_155, kz_155, ki_156, kp_156_0, kp_156_1, kp_156_2, ki_157, kz_157, ki_158, kp_158_0, ki_159, kz_159, ki_160, kz_160, ki_161, kp_161_1, kp_161_2, kp_161_3, kp_161_4, kp_161_7, kp_161_21, kp_161_22, kp_161_23, kp_161_26, kp_161_27, kp_161_28, kp_161_29, kp_161_30, kp_161_32, kp_161_33, kp_161_37, kp_161_40, ki_162, kz_162, ki_163, kz_163, ki_164, kz_164, ki_165, kz_165, ki_166, kz_166, ki_167, kz_167, ki_168, kz_168, ki_169, kz_169, ki_170, kz_170, ki_171, kz_171, ki_172, kz_172, ki_173, kz_173, ki_174, kz_174, ki_175, kz_175, ki_176, kz_176, ki_177, kz_177, ki_178, kz_178, ki_179, kz_179, li_m1000000, li_m8, li_m5, li_m1, li_0, li_1, li_2, li_3, li_4, li_5, li_6, li_7, li_8, li_9, li_10, li_11, li_12, li_13, li_14, li_15, li_16, li_17, li_18, li_19, li_20, li_21, li_22, li_23, li_24, li_25, li_26, li_27, li_28, li_29, li_30, li_31, li_32, li_42, li_43, li_46, li_47, li_48, li_49, li_52, li_57, li_59, li_60, li_64, li_89, li_94, li_97, li_99, li_100, li_108, li_112, li_120, li_122, li_150, li_255, li_300, li_450, li_500, li_671, li_890, li_1000, li_1001, li_1002, li_1003, li_1424, li_12345, li_32767, li_500000, li_1000000, li_1103515245, Int.reduceEq, Int.reduceLT, Int.reduceLE, reduceIte, Int.reduceAdd, Int.reduceSub, Int.reduceMul, Nat.reduceAdd, Nat.reduceMul, by8_w]
  rw [if_neg (by omega), show s + -8 = s - 8 by omega]
theorem m_append (d : Nat) (a0 : 0 ≤ A 161 8) (a1 : A 161 8 + 4 ≤ 500) : ∃ A', D_Md_comes d (MM A E) 161 (iI v) = some (.inl none, MM A' E) ∧ Put 161 8 166 A A' (fbL v) := by
  have p1 := Put_1 (A := A) (v := by8 v 24) (q := 161) (c := 8) (b := 166) (by decide)
  have e1 := m_app1 (A := A) (E := E) (v := v) (s := 24) d (by decide) (by decide) a0 (by omega)
  generalize uA (uA A 166 (A 161 8) (by8 v 24)) 161 8 (A 161 8 + 1) = A1 at *
  have n1 : A1 161 8 = A 161 8 + 1 := p1.1
  have p2 := Put_1 (A := A1) (v := by8 v 16) (q := 161) (c := 8) (b := 166) (by decide)
  have e2 := m_app1 (A := A1) (E := E) (v := v) (s := 16) d (by decide) (by decide) (by omega) (by omega)
  generalize uA (uA A1 166 (A1 161 8) (by8 v 16)) 161 8 (A1 161 8 + 1) = A2 at *
  have n2 : A2 161 8 = A1 161 8 + 1 := p2.1
  have p3 := Put_1 (A := A2) (v := by8 v 8) (q := 161) (c := 8) (b := 166) (by decide)
  have e3 := m_app1 (A := A2) (E := E) (v := v) (s := 8) d (by decide) (by decide) (by omega) (by omega)
  generalize uA (uA A2 166 (A2 161 8) (by8 v 8)) 161 8 (A2 161 8 + 1) = A3 at *
  have n3 : A3 161 8 = A2 161 8 + 1 := p3.1
  have p4 := Put_1 (A := A3) (v := by8 v 0) (q := 161) (c := 8) (b := 166) (by decide)
  have e4 := m_app1 (A := A3) (E := E) (v := v) (s := 0) d (by decide) (by decide) (by omega) (by omega)
  generalize uA (uA A3 166 (A3 161 8) (by8 v 0)) 161 8 (A3 161 8 + 1) = A4 at *
  refine ⟨A4, ?_, Put_app p1 (Put_app p2 (Put_app p3 p4))⟩
  rw [eD_Md_comes, li_24, e1, show (24 : Int) - 8 = 16 from rfl, e2, show (16 : Int) - 8 = 8 from rfl, e3, show (8 : Int) - 8 = 0 from rfl, e4, show (0 : Int) - 8 = -8 from rfl, eL_Md_comes_3]
  simp (disch := omega) only [cond_true, cond_false, Bool.and_self, Bool.and_true, Bool.true_and, Bool.and_false, Bool.false_and, Bool.not_true, Bool.not_false, Bool.or_true, Bool.true_or, Bool.or_false, Bool.false_or, cond_dec, cI_ok, cR_ok, cV_ok, cJ_ok, bo_nr, bo_0, bo_i0, nr_0, nr_10, nr_11, nr_i0, nr_i1, bl_0, iI_add, iI_sub, iI_mul, iI_neg, qlt, qeq, qmax, qmin, qdiv, qrem, qn0, qin, I_0, w_0, I_1, w_1, I_2, w_2, I_3, w_3, I_4, w_4, I_5, w_5, I_6, w_6, I_7, w_7, I_8, w_8, I_9, w_9, I_10, w_10, I_11, w_11, I_12, w_12, I_13, w_13, I_14, w_14, I_15, w_15, I_16, w_16, I_17, w_17, I_18, w_18, I_19, w_19, I_20, w_20, I_21, w_21, I_22, w_22, I_23, w_23, I_24, w_24, I_25, w_25, I_26, w_26, I_27, w_27, I_28, w_28, I_29, w_29, I_30, w_30, I_31, w_31, I_32, w_32, I_33, w_33, I_34, w_34, I_35, w_35, I_36, w_36, I_37, w_37, I_38, w_38, I_39, w_39, I_40, w_40, I_41, w_41, I_at, w_at, th_MM, J_MM, wJ_MM, P_F, P_G, fA_in, fA_k, fA_p, fA_P, uA_P, cA_P, uA_eq, uA_k, uA_p, cA_in, cA_k, cA_p, cp_at, cp_le, qlt0, nr_ib, Nat.not_lt_zero, decide_false, ki_1, kp_1_0, kp_1_1, kp_1_2, kp_1_3, kp_1_4, kp_1_5, kp_1_6, kp_1_7, kp_1_8, kp_1_9, kp_1_10, ki_2, kp_2_0, kp_2_1, ki_17, kp_17_0, kp_17_1, ki_32, kp_32_0, kp_32_3, ki_33, kp_33_0, kp_33_1, ki_48, kz_48, ki_49, kp_49_0, ki_50, kz_50, krr_50, ki_67, kp_67_0, kp_67_1, kp_67_2, kp_67_3, kp_67_4, ki_68, kz_68, krr_68, ki_69, kz_69, krr_69, ki_70, kz_70, ki_71, kz_71, ki_144, kp_144_0, kp_144_1, kp_144_2, kp_144_3, kp_144_4, ki_145, kz_145, ki_146, kz_146, ki_147, kz_147, ki_148, kz_148, ki_149, kp_149_0, kp_149_1, kp_149_2, ki_150, kz_150, ki_151, kz_151, ki_152, kp_152_0, kp_152_1, kp_152_2, ki_153, kz_153, ki_154, kz_154, ki_155, kz_155, ki_156, kp_156_0, kp_156_1, kp_156_2, ki_157, kz_157, ki_158, kp_158_0, ki_159, kz_159, ki_160, kz_160, ki_161, kp_161_1, kp_161_2, kp_161_3, kp_161_4, kp_161_7, kp_161_21, kp_161_22, kp_161_23, kp_161_26, kp_161_27, kp_161_28, kp_161_29, kp_161_30, kp_161_32, kp_161_33, kp_161_37, kp_161_40, ki_162, kz_162, ki_163, kz_163, ki_164, kz_164, ki_165, kz_165, ki_166, kz_166, ki_167, kz_167, ki_168, kz_168, ki_169, kz_169, ki_170, kz_170, ki_171, kz_171, ki_172, kz_172, ki_173, kz_173, ki_174, kz_174, ki_175, kz_175, ki_176, kz_176, ki_177, kz_177, ki_178, kz_178, ki_179, kz_179, li_m1000000, li_m8, li_m5, li_m1, li_0, li_1, li_2, li_3, li_4, li_5, li_6, li_7, li_8, li_9, li_10, li_11, li_12, li_13, li_14, li_15, li_16, li_17, li_18, li_19, li_20, li_21, li_22, li_23, li_24, li_25, li_26, li_27, li_28, li_29, li_30, li_31, li_32, li_42, li_43, li_46, li_47, li_48, li_49, li_52, li_57, li_59, li_60, li_64, li_89, li_94, li_97, li_99, li_100, li_108, li_112, li_120, li_122, li_150, li_255, li_300, li_450, li_500, li_671, li_890, li_1000, li_1001, li_1002, li_1003, li_1424, li_12345, li_32767, li_500000, li_1000000, li_1103515245, Int.reduceEq, Int.reduceLT, Int.reduceLE, reduceIte, Int.reduceAdd, Int.reduceSub, Int.reduceMul, Nat.reduceAdd, Nat.reduceMul]
theorem fb_len (v : Int) : ((fbL v).length : Int) = 4 := rfl
theorem c_feed (d : Nat) (hd : 20 < d) (hs : WS S) (h : CI A S) : CC (D_LC_feed d (MM A E) 1 (iI a) (iI b) (iI c) (iI e) (iI f)) A E (spFeed S a b c e f).1 (spFeed S a b c e f).2 := by
  have n0 := hs.2.2.2.1
  have g1 := h.2.2.1.1
  unfold spFeed
  by_cases q : sN S + 20 ≤ 500
  · rw [if_pos q]
    obtain ⟨A1, x1, x2⟩ := c_append (A := A) (E := E) (v := a) (d - 1) (by omega) (by omega)
    have f1 : A1 32 1 = A 32 1 + 4 := x2.1
    obtain ⟨A2, y1, y2⟩ := c_append (A := A1) (E := E) (v := b) (d - 1) (by omega) (by omega)
    have f2 : A2 32 1 = A1 32 1 + 4 := y2.1
    obtain ⟨A3, z1, z2⟩ := c_append (A := A2) (E := E) (v := c) (d - 1) (by omega) (by omega)
    have f3 : A3 32 1 = A2 32 1 + 4 := z2.1
    obtain ⟨A4, u1, u2⟩ := c_append (A := A3) (E := E) (v := e) (d - 1) (by omega) (by omega)
    have f4 : A4 32 1 = A3 32 1 + 4 := u2.1
    obtain ⟨A5, v1, v2⟩ := c_append (A := A4) (E := E) (v := f) (d - 1) (by omega) (by omega)
    have P : Put 32 1 48 A A5 (fdL a b c e f) := Put_app x2 (Put_app y2 (Put_app z2 (Put_app u2 v2)))
    have f5 : A5 32 1 = sN S + 20 := by
      have : A5 32 1 = A4 32 1 + 4 := v2.1
      omega
    have fr : ∀ p, p ≠ 32 → p ≠ 48 → A5 p = A p := P.2.2.2.2
    obtain ⟨h1, h2, h3, h4, h5, h6⟩ := h
    refine ⟨A5, E, ?_, ⟨RinkAt_fr h1 (fun p _ _ => fr p (by omega) (by omega)), ActsC_fr h2 (fun p _ _ => fr p (by omega) (by omega)), ⟨f5, fun i i0 i1 => ?_⟩, ?_, ⟨?_, fun τ hτ => RinkAt_fr (h5.2 τ hτ) (fun p _ _ => fr p (by omega) (by omega))⟩, ?_⟩, fun p hp => fr p (by omega) (by omega), EE_refl E⟩
    · rw [eD_LC_feed]
      simp (disch := omega) only [cond_true, cond_false, Bool.and_self, Bool.and_true, Bool.true_and, Bool.and_false, Bool.false_and, Bool.not_true, Bool.not_false, Bool.or_true, Bool.true_or, Bool.or_false, Bool.false_or, cond_dec, cI_ok, cR_ok, cV_ok, cJ_ok, bo_nr, bo_0, bo_i0, nr_0, nr_10, nr_11, nr_i0, nr_i1, bl_0, iI_add, iI_sub, iI_mul, iI_neg, qlt, qeq, qmax, qmin, qdiv, qrem, qn0, qin, I_0, w_0, I_1, w_1, I_2, w_2, I_3, w_3, I_4, w_4, I_5, w_5, I_6, w_6, I_7, w_7, I_8, w_8, I_9, w_9, I_10, w_10, I_11, w_11, I_12, w_12, I_13, w_13, I_14, w_14, I_15, w_15, I_16, w_16, I_17, w_17, I_18, w_18, I_19, w_19, I_20, w_20, I_21, w_21, I_22, w_22, I_23, w_23, I_24, w_24, I_25, w_25, I_26, w_26, I_27, w_27, I_28, w_28, I_29, w_29, I_30, w_30, I_31, w_31, I_32, w_32, I_33, w_33, I_34, w_34, I_35, w_35, I_36, w_36, I_37, w_37, I_38, w_38, I_39, w_39, I_40, w_40, I_41, w_41, I_at, w_at, th_MM, J_MM, wJ_MM, P_F, P_G, fA_in, fA_k, fA_p, fA_P, uA_P, cA_P, uA_eq, uA_k, uA_p, cA_in, cA_k, cA_p, cp_at, cp_le, qlt0, nr_ib, Nat.not_lt_zero, decide_false, ki_1, kp_1_0, kp_1_1, kp_1_2, kp_1_3, kp_1_4, kp_1_5, kp_1_6, kp_1_7, kp_1_8, kp_1_9, kp_1_10, ki_2, kp_2_0, kp_2_1, ki_17, kp_17_0, kp_17_1, ki_32, kp_32_0, kp_32_3, ki_33, kp_33_0, kp_33_1, ki_48, kz_48, ki_49, kp_49_0, ki_50, kz_50, krr_50, ki_67, kp_67_0, kp_67_1, kp_67_2, kp_67_3, kp_67_4, ki_68, kz_68, krr_68, ki_69, kz_69, krr_69, ki_70, kz_70, ki_71, kz_71, ki_144, kp_144_0, kp_144_1, kp_144_2, kp_144_3, kp_144_4, ki_145, kz_145, ki_146, kz_146, ki_147, kz_147, ki_148, kz_148, ki_149, kp_149_0, kp_149_1, kp_149_2, ki_150, kz_150, ki_151, kz_151, ki_152, kp_152_0, kp_152_1, kp_152_2, ki_153, kz_153, ki_154, kz_154, ki_155, kz_155, ki_156, kp_156_0, kp_156_1, kp_156_2, ki_157, kz_157, ki_158, kp_158_0, ki_159, kz_159, ki_160, kz_160, ki_161, kp_161_1, kp_161_2, kp_161_3, kp_161_4, kp_161_7, kp_161_21, kp_161_22, kp_161_23, kp_161_26, kp_161_27, kp_161_28, kp_161_29, kp_161_30, kp_161_32, kp_161_33, kp_161_37, kp_161_40, ki_162, kz_162, ki_163, kz_163, ki_164, kz_164, ki_165, kz_165, ki_166, kz_166, ki_167, kz_167, ki_168, kz_168, ki_169, kz_169, ki_170, kz_170, ki_171, kz_171, ki_172, kz_172, ki_173, kz_173, ki_174, kz_174, ki_175, kz_175, ki_176, kz_176, ki_177, kz_177, ki_178, kz_178, ki_179, kz_179, li_m1000000, li_m8, li_m5, li_m1, li_0, li_1, li_2, li_3, li_4, li_5, li_6, li_7, li_8, li_9, li_10, li_11, li_12, li_13, li_14, li_15, li_16, li_17, li_18, li_19, li_20, li_21, li_22, li_23, li_24, li_25, li_26, li_27, li_28, li_29, li_30, li_31, li_32, li_42, li_43, li_46, li_47, li_48, li_49, li_52, li_57, li_59, li_60, li_64, li_89, li_94, li_97, li_99, li_100, li_108, li_112, li_120, li_122, li_150, li_255, li_300, li_450, li_500, li_671, li_890, li_1000, li_1001, li_1002, li_1003, li_1424, li_12345, li_32767, li_500000, li_1000000, li_1103515245, Int.reduceEq, Int.reduceLT, Int.reduceLE, reduceIte, Int.reduceAdd, Int.reduceSub, Int.reduceMul, Nat.reduceAdd, Nat.reduceMul, eD_Reader_hasRoom, g1, x1, y1, z1, u1, v1, f5]
      rw [if_neg (by omega)]
      rfl
    · have i1' : i < sN S + 20 := i1
      show A5 48 i = if i < sN S then sB S i else (fdL a b c e f).getD (i - sN S).toNat 0
      by_cases w : i < sN S
      · rw [if_pos w, P.2.2.1 i (by omega)]
        exact h3.2 i i0 w
      · rw [if_neg w]
        have hl : (fdL a b c e f).length = 20 := rfl
        have := P.2.1 (i - sN S).toNat (by omega)
        rw [g1, show sN S + (((i - sN S).toNat : Nat) : Int) = i by omega] at this
        exact this
    · rw [fr 1 (by decide) (by decide)]; exact h4
    · rw [fr 1 (by decide) (by decide)]; exact h5.1
    · rw [fr 158 (by decide) (by decide), fr 159 (by decide) (by decide)]; exact h6
  · rw [if_neg q]
    refine ⟨A, E, ?_, h, fun p hp => rfl, EE_refl E⟩
    rw [eD_LC_feed]
    simp (disch := omega) only [cond_true, cond_false, Bool.and_self, Bool.and_true, Bool.true_and, Bool.and_false, Bool.false_and, Bool.not_true, Bool.not_false, Bool.or_true, Bool.true_or, Bool.or_false, Bool.false_or, cond_dec, cI_ok, cR_ok, cV_ok, cJ_ok, bo_nr, bo_0, bo_i0, nr_0, nr_10, nr_11, nr_i0, nr_i1, bl_0, iI_add, iI_sub, iI_mul, iI_neg, qlt, qeq, qmax, qmin, qdiv, qrem, qn0, qin, I_0, w_0, I_1, w_1, I_2, w_2, I_3, w_3, I_4, w_4, I_5, w_5, I_6, w_6, I_7, w_7, I_8, w_8, I_9, w_9, I_10, w_10, I_11, w_11, I_12, w_12, I_13, w_13, I_14, w_14, I_15, w_15, I_16, w_16, I_17, w_17, I_18, w_18, I_19, w_19, I_20, w_20, I_21, w_21, I_22, w_22, I_23, w_23, I_24, w_24, I_25, w_25, I_26, w_26, I_27, w_27, I_28, w_28, I_29, w_29, I_30, w_30, I_31, w_31, I_32, w_32, I_33, w_33, I_34, w_34, I_35, w_35, I_36, w_36, I_37, w_37, I_38, w_38, I_39, w_39, I_40, w_40, I_41, w_41, I_at, w_at, th_MM, J_MM, wJ_MM, P_F, P_G, fA_in, fA_k, fA_p, fA_P, uA_P, cA_P, uA_eq, uA_k, uA_p, cA_in, cA_k, cA_p, cp_at, cp_le, qlt0, nr_ib, Nat.not_lt_zero, decide_false, ki_1, kp_1_0, kp_1_1, kp_1_2, kp_1_3, kp_1_4, kp_1_5, kp_1_6, kp_1_7, kp_1_8, kp_1_9, kp_1_10, ki_2, kp_2_0, kp_2_1, ki_17, kp_17_0, kp_17_1, ki_32, kp_32_0, kp_32_3, ki_33, kp_33_0, kp_33_1, ki_48, kz_48, ki_49, kp_49_0, ki_50, kz_50, krr_50, ki_67, kp_67_0, kp_67_1, kp_67_2, kp_67_3, kp_67_4, ki_68, kz_68, krr_68, ki_69, kz_69, krr_69, ki_70, kz_70, ki_71, kz_71, ki_144, kp_144_0, kp_144_1, kp_144_2, kp_144_3, kp_144_4, ki_145, kz_145, ki_146, kz_146, ki_147, kz_147, ki_148, kz_148, ki_149, kp_149_0, kp_149_1, kp_149_2, ki_150, kz_150, ki_151, kz_151, ki_152, kp_152_0, kp_152_1, kp_152_2, ki_153, kz_153, ki_154, kz_154, ki_155, kz_155, ki_156, kp_156_0, kp_156_1, kp_156_2, ki_157, kz_157, ki_158, kp_158_0, ki_159, kz_159, ki_160, kz_160, ki_161, kp_161_1, kp_161_2, kp_161_3, kp_161_4, kp_161_7, kp_161_21, kp_161_22, kp_161_23, kp_161_26, kp_161_27, kp_161_28, kp_161_29, kp_161_30, kp_161_32, kp_161_33, kp_161_37, kp_161_40, ki_162, kz_162, ki_163, kz_163, ki_164, kz_164, ki_165, kz_165, ki_166, kz_166, ki_167, kz_167, ki_168, kz_168, ki_169, kz_169, ki_170, kz_170, ki_171, kz_171, ki_172, kz_172, ki_173, kz_173, ki_174, kz_174, ki_175, kz_175, ki_176, kz_176, ki_177, kz_177, ki_178, kz_178, ki_179, kz_179, li_m1000000, li_m8, li_m5, li_m1, li_0, li_1, li_2, li_3, li_4, li_5, li_6, li_7, li_8, li_9, li_10, li_11, li_12, li_13, li_14, li_15, li_16, li_17, li_18, li_19, li_20, li_21, li_22, li_23, li_24, li_25, li_26, li_27, li_28, li_29, li_30, li_31, li_32, li_42, li_43, li_46, li_47, li_48, li_49, li_52, li_57, li_59, li_60, li_64, li_89, li_94, li_97, li_99, li_100, li_108, li_112, li_120, li_122, li_150, li_255, li_300, li_450, li_500, li_671, li_890, li_1000, li_1001, li_1002, li_1003, li_1424, li_12345, li_32767, li_500000, li_1000000, li_1103515245, Int.reduceEq, Int.reduceLT, Int.reduceLE, reduceIte, Int.reduceAdd, Int.reduceSub, Int.reduceMul, Nat.reduceAdd, Nat.reduceMul, eD_Reader_hasRoom, g1]
    rw [if_pos (by omega)]
    rfl
theorem m_feed (d : Nat) (hd : 20 < d) (hs : WS S) (h : MI A S) : MC (D_Md_feed d (MM A E) 161 (iI a) (iI b) (iI c) (iI e) (iI f)) A E 1 (spFeed S a b c e f).1 (spFeed S a b c e f).2 := by
  have n0 := hs.2.2.2.1
  have g1 := h.2.2.1.1
  have z0 : uA A 161 0 0 161 0 = 0 := uA_eq _ _ _
  have g1' : uA A 161 0 0 161 8 = sN S := by rw [uA_k _ (by decide)]; exact g1
  unfold spFeed
  by_cases q : sN S + 20 ≤ 500
  · rw [if_pos q]
    obtain ⟨A1, x1, x2⟩ := m_append (A := uA A 161 0 0) (E := E) (v := a) (d - 1) (by omega) (by omega)
    have f1 : A1 161 8 = uA A 161 0 0 161 8 + 4 := x2.1
    obtain ⟨A2, y1, y2⟩ := m_append (A := A1) (E := E) (v := b) (d - 1) (by omega) (by omega)
    have f2 : A2 161 8 = A1 161 8 + 4 := y2.1
    obtain ⟨A3, z1, z2⟩ := m_append (A := A2) (E := E) (v := c) (d - 1) (by omega) (by omega)
    have f3 : A3 161 8 = A2 161 8 + 4 := z2.1
    obtain ⟨A4, u1, u2⟩ := m_append (A := A3) (E := E) (v := e) (d - 1) (by omega) (by omega)
    have f4 : A4 161 8 = A3 161 8 + 4 := u2.1
    obtain ⟨A5, v1, v2⟩ := m_append (A := A4) (E := E) (v := f) (d - 1) (by omega) (by omega)
    have P : Put 161 8 166 (uA A 161 0 0) A5 (fdL a b c e f) := Put_app x2 (Put_app y2 (Put_app z2 (Put_app u2 v2)))
    have f5 : A5 161 8 = sN S + 20 := by
      have : A5 161 8 = A4 161 8 + 4 := v2.1
      omega
    have fr : ∀ p, p ≠ 161 → p ≠ 166 → A5 p = A p := fun p p1 p2 => by rw [P.2.2.2.2 p p1 p2, uA_P p1]
    have f0 : ∀ j, j ≠ 8 → j ≠ 0 → A5 161 j = A 161 j := fun j p1 p2 => by rw [P.2.2.2.1 j p1, uA_k _ p2]
    obtain ⟨h1, h2, h3, h4, h5, h6⟩ := h
    refine ⟨A5, E, _, ?_, ⟨Row_1 h1 (fr 162 (by decide) (by decide)), KM_fr h2 (f0 6 (by decide) (by decide)) (fr 164 (by decide) (by decide)), ⟨f5, fun i i0 i1 => ?_⟩, ?_, ?_, ?_⟩, fun p hp => fr p (by omega) (by omega), E0_refl E, ?_, fun w hw => Sum.inl.inj hw⟩
    · rw [eD_Md_feed]
      simp (disch := omega) only [cond_true, cond_false, Bool.and_self, Bool.and_true, Bool.true_and, Bool.and_false, Bool.false_and, Bool.not_true, Bool.not_false, Bool.or_true, Bool.true_or, Bool.or_false, Bool.false_or, cond_dec, cI_ok, cR_ok, cV_ok, cJ_ok, bo_nr, bo_0, bo_i0, nr_0, nr_10, nr_11, nr_i0, nr_i1, bl_0, iI_add, iI_sub, iI_mul, iI_neg, qlt, qeq, qmax, qmin, qdiv, qrem, qn0, qin, I_0, w_0, I_1, w_1, I_2, w_2, I_3, w_3, I_4, w_4, I_5, w_5, I_6, w_6, I_7, w_7, I_8, w_8, I_9, w_9, I_10, w_10, I_11, w_11, I_12, w_12, I_13, w_13, I_14, w_14, I_15, w_15, I_16, w_16, I_17, w_17, I_18, w_18, I_19, w_19, I_20, w_20, I_21, w_21, I_22, w_22, I_23, w_23, I_24, w_24, I_25, w_25, I_26, w_26, I_27, w_27, I_28, w_28, I_29, w_29, I_30, w_30, I_31, w_31, I_32, w_32, I_33, w_33, I_34, w_34, I_35, w_35, I_36, w_36, I_37, w_37, I_38, w_38, I_39, w_39, I_40, w_40, I_41, w_41, I_at, w_at, th_MM, J_MM, wJ_MM, P_F, P_G, fA_in, fA_k, fA_p, fA_P, uA_P, cA_P, uA_eq, uA_k, uA_p, cA_in, cA_k, cA_p, cp_at, cp_le, qlt0, nr_ib, Nat.not_lt_zero, decide_false, ki_1, kp_1_0, kp_1_1, kp_1_2, kp_1_3, kp_1_4, kp_1_5, kp_1_6, kp_1_7, kp_1_8, kp_1_9, kp_1_10, ki_2, kp_2_0, kp_2_1, ki_17, kp_17_0, kp_17_1, ki_32, kp_32_0, kp_32_3, ki_33, kp_33_0, kp_33_1, ki_48, kz_48, ki_49, kp_49_0, ki_50, kz_50, krr_50, ki_67, kp_67_0, kp_67_1, kp_67_2, kp_67_3, kp_67_4, ki_68, kz_68, krr_68, ki_69, kz_69, krr_69, ki_70, kz_70, ki_71, kz_71, ki_144, kp_144_0, kp_144_1, kp_144_2, kp_144_3, kp_144_4, ki_145, kz_145, ki_146, kz_146, ki_147, kz_147, ki_148, kz_148, ki_149, kp_149_0, kp_149_1, kp_149_2, ki_150, kz_150, ki_151, kz_151, ki_152, kp_152_0, kp_152_1, kp_152_2, ki_153, kz_153, ki_154, kz_154, ki_155, kz_155, ki_156, kp_156_0, kp_156_1, kp_156_2, ki_157, kz_157, ki_158, kp_158_0, ki_159, kz_159, ki_160, kz_160, ki_161, kp_161_1, kp_161_2, kp_161_3, kp_161_4, kp_161_7, kp_161_21, kp_161_22, kp_161_23, kp_161_26, kp_161_27, kp_161_28, kp_161_29, kp_161_30, kp_161_32, kp_161_33, kp_161_37, kp_161_40, ki_162, kz_162, ki_163, kz_163, ki_164, kz_164, ki_165, kz_165, ki_166, kz_166, ki_167, kz_167, ki_168, kz_168, ki_169, kz_169, ki_170, kz_170, ki_171, kz_171, ki_172, kz_172, ki_173, kz_173, ki_174, kz_174, ki_175, kz_175, ki_176, kz_176, ki_177, kz_177, ki_178, kz_178, ki_179, kz_179, li_m1000000, li_m8, li_m5, li_m1, li_0, li_1, li_2, li_3, li_4, li_5, li_6, li_7, li_8, li_9, li_10, li_11, li_12, li_13, li_14, li_15, li_16, li_17, li_18, li_19, li_20, li_21, li_22, li_23, li_24, li_25, li_26, li_27, li_28, li_29, li_30, li_31, li_32, li_42, li_43, li_46, li_47, li_48, li_49, li_52, li_57, li_59, li_60, li_64, li_89, li_94, li_97, li_99, li_100, li_108, li_112, li_120, li_122, li_150, li_255, li_300, li_450, li_500, li_671, li_890, li_1000, li_1001, li_1002, li_1003, li_1424, li_12345, li_32767, li_500000, li_1000000, li_1103515245, Int.reduceEq, Int.reduceLT, Int.reduceLE, reduceIte, Int.reduceAdd, Int.reduceSub, Int.reduceMul, Nat.reduceAdd, Nat.reduceMul, g1, x1, y1, z1, u1, v1, f5]
      rw [if_neg (by omega)]
    · have i1' : i < sN S + 20 := i1
      show A5 166 i = if i < sN S then sB S i else (fdL a b c e f).getD (i - sN S).toNat 0
      by_cases w : i < sN S
      · rw [if_pos w, P.2.2.1 i (by omega), uA_p _ _ _ (by decide)]
        exact h3.2 i i0 w
      · rw [if_neg w]
        have hl : (fdL a b c e f).length = 20 := rfl
        have := P.2.1 (i - sN S).toNat (by omega)
        rw [g1', show sN S + (((i - sN S).toNat : Nat) : Int) = i by omega] at this
        exact this
    · rw [f0 17 (by decide) (by decide)]; exact h4
    · rw [f0 5 (by decide) (by decide), fr 165 (by decide) (by decide)]; exact h5
    · rw [f0 41 (by decide) (by decide), fr 178 (by decide) (by decide)]; exact h6
    · rw [P.2.2.2.1 0 (by decide), uA_eq]; rfl
  · rw [if_neg q]
    refine ⟨uA A 161 0 0, E, -1, ?_, MI_fr h (FrM_u (by decide)), fun p hp => uA_P (by omega), E0_refl E, z0, fun w hw => Sum.inl.inj hw⟩
    rw [eD_Md_feed]
    simp (disch := omega) only [cond_true, cond_false, Bool.and_self, Bool.and_true, Bool.true_and, Bool.and_false, Bool.false_and, Bool.not_true, Bool.not_false, Bool.or_true, Bool.true_or, Bool.or_false, Bool.false_or, cond_dec, cI_ok, cR_ok, cV_ok, cJ_ok, bo_nr, bo_0, bo_i0, nr_0, nr_10, nr_11, nr_i0, nr_i1, bl_0, iI_add, iI_sub, iI_mul, iI_neg, qlt, qeq, qmax, qmin, qdiv, qrem, qn0, qin, I_0, w_0, I_1, w_1, I_2, w_2, I_3, w_3, I_4, w_4, I_5, w_5, I_6, w_6, I_7, w_7, I_8, w_8, I_9, w_9, I_10, w_10, I_11, w_11, I_12, w_12, I_13, w_13, I_14, w_14, I_15, w_15, I_16, w_16, I_17, w_17, I_18, w_18, I_19, w_19, I_20, w_20, I_21, w_21, I_22, w_22, I_23, w_23, I_24, w_24, I_25, w_25, I_26, w_26, I_27, w_27, I_28, w_28, I_29, w_29, I_30, w_30, I_31, w_31, I_32, w_32, I_33, w_33, I_34, w_34, I_35, w_35, I_36, w_36, I_37, w_37, I_38, w_38, I_39, w_39, I_40, w_40, I_41, w_41, I_at, w_at, th_MM, J_MM, wJ_MM, P_F, P_G, fA_in, fA_k, fA_p, fA_P, uA_P, cA_P, uA_eq, uA_k, uA_p, cA_in, cA_k, cA_p, cp_at, cp_le, qlt0, nr_ib, Nat.not_lt_zero, decide_false, ki_1, kp_1_0, kp_1_1, kp_1_2, kp_1_3, kp_1_4, kp_1_5, kp_1_6, kp_1_7, kp_1_8, kp_1_9, kp_1_10, ki_2, kp_2_0, kp_2_1, ki_17, kp_17_0, kp_17_1, ki_32, kp_32_0, kp_32_3, ki_33, kp_33_0, kp_33_1, ki_48, kz_48, ki_49, kp_49_0, ki_50, kz_50, krr_50, ki_67, kp_67_0, kp_67_1, kp_67_2, kp_67_3, kp_67_4, ki_68, kz_68, krr_68, ki_69, kz_69, krr_69, ki_70, kz_70, ki_71, kz_71, ki_144, kp_144_0, kp_144_1, kp_144_2, kp_144_3, kp_144_4, ki_145, kz_145, ki_146, kz_146, ki_147, kz_147, ki_148, kz_148, ki_149, kp_149_0, kp_149_1, kp_149_2, ki_150, kz_150, ki_151, kz_151, ki_152, kp_152_0, kp_152_1, kp_152_2, ki_153, kz_153, ki_154, kz_154, ki_155, kz_155, ki_156, kp_156_0, kp_156_1, kp_156_2, ki_157, kz_157, ki_158, kp_158_0, ki_159, kz_159, ki_160, kz_160, ki_161, kp_161_1, kp_161_2, kp_161_3, kp_161_4, kp_161_7, kp_161_21, kp_161_22, kp_161_23, kp_161_26, kp_161_27, kp_161_28, kp_161_29, kp_161_30, kp_161_32, kp_161_33, kp_161_37, kp_161_40, ki_162, kz_162, ki_163, kz_163, ki_164, kz_164, ki_165, kz_165, ki_166, kz_166, ki_167, kz_167, ki_168, kz_168, ki_169, kz_169, ki_170, kz_170, ki_171, kz_171, ki_172, kz_172, ki_173, kz_173, ki_174, kz_174, ki_175, kz_175, ki_176, kz_176, ki_177, kz_177, ki_178, kz_178, ki_179, kz_179, li_m1000000, li_m8, li_m5, li_m1, li_0, li_1, li_2, li_3, li_4, li_5, li_6, li_7, li_8, li_9, li_10, li_11, li_12, li_13, li_14, li_15, li_16, li_17, li_18, li_19, li_20, li_21, li_22, li_23, li_24, li_25, li_26, li_27, li_28, li_29, li_30, li_31, li_32, li_42, li_43, li_46, li_47, li_48, li_49, li_52, li_57, li_59, li_60, li_64, li_89, li_94, li_97, li_99, li_100, li_108, li_112, li_120, li_122, li_150, li_255, li_300, li_450, li_500, li_671, li_890, li_1000, li_1001, li_1002, li_1003, li_1424, li_12345, li_32767, li_500000, li_1000000, li_1103515245, Int.reduceEq, Int.reduceLT, Int.reduceLE, reduceIte, Int.reduceAdd, Int.reduceSub, Int.reduceMul, Nat.reduceAdd, Nat.reduceMul, g1]
    rw [if_pos (by omega)]
end FD
