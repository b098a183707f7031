section AB2
variable {A : Am} {E : En} {ρ : Rw} {x y l f : Int}
theorem Ah_next (hf : WF ρ) (h : AheadAt A E ρ l) (ff : f = 0 ∨ f = 1) (s1 : SideAt A (sP f (l + 1)) (tn ρ x y) f) (s2 : SideAt A (sP (1 - f) (l + 1)) (tn ρ x y) (1 - f)) : AheadAt A E (tn ρ x y) (l + 1) := by
  have h1 := hf.2.1
  obtain ⟨-, -, h3, h4, h5, h6, h7, h8, h9⟩ := h
  have q : SideAt A (sP 0 (l + 1)) (tn ρ x y) 0 ∧ SideAt A (sP 1 (l + 1)) (tn ρ x y) 1 := by
    rcases ff with rfl | rfl
    · exact ⟨s1, s2⟩
    · exact ⟨s2, s1⟩
  refine ⟨q.1, q.2, TS_tn (.inl rfl) hf.2.2.2.1 h3, TS_tn (.inr rfl) hf.2.2.2.2 h4, ?_, ?_, h7, h8, h9⟩
  · rw [tn_1, bs_tn (by omega)]; exact h5
  · rw [tn_1, bs_tn (by omega)]; exact h6
theorem onT_f {u v : Int} (ff : f = 0 ∨ f = 1) : onT f (pX f u v) (pY f u v) = u := by rcases ff with rfl | rfl <;> rfl
theorem onT_o {u v : Int} (ff : f = 0 ∨ f = 1) : onT (1 - f) (pX f u v) (pY f u v) = v := by rcases ff with rfl | rfl <;> rfl
theorem SW_s (E : En) (k : Nat) (hk8 : k < 8) (ih : FW E k) : SW E k := by
  intro d l ρ u low high kk A hd hk l0 l1 hf hA hu hlh hlo hhi
  have h1 := hf.2.1
  generalize hfe : 1 - ρ 1 = f at *
  have e : f = 1 - ρ 1 := hfe.symm
  have ff : f = 0 ∨ f = 1 := by omega
  have fo : 1 - f = 0 ∨ 1 - f = 1 := by omega
  have w0 := WF_t hf ff
  have w1 := WF_t hf fo
  have u6 := may_lt6 w0 hu
  obtain ⟨c0, c1, c2, c3⟩ := fs_es (p := tf ρ (1 - f) 4) w1 w1.2.2.2.2.2.2.1.1 w1.2.2.2.2.2.2.1.2
  obtain ⟨m1, ⟨vm, m2, m3⟩, m4⟩ := rp_min (Vk k) hf e u
  have mf : ∀ v, may ρ (1 - f) v = true ↔ fs ρ (1 - f) (tf ρ (1 - f) 4) (tf ρ (1 - f) 6) ≤ v ∧ v < es ρ (1 - f) (tf ρ (1 - f) 4) (tf ρ (1 - f) 6) := fun v => by rw [may_fs w1]; exact decide_eq_true_iff
  have er : ∀ v, -(450 * ((k : Int) + 1)) ≤ sg f * Wk (Vk k) ρ (pX f u v) (pY f u v) ∧ sg f * Wk (Vk k) ρ (pX f u v) (pY f u v) ≤ 450 * ((k : Int) + 1) := by
    intro v
    have a := ed_rg ρ (pX f u v) (pY f u v)
    have b := Vk_rg k (tn ρ (pX f u v) (pY f u v))
    refine sg_rg ff ?_ ?_ <;> unfold Wk <;> omega
  have vr : -(450 * ((k : Int) + 1)) ≤ sg f * (rp (Vk k) ρ u).2 ∧ sg f * (rp (Vk k) ρ u).2 ≤ 450 * ((k : Int) + 1) := by rw [← m3]; exact er vm
  generalize hF : fs ρ (1 - f) (tf ρ (1 - f) 4) (tf ρ (1 - f) 6) = F at *
  generalize hE : es ρ (1 - f) (tf ρ (1 - f) 4) (tf ρ (1 - f) 6) = G at *
  have S1 := SD_P (l := l) ff (by omega)
  have S2 := SD_P (l := l) fo (by omega)
  have T1 := SD_P (l := l + 1) ff (by omega)
  have T2 := SD_P (l := l + 1) fo (by omega)
  have v1 := sP_v (l := l + 1) ff
  have v2 := sP_v (l := l + 1) fo
  have loop : ∀ (n : Nat) (i worst : Int) (A : Am), n = (G - i).toNat → F ≤ i → i ≤ G → AheadAt A E ρ l → (1 ≤ k → ∀ v, SideAt A (sP f (l + 1)) (tn ρ (pX f u v) (pY f u v)) f) → (-1000000 - 450 * ((k : Int) + 1) ≤ worst ∧ worst ≤ 1000000 + 450 * ((k : Int) + 1)) → (low < worst → ∀ v, F ≤ v → v < i → worst ≤ sg f * Wk (Vk k) ρ (pX f u v) (pY f u v)) → (low < worst → worst < high → (i = F ∧ worst = 1000000) ∨ (F ≤ A 71 l ∧ A 71 l < i ∧ sg f * Wk (Vk k) ρ (pX f u (A 71 l)) (pY f u (A 71 l)) = worst ∧ ∀ v, F ≤ v → v < A 71 l → worst < sg f * Wk (Vk k) ρ (pX f u v) (pY f u v))) → (worst ≤ low → sg f * (rp (Vk k) ρ u).2 ≤ worst) →
      ∃ A' r, L_Ahead_seerWorth_38 d (MM A E) 67 (iI l) (iI kk) (iI u) (iI low) (iI high) (iI worst) (iI i) = some (.inl (some (.int (iI r))), MM A' E) ∧ Win low high r (sg f * (rp (Vk k) ρ u).2) ∧ (-1000000 - 450 * ((k : Int) + 1) ≤ r ∧ r ≤ 1000000 + 450 * ((k : Int) + 1)) ∧ FrS l A A' ∧ (low < r → r < high → A' 71 l = (rp (Vk k) ρ u).1) := by
    intro n
    induction n with
    | zero =>
      intro i worst A hn i0 i1 hA hfi J0 J1 J2 J3
      have ei : i = G := by omega
      obtain ⟨-, -, g6, -, -⟩ := Ah_S hA fo
      rw [hE] at g6
      have e6 := hA.2.2.2.2.2.2.2.2
      rw [← e] at e6
      refine ⟨A, worst, ?_, ⟨J3, fun q => ?_, fun q1 q2 => ?_⟩, J0, FrS_refl, fun q1 q2 => ?_⟩
      · rw [eL_Ahead_seerWorth_38]
        simp (disch := omega) only [cond_true, cond_false, Bool.and_self, Bool.and_true, Bool.true_and, Bool.and_false, Bool.false_and, Bool.not_true, Bool.not_false, Bool.or_true, Bool.true_or, Bool.or_false, Bool.false_or, cond_dec, cI_ok, cR_ok, cV_ok, cJ_ok, bo_nr, bo_0, bo_i0, nr_0, nr_10, nr_11, nr_i0, nr_i1, bl_0, iI_add, iI_sub, iI_mul, iI_neg, qlt, qeq, qmax, qmin, qdiv, qrem, qn0, qin, I_0, w_0, I_1, w_1, I_2, w_2, I_3, w_3, I_4, w_4, I_5, w_5, I_6, w_6, I_7, w_7, I_8, w_8, I_9, w_9, I_10, w_10, I_11, w_11, I_12, w_12, I_13, w_13, I_14, w_14, I_15, w_15, I_16, w_16, I_17, w_17, I_18, w_18, I_19, w_19, I_20, w_20, I_21, w_21, I_22, w_22, I_23, w_23, I_24, w_24, I_25, w_25, I_26, w_26, I_27, w_27, I_28, w_28, I_29, w_29, I_30, w_30, I_31, w_31, I_32, w_32, I_33, w_33, I_34, w_34, I_35, w_35, I_36, w_36, I_37, w_37, I_38, w_38, I_39, w_39, I_40, w_40, I_41, w_41, I_at, w_at, th_MM, J_MM, wJ_MM, P_F, P_G, fA_in, fA_k, fA_p, fA_P, uA_P, cA_P, uA_eq, uA_k, uA_p, cA_in, cA_k, cA_p, cp_at, cp_le, qlt0, nr_ib, Nat.not_lt_zero, decide_false, ki_1, kp_1_0, kp_1_1, kp_1_2, kp_1_3, kp_1_4, kp_1_5, kp_1_6, kp_1_7, kp_1_8, kp_1_9, kp_1_10, ki_2, kp_2_0, kp_2_1, ki_17, kp_17_0, kp_17_1, ki_32, kp_32_0, kp_32_3, ki_33, kp_33_0, kp_33_1, ki_48, kz_48, ki_49, kp_49_0, ki_50, kz_50, krr_50, ki_67, kp_67_0, kp_67_1, kp_67_2, kp_67_3, kp_67_4, ki_68, kz_68, krr_68, ki_69, kz_69, krr_69, ki_70, kz_70, ki_71, kz_71, ki_144, kp_144_0, kp_144_1, kp_144_2, kp_144_3, kp_144_4, ki_145, kz_145, ki_146, kz_146, ki_147, kz_147, ki_148, kz_148, ki_149, kp_149_0, kp_149_1, kp_149_2, ki_150, kz_150, ki_151, kz_151, ki_152, kp_152_0, kp_152_1, kp_152_2, ki_153, kz_153, ki_154, kz_154, ki_155, kz_155, ki_156, kp_156_0, kp_156_1, kp_156_2, ki_157, kz_157, ki_158, kp_158_0, ki_159, kz_159, ki_160, kz_160, ki_161, kp_161_1, kp_161_2, kp_161_3, kp_161_4, kp_161_7, kp_161_21, kp_161_22, kp_161_23, kp_161_26, kp_161_27, kp_161_28, kp_161_29, kp_161_30, kp_161_32, kp_161_33, kp_161_37, kp_161_40, ki_162, kz_162, ki_163, kz_163, ki_164, kz_164, ki_165, kz_165, ki_166, kz_166, ki_167, kz_167, ki_168, kz_168, ki_169, kz_169, ki_170, kz_170, ki_171, kz_171, ki_172, kz_172, ki_173, kz_173, ki_174, kz_174, ki_175, kz_175, ki_176, kz_176, ki_177, kz_177, ki_178, kz_178, ki_179, kz_179, li_m1000000, li_m8, li_m5, li_m1, li_0, li_1, li_2, li_3, li_4, li_5, li_6, li_7, li_8, li_9, li_10, li_11, li_12, li_13, li_14, li_15, li_16, li_17, li_18, li_19, li_20, li_21, li_22, li_23, li_24, li_25, li_26, li_27, li_28, li_29, li_30, li_31, li_32, li_42, li_43, li_46, li_47, li_48, li_49, li_52, li_57, li_59, li_60, li_64, li_89, li_94, li_97, li_99, li_100, li_108, li_112, li_120, li_122, li_150, li_255, li_300, li_450, li_500, li_671, li_890, li_1000, li_1001, li_1002, li_1003, li_1424, li_12345, li_32767, li_500000, li_1000000, li_1103515245, Int.reduceEq, Int.reduceLT, Int.reduceLE, reduceIte, Int.reduceAdd, Int.reduceSub, Int.reduceMul, Nat.reduceAdd, Nat.reduceMul, e6, rr_gF fo, sz_gF fo, P_gF fo, is_S S2, g6]
        rw [if_neg (by omega)]
      · rw [← m3]
        exact J1 (by omega) vm ((mf vm).mp m2).1 (by have := ((mf vm).mp m2).2; omega)
      · rcases J2 q1 q2 with ⟨a, -⟩ | ⟨a, b, c, -⟩
        · omega
        · have z1 := m1 (A 71 l) ((mf _).mpr ⟨a, by omega⟩)
          have z2 := J1 q1 vm ((mf vm).mp m2).1 (by have := ((mf vm).mp m2).2; omega)
          omega
      · rcases J2 q1 q2 with ⟨a, -⟩ | ⟨a, b, c, dd⟩
        · omega
        · exact (m4 (A 71 l) ((mf _).mpr ⟨a, by omega⟩) (fun v hv => by rw [c]; exact J1 q1 v ((mf v).mp hv).1 (by have := ((mf v).mp hv).2; omega)) (fun v hv hl => by rw [c]; exact dd v ((mf v).mp hv).1 hl)).symm
    | succ n ihn =>
      intro i worst A hn i0 i1 hA hfi J0 J1 J2 J3
      obtain ⟨-, -, g6, -, -⟩ := Ah_S hA fo
      rw [hE] at g6
      have e6 := hA.2.2.2.2.2.2.2.2
      rw [← e] at e6
      by_cases hb : low < worst
      · have hi : may ρ (1 - f) i = true := (mf i).mpr ⟨i0, by omega⟩
        have ga := a_gain (d - 1) (by omega) hf hA l0 (by omega) e hu hi
        have gr := sg_rg ff (ed_rg ρ (pX f u i) (pY f u i)).1 (ed_rg ρ (pX f u i) (pY f u i)).2
        have eri := er i
        have step : ∀ (A1 : Am) (w : Int), FrS l A A1 → A1 71 l = A 71 l → (1 ≤ k → ∀ v, SideAt A1 (sP f (l + 1)) (tn ρ (pX f u v) (pY f u v)) f) → (-1000000 - 450 * ((k : Int) + 1) ≤ w ∧ w ≤ 1000000 + 450 * ((k : Int) + 1)) → Win low (min high worst) w (sg f * Wk (Vk k) ρ (pX f u i) (pY f u i)) → ∃ A' r, L_Ahead_seerWorth_123 d (MM A1 E) 67 (iI l) (iI kk) (iI u) (iI low) (iI high) (iI worst) (iI i) (iI w) = some (.inl (some (.int (iI r))), MM A' E) ∧ Win low high r (sg f * (rp (Vk k) ρ u).2) ∧ (-1000000 - 450 * ((k : Int) + 1) ≤ r ∧ r ≤ 1000000 + 450 * ((k : Int) + 1)) ∧ FrS l A A' ∧ (low < r → r < high → A' 71 l = (rp (Vk k) ρ u).1) := by
          intro A1 w x6 h71 hs x5 ⟨x2, x3, x4⟩
          by_cases hw : w < worst
          · have a1 : AheadAt (uA A1 71 l i) E ρ l := Ah_fr hA l0 (fun p hp => by rw [uA_P (by omega)]; exact x6.1 p hp) (fun p hp hp' => by rw [uA_P (by omega)]; exact x6.2.1 p hp hp')
            obtain ⟨A', r, y1, y2, y3, y4, y5⟩ := ihn (i + 1) w (uA A1 71 l i) (by omega) (by omega) (by omega) a1 (fun hk1 v => SideAt_fr (hs hk1 v) (fun p _ _ => uA_P (by omega))) x5 (fun q v v0 v1 => by
                by_cases z : v = i
                · rw [z]
                  by_cases z2 : min high worst ≤ w
                  · exact x3 z2
                  · exact Int.le_of_eq (x4 q (by omega))
                · have := J1 hb v v0 (by omega)
                  omega) (fun q1 q2 => by
                refine .inr ⟨?_, ?_, ?_, ?_⟩
                · rw [uA_eq]; exact i0
                · rw [uA_eq]; omega
                · rw [uA_eq]; exact (x4 q1 (by omega)).symm
                · rw [uA_eq]
                  intro v v0 v1
                  have := J1 hb v v0 v1
                  omega) (fun q => by
                have z1 := x2 q
                have z2 := m1 i hi
                omega)
            refine ⟨A', r, ?_, y2, y3, FrS_tr ⟨fun p hp => by rw [uA_P (by omega)]; exact x6.1 p hp, fun p hp hp' => by rw [uA_P (by omega)]; exact x6.2.1 p hp hp', fun j hj => by rw [uA_p _ _ _ (by decide)]; exact x6.2.2.1 j hj, fun j hj => by rw [uA_k _ (by omega)]; exact x6.2.2.2 j hj⟩ y4, y5⟩
            rw [eL_Ahead_seerWorth_123]
            simp (disch := omega) only [cond_true, cond_false, Bool.and_self, Bool.and_true, Bool.true_and, Bool.and_false, Bool.false_and, Bool.not_true, Bool.not_false, Bool.or_true, Bool.true_or, Bool.or_false, Bool.false_or, cond_dec, cI_ok, cR_ok, cV_ok, cJ_ok, bo_nr, bo_0, bo_i0, nr_0, nr_10, nr_11, nr_i0, nr_i1, bl_0, iI_add, iI_sub, iI_mul, iI_neg, qlt, qeq, qmax, qmin, qdiv, qrem, qn0, qin, I_0, w_0, I_1, w_1, I_2, w_2, I_3, w_3, I_4, w_4, I_5, w_5, I_6, w_6, I_7, w_7, I_8, w_8, I_9, w_9, I_10, w_10, I_11, w_11, I_12, w_12, I_13, w_13, I_14, w_14, I_15, w_15, I_16, w_16, I_17, w_17, I_18, w_18, I_19, w_19, I_20, w_20, I_21, w_21, I_22, w_22, I_23, w_23, I_24, w_24, I_25, w_25, I_26, w_26, I_27, w_27, I_28, w_28, I_29, w_29, I_30, w_30, I_31, w_31, I_32, w_32, I_33, w_33, I_34, w_34, I_35, w_35, I_36, w_36, I_37, w_37, I_38, w_38, I_39, w_39, I_40, w_40, I_41, w_41, I_at, w_at, th_MM, J_MM, wJ_MM, P_F, P_G, fA_in, fA_k, fA_p, fA_P, uA_P, cA_P, uA_eq, uA_k, uA_p, cA_in, cA_k, cA_p, cp_at, cp_le, qlt0, nr_ib, Nat.not_lt_zero, decide_false, ki_1, kp_1_0, kp_1_1, kp_1_2, kp_1_3, kp_1_4, kp_1_5, kp_1_6, kp_1_7, kp_1_8, kp_1_9, kp_1_10, ki_2, kp_2_0, kp_2_1, ki_17, kp_17_0, kp_17_1, ki_32, kp_32_0, kp_32_3, ki_33, kp_33_0, kp_33_1, ki_48, kz_48, ki_49, kp_49_0, ki_50, kz_50, krr_50, ki_67, kp_67_0, kp_67_1, kp_67_2, kp_67_3, kp_67_4, ki_68, kz_68, krr_68, ki_69, kz_69, krr_69, ki_70, kz_70, ki_71, kz_71, ki_144, kp_144_0, kp_144_1, kp_144_2, kp_144_3, kp_144_4, ki_145, kz_145, ki_146, kz_146, ki_147, kz_147, ki_148, kz_148, ki_149, kp_149_0, kp_149_1, kp_149_2, ki_150, kz_150, ki_151, kz_151, ki_152, kp_152_0, kp_152_1, kp_152_2, ki_153, kz_153, ki_154, kz_154, ki_155, kz_155, ki_156, kp_156_0, kp_156_1, kp_156_2, ki_157, kz_157, ki_158, kp_158_0, ki_159, kz_159, ki_160, kz_160, ki_161, kp_161_1, kp_161_2, kp_161_3, kp_161_4, kp_161_7, kp_161_21, kp_161_22, kp_161_23, kp_161_26, kp_161_27, kp_161_28, kp_161_29, kp_161_30, kp_161_32, kp_161_33, kp_161_37, kp_161_40, ki_162, kz_162, ki_163, kz_163, ki_164, kz_164, ki_165, kz_165, ki_166, kz_166, ki_167, kz_167, ki_168, kz_168, ki_169, kz_169, ki_170, kz_170, ki_171, kz_171, ki_172, kz_172, ki_173, kz_173, ki_174, kz_174, ki_175, kz_175, ki_176, kz_176, ki_177, kz_177, ki_178, kz_178, ki_179, kz_179, li_m1000000, li_m8, li_m5, li_m1, li_0, li_1, li_2, li_3, li_4, li_5, li_6, li_7, li_8, li_9, li_10, li_11, li_12, li_13, li_14, li_15, li_16, li_17, li_18, li_19, li_20, li_21, li_22, li_23, li_24, li_25, li_26, li_27, li_28, li_29, li_30, li_31, li_32, li_42, li_43, li_46, li_47, li_48, li_49, li_52, li_57, li_59, li_60, li_64, li_89, li_94, li_97, li_99, li_100, li_108, li_112, li_120, li_122, li_150, li_255, li_300, li_450, li_500, li_671, li_890, li_1000, li_1001, li_1002, li_1003, li_1424, li_12345, li_32767, li_500000, li_1000000, li_1103515245, Int.reduceEq, Int.reduceLT, Int.reduceLE, reduceIte, Int.reduceAdd, Int.reduceSub, Int.reduceMul, Nat.reduceAdd, Nat.reduceMul]
            rw [if_pos hw]
            exact y1
          · have a1 : AheadAt A1 E ρ l := Ah_fr hA l0 x6.1 x6.2.1
            have cw := x3 (by omega)
            obtain ⟨A', r, y1, y2, y3, y4, y5⟩ := ihn (i + 1) worst A1 (by omega) (by omega) (by omega) a1 hs J0 (fun q v v0 v1 => by
                by_cases z : v = i
                · rw [z]; omega
                · exact J1 hb v v0 (by omega)) (fun q1 q2 => by
                rcases J2 q1 q2 with ⟨a, b⟩ | ⟨a, b, c, dd⟩
                · omega
                · refine .inr ?_
                  rw [h71]
                  exact ⟨a, by omega, c, dd⟩) J3
            refine ⟨A', r, ?_, y2, y3, FrS_tr x6 y4, y5⟩
            rw [eL_Ahead_seerWorth_123]
            simp (disch := omega) only [cond_true, cond_false, Bool.and_self, Bool.and_true, Bool.true_and, Bool.and_false, Bool.false_and, Bool.not_true, Bool.not_false, Bool.or_true, Bool.true_or, Bool.or_false, Bool.false_or, cond_dec, cI_ok, cR_ok, cV_ok, cJ_ok, bo_nr, bo_0, bo_i0, nr_0, nr_10, nr_11, nr_i0, nr_i1, bl_0, iI_add, iI_sub, iI_mul, iI_neg, qlt, qeq, qmax, qmin, qdiv, qrem, qn0, qin, I_0, w_0, I_1, w_1, I_2, w_2, I_3, w_3, I_4, w_4, I_5, w_5, I_6, w_6, I_7, w_7, I_8, w_8, I_9, w_9, I_10, w_10, I_11, w_11, I_12, w_12, I_13, w_13, I_14, w_14, I_15, w_15, I_16, w_16, I_17, w_17, I_18, w_18, I_19, w_19, I_20, w_20, I_21, w_21, I_22, w_22, I_23, w_23, I_24, w_24, I_25, w_25, I_26, w_26, I_27, w_27, I_28, w_28, I_29, w_29, I_30, w_30, I_31, w_31, I_32, w_32, I_33, w_33, I_34, w_34, I_35, w_35, I_36, w_36, I_37, w_37, I_38, w_38, I_39, w_39, I_40, w_40, I_41, w_41, I_at, w_at, th_MM, J_MM, wJ_MM, P_F, P_G, fA_in, fA_k, fA_p, fA_P, uA_P, cA_P, uA_eq, uA_k, uA_p, cA_in, cA_k, cA_p, cp_at, cp_le, qlt0, nr_ib, Nat.not_lt_zero, decide_false, ki_1, kp_1_0, kp_1_1, kp_1_2, kp_1_3, kp_1_4, kp_1_5, kp_1_6, kp_1_7, kp_1_8, kp_1_9, kp_1_10, ki_2, kp_2_0, kp_2_1, ki_17, kp_17_0, kp_17_1, ki_32, kp_32_0, kp_32_3, ki_33, kp_33_0, kp_33_1, ki_48, kz_48, ki_49, kp_49_0, ki_50, kz_50, krr_50, ki_67, kp_67_0, kp_67_1, kp_67_2, kp_67_3, kp_67_4, ki_68, kz_68, krr_68, ki_69, kz_69, krr_69, ki_70, kz_70, ki_71, kz_71, ki_144, kp_144_0, kp_144_1, kp_144_2, kp_144_3, kp_144_4, ki_145, kz_145, ki_146, kz_146, ki_147, kz_147, ki_148, kz_148, ki_149, kp_149_0, kp_149_1, kp_149_2, ki_150, kz_150, ki_151, kz_151, ki_152, kp_152_0, kp_152_1, kp_152_2, ki_153, kz_153, ki_154, kz_154, ki_155, kz_155, ki_156, kp_156_0, kp_156_1, kp_156_2, ki_157, kz_157, ki_158, kp_158_0, ki_159, kz_159, ki_160, kz_160, ki_161, kp_161_1, kp_161_2, kp_161_3, kp_161_4, kp_161_7, kp_161_21, kp_161_22, kp_161_23, kp_161_26, kp_161_27, kp_161_28, kp_161_29, kp_161_30, kp_161_32, kp_161_33, kp_161_37, kp_161_40, ki_162, kz_162, ki_163, kz_163, ki_164, kz_164, ki_165, kz_165, ki_166, kz_166, ki_167, kz_167, ki_168, kz_168, ki_169, kz_169, ki_170, kz_170, ki_171, kz_171, ki_172, kz_172, ki_173, kz_173, ki_174, kz_174, ki_175, kz_175, ki_176, kz_176, ki_177, kz_177, ki_178, kz_178, ki_179, kz_179, li_m1000000, li_m8, li_m5, li_m1, li_0, li_1, li_2, li_3, li_4, li_5, li_6, li_7, li_8, li_9, li_10, li_11, li_12, li_13, li_14, li_15, li_16, li_17, li_18, li_19, li_20, li_21, li_22, li_23, li_24, li_25, li_26, li_27, li_28, li_29, li_30, li_31, li_32, li_42, li_43, li_46, li_47, li_48, li_49, li_52, li_57, li_59, li_60, li_64, li_89, li_94, li_97, li_99, li_100, li_108, li_112, li_120, li_122, li_150, li_255, li_300, li_450, li_500, li_671, li_890, li_1000, li_1001, li_1002, li_1003, li_1424, li_12345, li_32767, li_500000, li_1000000, li_1103515245, Int.reduceEq, Int.reduceLT, Int.reduceLE, reduceIte, Int.reduceAdd, Int.reduceSub, Int.reduceMul, Nat.reduceAdd, Nat.reduceMul]
            rw [if_neg hw]
            exact y1
        have ew : sg f * Wk (Vk k) ρ (pX f u i) (pY f u i) = sg f * ed ρ (pX f u i) (pY f u i) + sg f * Vk k (tn ρ (pX f u i) (pY f u i)) := Int.mul_add _ _ _
        generalize hg : sg f * ed ρ (pX f u i) (pY f u i) = g at *
        by_cases hk0 : k = 0
        · have e0 : sg f * Wk (Vk k) ρ (pX f u i) (pY f u i) = g := by
            rw [ew, hk0]
            show g + sg f * 0 = g
            omega
          obtain ⟨A', r, y1, y2⟩ := step A g FrS_refl rfl hfi (by omega) ⟨fun _ => by omega, fun _ => by omega, fun _ _ => by omega⟩
          refine ⟨A', r, ?_, y2⟩
          rw [eL_Ahead_seerWorth_38]
          simp (disch := omega) only [cond_true, cond_false, Bool.and_self, Bool.and_true, Bool.true_and, Bool.and_false, Bool.false_and, Bool.not_true, Bool.not_false, Bool.or_true, Bool.true_or, Bool.or_false, Bool.false_or, cond_dec, cI_ok, cR_ok, cV_ok, cJ_ok, bo_nr, bo_0, bo_i0, nr_0, nr_10, nr_11, nr_i0, nr_i1, bl_0, iI_add, iI_sub, iI_mul, iI_neg, qlt, qeq, qmax, qmin, qdiv, qrem, qn0, qin, I_0, w_0, I_1, w_1, I_2, w_2, I_3, w_3, I_4, w_4, I_5, w_5, I_6, w_6, I_7, w_7, I_8, w_8, I_9, w_9, I_10, w_10, I_11, w_11, I_12, w_12, I_13, w_13, I_14, w_14, I_15, w_15, I_16, w_16, I_17, w_17, I_18, w_18, I_19, w_19, I_20, w_20, I_21, w_21, I_22, w_22, I_23, w_23, I_24, w_24, I_25, w_25, I_26, w_26, I_27, w_27, I_28, w_28, I_29, w_29, I_30, w_30, I_31, w_31, I_32, w_32, I_33, w_33, I_34, w_34, I_35, w_35, I_36, w_36, I_37, w_37, I_38, w_38, I_39, w_39, I_40, w_40, I_41, w_41, I_at, w_at, th_MM, J_MM, wJ_MM, P_F, P_G, fA_in, fA_k, fA_p, fA_P, uA_P, cA_P, uA_eq, uA_k, uA_p, cA_in, cA_k, cA_p, cp_at, cp_le, qlt0, nr_ib, Nat.not_lt_zero, decide_false, ki_1, kp_1_0, kp_1_1, kp_1_2, kp_1_3, kp_1_4, kp_1_5, kp_1_6, kp_1_7, kp_1_8, kp_1_9, kp_1_10, ki_2, kp_2_0, kp_2_1, ki_17, kp_17_0, kp_17_1, ki_32, kp_32_0, kp_32_3, ki_33, kp_33_0, kp_33_1, ki_48, kz_48, ki_49, kp_49_0, ki_50, kz_50, krr_50, ki_67, kp_67_0, kp_67_1, kp_67_2, kp_67_3, kp_67_4, ki_68, kz_68, krr_68, ki_69, kz_69, krr_69, ki_70, kz_70, ki_71, kz_71, ki_144, kp_144_0, kp_144_1, kp_144_2, kp_144_3, kp_144_4, ki_145, kz_145, ki_146, kz_146, ki_147, kz_147, ki_148, kz_148, ki_149, kp_149_0, kp_149_1, kp_149_2, ki_150, kz_150, ki_151, kz_151, ki_152, kp_152_0, kp_152_1, kp_152_2, ki_153, kz_153, ki_154, kz_154, ki_155, kz_155, ki_156, kp_156_0, kp_156_1, kp_156_2, ki_157, kz_157, ki_158, kp_158_0, ki_159, kz_159, ki_160, kz_160, ki_161, kp_161_1, kp_161_2, kp_161_3, kp_161_4, kp_161_7, kp_161_21, kp_161_22, kp_161_23, kp_161_26, kp_161_27, kp_161_28, kp_161_29, kp_161_30, kp_161_32, kp_161_33, kp_161_37, kp_161_40, ki_162, kz_162, ki_163, kz_163, ki_164, kz_164, ki_165, kz_165, ki_166, kz_166, ki_167, kz_167, ki_168, kz_168, ki_169, kz_169, ki_170, kz_170, ki_171, kz_171, ki_172, kz_172, ki_173, kz_173, ki_174, kz_174, ki_175, kz_175, ki_176, kz_176, ki_177, kz_177, ki_178, kz_178, ki_179, kz_179, li_m1000000, li_m8, li_m5, li_m1, li_0, li_1, li_2, li_3, li_4, li_5, li_6, li_7, li_8, li_9, li_10, li_11, li_12, li_13, li_14, li_15, li_16, li_17, li_18, li_19, li_20, li_21, li_22, li_23, li_24, li_25, li_26, li_27, li_28, li_29, li_30, li_31, li_32, li_42, li_43, li_46, li_47, li_48, li_49, li_52, li_57, li_59, li_60, li_64, li_89, li_94, li_97, li_99, li_100, li_108, li_112, li_120, li_122, li_150, li_255, li_300, li_450, li_500, li_671, li_890, li_1000, li_1001, li_1002, li_1003, li_1424, li_12345, li_32767, li_500000, li_1000000, li_1103515245, Int.reduceEq, Int.reduceLT, Int.reduceLE, reduceIte, Int.reduceAdd, Int.reduceSub, Int.reduceMul, Nat.reduceAdd, Nat.reduceMul, e6, rr_gF fo, sz_gF fo, P_gF fo, is_S S2, g6, ga]
          rw [if_pos (by omega), if_pos hb, if_neg (by omega)]
          exact y1
        · obtain ⟨A2, z1, z2, z3⟩ := a_step1 (E := E) (x := pX f u i) (y := pY f u i) (d - 1) (by omega) hf hA l0 (by omega) fo (by rw [onT_o ff]; omega) (by rw [onT_o ff]; omega)
          rw [onT_o ff] at z1
          have b1 : AheadAt A2 E ρ l := Ah_fr hA l0 (fun p hp => z3 p (by omega)) (fun p hp hp' => z3 p (by omega))
          have b2 : ∀ v, SideAt A2 (sP f (l + 1)) (tn ρ (pX f u v) (pY f u v)) f := fun v => SideAt_fr (hfi (by omega) v) (fun p _ _ => z3 p (by omega))
          obtain ⟨A3, r, y1, ⟨y2, y3, y4⟩, y5, y6, -⟩ := ih (d - 1) (l + 1) (tn ρ (pX f u i) (pY f u i)) (low - g) (min high worst - g) (kk - 1) A2 (by omega) (by omega) (by omega) (by omega) (WF_tn hf) (Ah_next hf b1 ff (b2 i) z2) (by omega) (by omega) (by omega)
          rw [tn_1, ← e] at y2 y3 y4
          have q6 : FrS l A A3 := ⟨fun p hp => (y6.1 p hp).trans (z3 p (by omega)), fun p hp hp' => (y6.2.1 p hp (by omega)).trans (z3 p (by omega)), fun j hj => (y6.2.2.1 j (by omega)).trans (by rw [z3 70 (by omega)]), fun j hj => (y6.2.2.2 j (by omega)).trans (by rw [z3 71 (by omega)])⟩
          obtain ⟨A', r', t1, t2⟩ := step A3 (g + r) q6 ((y6.2.2.2 l (by omega)).trans (by rw [z3 71 (by omega)])) (fun _ v => SideAt_fr (b2 v) (fun p _ _ => y6.2.1 p (by omega) (by omega))) (by omega) ⟨fun q => by have := y2 (by omega); omega, fun q => by have := y3 (by omega); omega, fun q1 q2 => by have := y4 (by omega) (by omega); omega⟩
          refine ⟨A', r', ?_, t2⟩
          rw [eL_Ahead_seerWorth_38]
          simp (disch := omega) only [cond_true, cond_false, Bool.and_self, Bool.and_true, Bool.true_and, Bool.and_false, Bool.false_and, Bool.not_true, Bool.not_false, Bool.or_true, Bool.true_or, Bool.or_false, Bool.false_or, cond_dec, cI_ok, cR_ok, cV_ok, cJ_ok, bo_nr, bo_0, bo_i0, nr_0, nr_10, nr_11, nr_i0, nr_i1, bl_0, iI_add, iI_sub, iI_mul, iI_neg, qlt, qeq, qmax, qmin, qdiv, qrem, qn0, qin, I_0, w_0, I_1, w_1, I_2, w_2, I_3, w_3, I_4, w_4, I_5, w_5, I_6, w_6, I_7, w_7, I_8, w_8, I_9, w_9, I_10, w_10, I_11, w_11, I_12, w_12, I_13, w_13, I_14, w_14, I_15, w_15, I_16, w_16, I_17, w_17, I_18, w_18, I_19, w_19, I_20, w_20, I_21, w_21, I_22, w_22, I_23, w_23, I_24, w_24, I_25, w_25, I_26, w_26, I_27, w_27, I_28, w_28, I_29, w_29, I_30, w_30, I_31, w_31, I_32, w_32, I_33, w_33, I_34, w_34, I_35, w_35, I_36, w_36, I_37, w_37, I_38, w_38, I_39, w_39, I_40, w_40, I_41, w_41, I_at, w_at, th_MM, J_MM, wJ_MM, P_F, P_G, fA_in, fA_k, fA_p, fA_P, uA_P, cA_P, uA_eq, uA_k, uA_p, cA_in, cA_k, cA_p, cp_at, cp_le, qlt0, nr_ib, Nat.not_lt_zero, decide_false, ki_1, kp_1_0, kp_1_1, kp_1_2, kp_1_3, kp_1_4, kp_1_5, kp_1_6, kp_1_7, kp_1_8, kp_1_9, kp_1_10, ki_2, kp_2_0, kp_2_1, ki_17, kp_17_0, kp_17_1, ki_32, kp_32_0, kp_32_3, ki_33, kp_33_0, kp_33_1, ki_48, kz_48, ki_49, kp_49_0, ki_50, kz_50, krr_50, ki_67, kp_67_0, kp_67_1, kp_67_2, kp_67_3, kp_67_4, ki_68, kz_68, krr_68, ki_69, kz_69, krr_69, ki_70, kz_70, ki_71, kz_71, ki_144, kp_144_0, kp_144_1, kp_144_2, kp_144_3, kp_144_4, ki_145, kz_145, ki_146, kz_146, ki_147, kz_147, ki_148, kz_148, ki_149, kp_149_0, kp_149_1, kp_149_2, ki_150, kz_150, ki_151, kz_151, ki_152, kp_152_0, kp_152_1, kp_152_2, ki_153, kz_153, ki_154, kz_154, ki_155, kz_155, ki_156, kp_156_0, kp_156_1, kp_156_2, ki_157, kz_157, ki_158, kp_158_0, ki_159, kz_159, ki_160, kz_160, ki_161, kp_161_1, kp_161_2, kp_161_3, kp_161_4, kp_161_7, kp_161_21, kp_161_22, kp_161_23, kp_161_26, kp_161_27, kp_161_28, kp_161_29, kp_161_30, kp_161_32, kp_161_33, kp_161_37, kp_161_40, ki_162, kz_162, ki_163, kz_163, ki_164, kz_164, ki_165, kz_165, ki_166, kz_166, ki_167, kz_167, ki_168, kz_168, ki_169, kz_169, ki_170, kz_170, ki_171, kz_171, ki_172, kz_172, ki_173, kz_173, ki_174, kz_174, ki_175, kz_175, ki_176, kz_176, ki_177, kz_177, ki_178, kz_178, ki_179, kz_179, li_m1000000, li_m8, li_m5, li_m1, li_0, li_1, li_2, li_3, li_4, li_5, li_6, li_7, li_8, li_9, li_10, li_11, li_12, li_13, li_14, li_15, li_16, li_17, li_18, li_19, li_20, li_21, li_22, li_23, li_24, li_25, li_26, li_27, li_28, li_29, li_30, li_31, li_32, li_42, li_43, li_46, li_47, li_48, li_49, li_52, li_57, li_59, li_60, li_64, li_89, li_94, li_97, li_99, li_100, li_108, li_112, li_120, li_122, li_150, li_255, li_300, li_450, li_500, li_671, li_890, li_1000, li_1001, li_1002, li_1003, li_1424, li_12345, li_32767, li_500000, li_1000000, li_1103515245, Int.reduceEq, Int.reduceLT, Int.reduceLE, reduceIte, Int.reduceAdd, Int.reduceSub, Int.reduceMul, Nat.reduceAdd, Nat.reduceMul, e6, rr_gF fo, sz_gF fo, P_gF fo, is_S S2, is_S T2, g6, ga, z1, y1]
          rw [if_pos (by omega), if_pos hb, if_pos (by omega)]
          exact t1
      · refine ⟨A, worst, ?_, ⟨J3, fun q => by omega, fun q1 q2 => by omega⟩, J0, FrS_refl, fun q1 q2 => by omega⟩
        rw [eL_Ahead_seerWorth_38]
        simp (disch := omega) only [cond_true, cond_false, Bool.and_self, Bool.and_true, Bool.true_and, Bool.and_false, Bool.false_and, Bool.not_true, Bool.not_false, Bool.or_true, Bool.true_or, Bool.or_false, Bool.false_or, cond_dec, cI_ok, cR_ok, cV_ok, cJ_ok, bo_nr, bo_0, bo_i0, nr_0, nr_10, nr_11, nr_i0, nr_i1, bl_0, iI_add, iI_sub, iI_mul, iI_neg, qlt, qeq, qmax, qmin, qdiv, qrem, qn0, qin, I_0, w_0, I_1, w_1, I_2, w_2, I_3, w_3, I_4, w_4, I_5, w_5, I_6, w_6, I_7, w_7, I_8, w_8, I_9, w_9, I_10, w_10, I_11, w_11, I_12, w_12, I_13, w_13, I_14, w_14, I_15, w_15, I_16, w_16, I_17, w_17, I_18, w_18, I_19, w_19, I_20, w_20, I_21, w_21, I_22, w_22, I_23, w_23, I_24, w_24, I_25, w_25, I_26, w_26, I_27, w_27, I_28, w_28, I_29, w_29, I_30, w_30, I_31, w_31, I_32, w_32, I_33, w_33, I_34, w_34, I_35, w_35, I_36, w_36, I_37, w_37, I_38, w_38, I_39, w_39, I_40, w_40, I_41, w_41, I_at, w_at, th_MM, J_MM, wJ_MM, P_F, P_G, fA_in, fA_k, fA_p, fA_P, uA_P, cA_P, uA_eq, uA_k, uA_p, cA_in, cA_k, cA_p, cp_at, cp_le, qlt0, nr_ib, Nat.not_lt_zero, decide_false, ki_1, kp_1_0, kp_1_1, kp_1_2, kp_1_3, kp_1_4, kp_1_5, kp_1_6, kp_1_7, kp_1_8, kp_1_9, kp_1_10, ki_2, kp_2_0, kp_2_1, ki_17, kp_17_0, kp_17_1, ki_32, kp_32_0, kp_32_3, ki_33, kp_33_0, kp_33_1, ki_48, kz_48, ki_49, kp_49_0, ki_50, kz_50, krr_50, ki_67, kp_67_0, kp_67_1, kp_67_2, kp_67_3, kp_67_4, ki_68, kz_68, krr_68, ki_69, kz_69, krr_69, ki_70, kz_70, ki_71, kz_71, ki_144, kp_144_0, kp_144_1, kp_144_2, kp_144_3, kp_144_4, ki_145, kz_145, ki_146, kz_146, ki_147, kz_147, ki_148, kz_148, ki_149, kp_149_0, kp_149_1, kp_149_2, ki_150, kz_150, ki_151, kz_151, ki_152, kp_152_0, kp_152_1, kp_152_2, ki_153, kz_153, ki_154, kz_154, ki_155, kz_155, ki_156, kp_156_0, kp_156_1, kp_156_2, ki_157, kz_157, ki_158, kp_158_0, ki_159, kz_159, ki_160, kz_160, ki_161, kp_161_1, kp_161_2, kp_161_3, kp_161_4, kp_161_7, kp_161_21, kp_161_22, kp_161_23, kp_161_26, kp_161_27, kp_161_28, kp_161_29, kp_161_30, kp_161_32, kp_161_33, kp_161_37, kp_161_40, ki_162, kz_162, ki_163, kz_163, ki_164, kz_164, ki_165, kz_165, ki_166, kz_166, ki_167, kz_167, ki_168, kz_168, ki_169, kz_169, ki_170, kz_170, ki_171, kz_171, ki_172, kz_172, ki_173, kz_173, ki_174, kz_174, ki_175, kz_175, ki_176, kz_176, ki_177, kz_177, ki_178, kz_178, ki_179, kz_179, li_m1000000, li_m8, li_m5, li_m1, li_0, li_1, li_2, li_3, li_4, li_5, li_6, li_7, li_8, li_9, li_10, li_11, li_12, li_13, li_14, li_15, li_16, li_17, li_18, li_19, li_20, li_21, li_22, li_23, li_24, li_25, li_26, li_27, li_28, li_29, li_30, li_31, li_32, li_42, li_43, li_46, li_47, li_48, li_49, li_52, li_57, li_59, li_60, li_64, li_89, li_94, li_97, li_99, li_100, li_108, li_112, li_120, li_122, li_150, li_255, li_300, li_450, li_500, li_671, li_890, li_1000, li_1001, li_1002, li_1003, li_1424, li_12345, li_32767, li_500000, li_1000000, li_1103515245, Int.reduceEq, Int.reduceLT, Int.reduceLE, reduceIte, Int.reduceAdd, Int.reduceSub, Int.reduceMul, Nat.reduceAdd, Nat.reduceMul, e6, rr_gF fo, sz_gF fo, P_gF fo, is_S S2, g6]
        rw [if_pos (by omega), if_neg hb]
  have e5 := hA.2.2.2.2.2.2.2.1
  rw [← e] at e5
  have e6 := hA.2.2.2.2.2.2.2.2
  rw [← e] at e6
  by_cases hk0 : k = 0
  · obtain ⟨-, g5, g6, -, -⟩ := Ah_S hA fo
    rw [hF] at g5
    obtain ⟨A', r, y1, y2, y3, y4, y5⟩ := loop _ F 1000000 A rfl (by omega) (by omega) hA (fun q => by omega) (by omega) (fun q v v0 v1 => by omega) (fun q1 q2 => .inl ⟨rfl, rfl⟩) (fun q => by omega)
    refine ⟨A', r, ?_, y2, y3, y4, y5⟩
    rw [eD_Ahead_seerWorth]
    simp (disch := omega) only [cond_true, cond_false, Bool.and_self, Bool.and_true, Bool.true_and, Bool.and_false, Bool.false_and, Bool.not_true, Bool.not_false, Bool.or_true, Bool.true_or, Bool.or_false, Bool.false_or, cond_dec, cI_ok, cR_ok, cV_ok, cJ_ok, bo_nr, bo_0, bo_i0, nr_0, nr_10, nr_11, nr_i0, nr_i1, bl_0, iI_add, iI_sub, iI_mul, iI_neg, qlt, qeq, qmax, qmin, qdiv, qrem, qn0, qin, I_0, w_0, I_1, w_1, I_2, w_2, I_3, w_3, I_4, w_4, I_5, w_5, I_6, w_6, I_7, w_7, I_8, w_8, I_9, w_9, I_10, w_10, I_11, w_11, I_12, w_12, I_13, w_13, I_14, w_14, I_15, w_15, I_16, w_16, I_17, w_17, I_18, w_18, I_19, w_19, I_20, w_20, I_21, w_21, I_22, w_22, I_23, w_23, I_24, w_24, I_25, w_25, I_26, w_26, I_27, w_27, I_28, w_28, I_29, w_29, I_30, w_30, I_31, w_31, I_32, w_32, I_33, w_33, I_34, w_34, I_35, w_35, I_36, w_36, I_37, w_37, I_38, w_38, I_39, w_39, I_40, w_40, I_41, w_41, I_at, w_at, th_MM, J_MM, wJ_MM, P_F, P_G, fA_in, fA_k, fA_p, fA_P, uA_P, cA_P, uA_eq, uA_k, uA_p, cA_in, cA_k, cA_p, cp_at, cp_le, qlt0, nr_ib, Nat.not_lt_zero, decide_false, ki_1, kp_1_0, kp_1_1, kp_1_2, kp_1_3, kp_1_4, kp_1_5, kp_1_6, kp_1_7, kp_1_8, kp_1_9, kp_1_10, ki_2, kp_2_0, kp_2_1, ki_17, kp_17_0, kp_17_1, ki_32, kp_32_0, kp_32_3, ki_33, kp_33_0, kp_33_1, ki_48, kz_48, ki_49, kp_49_0, ki_50, kz_50, krr_50, ki_67, kp_67_0, kp_67_1, kp_67_2, kp_67_3, kp_67_4, ki_68, kz_68, krr_68, ki_69, kz_69, krr_69, ki_70, kz_70, ki_71, kz_71, ki_144, kp_144_0, kp_144_1, kp_144_2, kp_144_3, kp_144_4, ki_145, kz_145, ki_146, kz_146, ki_147, kz_147, ki_148, kz_148, ki_149, kp_149_0, kp_149_1, kp_149_2, ki_150, kz_150, ki_151, kz_151, ki_152, kp_152_0, kp_152_1, kp_152_2, ki_153, kz_153, ki_154, kz_154, ki_155, kz_155, ki_156, kp_156_0, kp_156_1, kp_156_2, ki_157, kz_157, ki_158, kp_158_0, ki_159, kz_159, ki_160, kz_160, ki_161, kp_161_1, kp_161_2, kp_161_3, kp_161_4, kp_161_7, kp_161_21, kp_161_22, kp_161_23, kp_161_26, kp_161_27, kp_161_28, kp_161_29, kp_161_30, kp_161_32, kp_161_33, kp_161_37, kp_161_40, ki_162, kz_162, ki_163, kz_163, ki_164, kz_164, ki_165, kz_165, ki_166, kz_166, ki_167, kz_167, ki_168, kz_168, ki_169, kz_169, ki_170, kz_170, ki_171, kz_171, ki_172, kz_172, ki_173, kz_173, ki_174, kz_174, ki_175, kz_175, ki_176, kz_176, ki_177, kz_177, ki_178, kz_178, ki_179, kz_179, li_m1000000, li_m8, li_m5, li_m1, li_0, li_1, li_2, li_3, li_4, li_5, li_6, li_7, li_8, li_9, li_10, li_11, li_12, li_13, li_14, li_15, li_16, li_17, li_18, li_19, li_20, li_21, li_22, li_23, li_24, li_25, li_26, li_27, li_28, li_29, li_30, li_31, li_32, li_42, li_43, li_46, li_47, li_48, li_49, li_52, li_57, li_59, li_60, li_64, li_89, li_94, li_97, li_99, li_100, li_108, li_112, li_120, li_122, li_150, li_255, li_300, li_450, li_500, li_671, li_890, li_1000, li_1001, li_1002, li_1003, li_1424, li_12345, li_32767, li_500000, li_1000000, li_1103515245, Int.reduceEq, Int.reduceLT, Int.reduceLE, reduceIte, Int.reduceAdd, Int.reduceSub, Int.reduceMul, Nat.reduceAdd, Nat.reduceMul, e5, e6, rr_gF fo, sz_gF fo, P_gF fo, is_S S2, g5]
    rw [if_neg (by omega)]
    exact y1
  · obtain ⟨A2, z1, z2, z3⟩ := a_step1 (E := E) (x := pX f u 0) (y := pY f u 0) (d - 1) (by omega) hf hA l0 (by omega) ff (by rw [onT_f ff]; omega) (by rw [onT_f ff]; omega)
    rw [onT_f ff] at z1
    have b1 : AheadAt A2 E ρ l := Ah_fr hA l0 (fun p hp => z3 p (by omega)) (fun p hp hp' => z3 p (by omega))
    obtain ⟨-, g5, g6, -, -⟩ := Ah_S b1 fo
    rw [hF] at g5
    obtain ⟨A', r, y1, y2, y3, y4, y5⟩ := loop _ F 1000000 A2 rfl (by omega) (by omega) b1 (fun _ v => SideAt_y ff (by rw [onT_f ff, onT_f ff]) w0 z2) (by omega) (fun q v v0 v1 => by omega) (fun q1 q2 => .inl ⟨rfl, rfl⟩) (fun q => by omega)
    refine ⟨A', r, ?_, y2, y3, FrS_tr ⟨fun p hp => z3 p (by omega), fun p hp hp' => z3 p (by omega), fun j hj => by rw [z3 70 (by omega)], fun j hj => by rw [z3 71 (by omega)]⟩ y4, y5⟩
    rw [eD_Ahead_seerWorth]
    simp (disch := omega) only [cond_true, cond_false, Bool.and_self, Bool.and_true, Bool.true_and, Bool.and_false, Bool.false_and, Bool.not_true, Bool.not_false, Bool.or_true, Bool.true_or, Bool.or_false, Bool.false_or, cond_dec, cI_ok, cR_ok, cV_ok, cJ_ok, bo_nr, bo_0, bo_i0, nr_0, nr_10, nr_11, nr_i0, nr_i1, bl_0, iI_add, iI_sub, iI_mul, iI_neg, qlt, qeq, qmax, qmin, qdiv, qrem, qn0, qin, I_0, w_0, I_1, w_1, I_2, w_2, I_3, w_3, I_4, w_4, I_5, w_5, I_6, w_6, I_7, w_7, I_8, w_8, I_9, w_9, I_10, w_10, I_11, w_11, I_12, w_12, I_13, w_13, I_14, w_14, I_15, w_15, I_16, w_16, I_17, w_17, I_18, w_18, I_19, w_19, I_20, w_20, I_21, w_21, I_22, w_22, I_23, w_23, I_24, w_24, I_25, w_25, I_26, w_26, I_27, w_27, I_28, w_28, I_29, w_29, I_30, w_30, I_31, w_31, I_32, w_32, I_33, w_33, I_34, w_34, I_35, w_35, I_36, w_36, I_37, w_37, I_38, w_38, I_39, w_39, I_40, w_40, I_41, w_41, I_at, w_at, th_MM, J_MM, wJ_MM, P_F, P_G, fA_in, fA_k, fA_p, fA_P, uA_P, cA_P, uA_eq, uA_k, uA_p, cA_in, cA_k, cA_p, cp_at, cp_le, qlt0, nr_ib, Nat.not_lt_zero, decide_false, ki_1, kp_1_0, kp_1_1, kp_1_2, kp_1_3, kp_1_4, kp_1_5, kp_1_6, kp_1_7, kp_1_8, kp_1_9, kp_1_10, ki_2, kp_2_0, kp_2_1, ki_17, kp_17_0, kp_17_1, ki_32, kp_32_0, kp_32_3, ki_33, kp_33_0, kp_33_1, ki_48, kz_48, ki_49, kp_49_0, ki_50, kz_50, krr_50, ki_67, kp_67_0, kp_67_1, kp_67_2, kp_67_3, kp_67_4, ki_68, kz_68, krr_68, ki_69, kz_69, krr_69, ki_70, kz_70, ki_71, kz_71, ki_144, kp_144_0, kp_144_1, kp_144_2, kp_144_3, kp_144_4, ki_145, kz_145, ki_146, kz_146, ki_147, kz_147, ki_148, kz_148, ki_149, kp_149_0, kp_149_1, kp_149_2, ki_150, kz_150, ki_151, kz_151, ki_152, kp_152_0, kp_152_1, kp_152_2, ki_153, kz_153, ki_154, kz_154, ki_155, kz_155, ki_156, kp_156_0, kp_156_1, kp_156_2, ki_157, kz_157, ki_158, kp_158_0, ki_159, kz_159, ki_160, kz_160, ki_161, kp_161_1, kp_161_2, kp_161_3, kp_161_4, kp_161_7, kp_161_21, kp_161_22, kp_161_23, kp_161_26, kp_161_27, kp_161_28, kp_161_29, kp_161_30, kp_161_32, kp_161_33, kp_161_37, kp_161_40, ki_162, kz_162, ki_163, kz_163, ki_164, kz_164, ki_165, kz_165, ki_166, kz_166, ki_167, kz_167, ki_168, kz_168, ki_169, kz_169, ki_170, kz_170, ki_171, kz_171, ki_172, kz_172, ki_173, kz_173, ki_174, kz_174, ki_175, kz_175, ki_176, kz_176, ki_177, kz_177, ki_178, kz_178, ki_179, kz_179, li_m1000000, li_m8, li_m5, li_m1, li_0, li_1, li_2, li_3, li_4, li_5, li_6, li_7, li_8, li_9, li_10, li_11, li_12, li_13, li_14, li_15, li_16, li_17, li_18, li_19, li_20, li_21, li_22, li_23, li_24, li_25, li_26, li_27, li_28, li_29, li_30, li_31, li_32, li_42, li_43, li_46, li_47, li_48, li_49, li_52, li_57, li_59, li_60, li_64, li_89, li_94, li_97, li_99, li_100, li_108, li_112, li_120, li_122, li_150, li_255, li_300, li_450, li_500, li_671, li_890, li_1000, li_1001, li_1002, li_1003, li_1424, li_12345, li_32767, li_500000, li_1000000, li_1103515245, Int.reduceEq, Int.reduceLT, Int.reduceLE, reduceIte, Int.reduceAdd, Int.reduceSub, Int.reduceMul, Nat.reduceAdd, Nat.reduceMul, e5, e6, rr_gF fo, sz_gF fo, P_gF fo, rr_gF ff, sz_gF ff, P_gF ff, is_S S1, is_S T1, is_S S2, g5, z1]
    rw [if_pos (by omega)]
    exact y1
theorem FW_all (E : En) : ∀ k : Nat, k ≤ 8 → FW E k := by
  intro k
  induction k with
  | zero => intro _; exact FW_z E
  | succ k ih => intro h; exact FW_s E k (by omega) (SW_s E k (by omega) (ih (by omega)))
theorem SW_all (E : En) (k : Nat) (h : k < 8) : SW E k := SW_s E k h (FW_all E k (by omega))
end AB2
