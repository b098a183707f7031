/-! ===== a game is read: the class, all tokens ===== -/
section CU
variable {A : Am} {E : En} {b : Int → Int} {n s w T u v k t cu cw p : Int} {ρ τ : Rw}
theorem CM_g (h : CMr A w T u ρ) (hw : ¬ (3 ≤ w ∧ w ≤ 7)) (hk : k = 0 ∨ k = 2) : CMr (uA (uA A 33 (k + 2) v) 32 9 10) 10 T u (up ρ k v) := by
  obtain ⟨a1, a2, a3, a4, a5⟩ := h
  refine ⟨uA_eq _ _ _, ?_, ?_, ?_, fun t ht => ?_⟩
  · rw [uA_k _ (by decide), uA_p _ _ _ (by decide)]; exact a2
  · rw [uA_k _ (by decide), uA_p _ _ _ (by decide)]; exact a3
  · rcases hk with rfl | rfl
    · simp (disch := omega) only [fA_in, fA_k, fA_p, fA_P, uA_P, cA_P, uA_eq, uA_k, uA_p, cA_in, cA_k, cA_p, cp_at, cp_le, qlt0, nr_ib, Nat.not_lt_zero, decide_false, up_eq, up_ne, Int.reduceAdd, true_and]
      exact a4.2
    · simp (disch := omega) only [fA_in, fA_k, fA_p, fA_P, uA_P, cA_P, uA_eq, uA_k, uA_p, cA_in, cA_k, cA_p, cp_at, cp_le, qlt0, nr_ib, Nat.not_lt_zero, decide_false, up_eq, up_ne, Int.reduceAdd, and_true]
      exact ⟨a4.1, a4.2.1⟩
  · have := a5 t ht
    have e := tR33 ht
    have fr : ∀ j, 3 + 43 * t ≤ j → j < 46 + 43 * t → up ρ k v j = ρ j := fun j a b => up_ne (by omega)
    rw [cuF_n hw, cwF_n hw] at this
    rw [cuF_n (by decide), cwF_n (by decide), un_cg ht fr]
    exact PT_cg ht this (fun p _ _ => by rw [uA_P (by omega), uA_P (by omega)]) fr
theorem CM_last (h : CMr A 9 T u ρ) : CMr (uA (uA A 33 3 (T - 1)) 32 9 1) 1 T u (up ρ 1 (T - 1)) := by
  obtain ⟨a1, a2, a3, a4, a5⟩ := h
  refine ⟨uA_eq _ _ _, ?_, ?_, ?_, fun t ht => ?_⟩
  · rw [uA_k _ (by decide), uA_p _ _ _ (by decide)]; exact a2
  · rw [uA_k _ (by decide), uA_p _ _ _ (by decide)]; exact a3
  · simp (disch := omega) only [fA_in, fA_k, fA_p, fA_P, uA_P, cA_P, uA_eq, uA_k, uA_p, cA_in, cA_k, cA_p, cp_at, cp_le, qlt0, nr_ib, Nat.not_lt_zero, decide_false, up_eq, up_ne, true_and]
    exact ⟨a4.1, a4.2.2⟩
  · have := a5 t ht
    have e := tR33 ht
    have fr : ∀ j, 3 + 43 * t ≤ j → j < 46 + 43 * t → up ρ 1 (T - 1) j = ρ j := fun j a b => up_ne (by omega)
    rw [cuF_n (by decide), cwF_n (by decide)] at this
    rw [cuF_n (by decide), cwF_n (by decide), un_cg ht fr]
    exact PT_cg ht this (fun p _ _ => by rw [uA_P (by omega), uA_P (by omega)]) fr
theorem CM_save (h : CMr A w T u ρ) (hw : w = 1 ∨ w = 9) (tt : T - 1 = 0 ∨ T - 1 = 1) : CMr (uA (uA A (tR 33 (T - 1)) 2 v) 32 9 10) 10 T u (up ρ (3 + 43 * (T - 1) + 2) v) := by
  obtain ⟨a1, a2, a3, a4, a5⟩ := h
  have nw : ¬ (3 ≤ w ∧ w ≤ 7) := by omega
  have eT := tR33 tt
  have f : ∀ j, j ≠ 3 + 43 * (T - 1) + 2 → up ρ (3 + 43 * (T - 1) + 2) v j = ρ j := fun j hj => up_ne hj
  have fs : up ρ (3 + 43 * (T - 1) + 2) v (3 + 43 * (T - 1) + 2) = v := up_eq ..
  generalize hτ : up ρ (3 + 43 * (T - 1) + 2) v = τ at *
  refine ⟨uA_eq _ _ _, ?_, ?_, ?_, fun t ht => ?_⟩
  · rw [uA_k _ (by decide), uA_p _ _ _ (by omega)]; exact a2
  · rw [uA_k _ (by decide), uA_p _ _ _ (by omega)]; exact a3
  · rw [uA_P (by decide), uA_P (by omega), f 0 (by omega), f 1 (by omega), f 2 (by omega)]; exact a4
  · have := a5 t ht
    have eT' := tR33 ht
    rw [cuF_n nw, cwF_n nw] at this
    rw [cuF_n (by decide), cwF_n (by decide)]
    by_cases c : t = T - 1
    · subst c
      have e : ∀ j, j ≠ 2 → tf τ (T - 1) j = tf ρ (T - 1) j := fun j hj => f _ (by omega)
      have e2 : tf τ (T - 1) 2 = v := fs
      have eU : un τ (T - 1) = un ρ (T - 1) := by unfold un; rw [e 0 (by decide), e 1 (by decide)]
      obtain ⟨b1, b2⟩ := this
      refine ⟨?_, fun x y c1 c2 c3 c4 hd => ?_⟩
      · rw [uA_P (by omega), uA_eq, uA_k _ (by decide), uA_k _ (by decide), uA_k _ (by decide), uA_k _ (by decide), uA_k _ (by decide), uA_k _ (by decide), e 0 (by decide), e 1 (by decide), e2, e 3 (by decide), e 4 (by decide), e 5 (by decide), e 6 (by decide)]
        exact ⟨b1.1, b1.2.1, rfl, b1.2.2.2⟩
      · have : uf τ (T - 1) x y = uf ρ (T - 1) x y := f _ (by omega)
        rw [eU] at hd
        rw [uA_P (by omega), uA_P (by omega), this]
        exact b2 x y c1 c2 c3 c4 hd
    · have fr : ∀ j, 3 + 43 * t ≤ j → j < 46 + 43 * t → τ j = ρ j := fun j a b => f j (by omega)
      rw [un_cg ht fr]
      exact PT_cg ht this (fun p _ _ => by rw [uA_P (by omega), uA_P (by omega)]) fr
theorem CM_team (h : CMr A 11 T u ρ) : CMr (uA (uA A 32 10 (T + 1)) 32 9 9) 9 (T + 1) u ρ := by
  obtain ⟨a1, a2, a3, a4, a5⟩ := h
  refine ⟨uA_eq _ _ _, ?_, ?_, ?_, fun t ht => ?_⟩
  · rw [uA_k _ (by decide), uA_eq]
  · rw [uA_k _ (by decide), uA_k _ (by decide)]; exact a3
  · rw [uA_P (by decide), uA_P (by decide)]; exact a4
  · have := a5 t ht
    have eT' := tR33 ht
    rw [cuF_n (by decide), cwF_n (by decide)] at this
    rw [cuF_n (by decide), cwF_n (by decide)]
    exact PT_cg ht this (fun p _ _ => by rw [uA_P (by omega), uA_P (by omega)]) (fun _ _ _ => rfl)
theorem CM_st (h : CMr A 11 T u ρ) (tt : T - 1 = 0 ∨ T - 1 = 1) {f : Int} (hf : f = 0 ∨ f = 1) : CMr (uA (uA (uA A 32 11 (un ρ (T - 1))) (tR 33 (T - 1)) f (tf ρ (T - 1) f + 1)) 32 9 3) 3 T (un ρ (T - 1)) (up ρ (3 + 43 * (T - 1) + f) (tf ρ (T - 1) f + 1)) := by
  obtain ⟨a1, a2, a3, a4, a5⟩ := h
  have eT := tR33 tt
  have g : ∀ j, j ≠ 3 + 43 * (T - 1) + f → up ρ (3 + 43 * (T - 1) + f) (tf ρ (T - 1) f + 1) j = ρ j := fun j hj => up_ne hj
  have gs : up ρ (3 + 43 * (T - 1) + f) (tf ρ (T - 1) f + 1) (3 + 43 * (T - 1) + f) = tf ρ (T - 1) f + 1 := up_eq ..
  generalize hτ : up ρ (3 + 43 * (T - 1) + f) (tf ρ (T - 1) f + 1) = τ at *
  have e : ∀ j, j ≠ f → tf τ (T - 1) j = tf ρ (T - 1) j := fun j hj => g _ (by omega)
  have ef : tf τ (T - 1) f = tf ρ (T - 1) f + 1 := gs
  refine ⟨uA_eq _ _ _, ?_, ?_, ?_, fun t ht => ?_⟩
  · rw [uA_k _ (by decide), uA_p _ _ _ (by omega), uA_k _ (by decide)]; exact a2
  · rw [uA_k _ (by decide), uA_p _ _ _ (by omega), uA_eq]
  · rw [uA_P (by decide), uA_P (by omega), uA_P (by omega), g 0 (by omega), g 1 (by omega), g 2 (by omega)]; exact a4
  · have := a5 t ht
    have eT' := tR33 ht
    rw [cuF_n (by decide), cwF_n (by decide)] at this
    by_cases c : t = T - 1
    · subst c
      rw [cuF_y (by decide), cwF_y (by decide)]
      obtain ⟨b1, b2⟩ := this
      refine ⟨?_, fun x y c1 c2 c3 c4 hd => ?_⟩
      · rcases hf with rfl | rfl
        · rw [ef, e 1 (by decide), e 2 (by decide), e 3 (by decide), e 4 (by decide), e 5 (by decide), e 6 (by decide)]
          simp (disch := omega) only [fA_in, fA_k, fA_p, fA_P, uA_P, cA_P, uA_eq, uA_k, uA_p, cA_in, cA_k, cA_p, cp_at, cp_le, qlt0, nr_ib, Nat.not_lt_zero, decide_false, true_and]
          exact b1.2
        · rw [ef, e 0 (by decide), e 2 (by decide), e 3 (by decide), e 4 (by decide), e 5 (by decide), e 6 (by decide)]
          simp (disch := omega) only [fA_in, fA_k, fA_p, fA_P, uA_P, cA_P, uA_eq, uA_k, uA_p, cA_in, cA_k, cA_p, cp_at, cp_le, qlt0, nr_ib, Nat.not_lt_zero, decide_false, true_and]
          exact ⟨b1.1, b1.2.2⟩
      · have q : uf τ (T - 1) x y = uf ρ (T - 1) x y := g _ (by omega)
        rw [uA_P (by omega), uA_P (by omega), uA_P (by omega), q]
        exact b2 x y c1 c2 c3 c4 (by unfold dn at hd ⊢; omega)
    · have fr : ∀ j, 3 + 43 * t ≤ j → j < 46 + 43 * t → τ j = ρ j := fun j a b => g j (by omega)
      rw [cuF_o c, cwF_o c, un_cg ht fr]
      exact PT_cg ht this (fun p _ _ => by rw [uA_P (by omega), uA_P (by omega), uA_P (by omega)]) fr
theorem c_tnum (d : Nat) (hd : 2 < d) (hE : SE E) (hv : VM w T u ρ) (hc : CMr A w T u ρ) (hk : (k = w ∧ 0 ≤ w ∧ w ≤ 7) ∨ (w = 9 ∧ k = 1)) (h7 : A 32 7 = tK b n s) (h8 : tK b n s = 1 → A 32 8 = min 1000 (tV b n s)) : TRr (D_Reader_takeNumber d (MM A E) 32 (iI k)) A E (stNum b n s k T u ρ) := by
  have kr := tK_rg (b := b) (n := n) (s := s)
  have vr := tV_rg (b := b) (n := n) (s := s)
  have hn := hiN_rg (k := k) (by omega) (by omega)
  obtain ⟨o1, o2, o3, o4⟩ := oL hE (k := k) (by omega) (by omega)
  have od1 : od_i (UInt32.ofNat 20) = true := by decide
  have od2 : od_i (UInt32.ofNat 21) = true := by decide
  have t3 := hv.2.2.1
  have tr := hv.1
  have c2 := hc.2.1
  unfold stNum
  by_cases c : tK b n s = 1
  · rw [if_pos c]
    rw [c] at h7
    have h8' := h8 c
    by_cases q : loN k ≤ tV b n s ∧ tV b n s ≤ hiN k
    · rw [if_pos q]
      have h8v : A 32 8 = tV b n s := by omega
      generalize tV b n s = v at *
      show ∃ A', D_Reader_takeNumber d (MM A E) 32 (iI k) = some (Sum.inl (some (Value.int (iI 0))), MM A' E) ∧ CMr A' (nmW k) T u (nmR k T u v ρ) ∧ FTr A A'
      by_cases k3 : 3 ≤ k
      · have ek : k = w := by omega
        subst ek
        obtain ⟨A', x1, x2, x3⟩ := c_unum (E := E) (d - 1) (by omega) hv hc (by omega) h8v
        refine ⟨A', ?_, x2, x3⟩
        rw [eD_Reader_takeNumber]
        simp (disch := omega) only [cond_true, cond_false, Bool.and_self, Bool.and_true, Bool.true_and, Bool.and_false, Bool.false_and, Bool.not_true, Bool.not_false, Bool.or_true, Bool.true_or, Bool.or_false, Bool.false_or, cond_dec, cI_ok, cR_ok, cV_ok, cJ_ok, bo_nr, bo_0, bo_i0, nr_0, nr_10, nr_11, nr_i0, nr_i1, bl_0, iI_add, iI_sub, iI_mul, iI_neg, qlt, qeq, qmax, qmin, qdiv, qrem, qn0, qin, I_0, w_0, I_1, w_1, I_2, w_2, I_3, w_3, I_4, w_4, I_5, w_5, I_6, w_6, I_7, w_7, I_8, w_8, I_9, w_9, I_10, w_10, I_11, w_11, I_12, w_12, I_13, w_13, I_14, w_14, I_15, w_15, I_16, w_16, I_17, w_17, I_18, w_18, I_19, w_19, I_20, w_20, I_21, w_21, I_22, w_22, I_23, w_23, I_24, w_24, I_25, w_25, I_26, w_26, I_27, w_27, I_28, w_28, I_29, w_29, I_30, w_30, I_31, w_31, I_32, w_32, I_33, w_33, I_34, w_34, I_35, w_35, I_36, w_36, I_37, w_37, I_38, w_38, I_39, w_39, I_40, w_40, I_41, w_41, I_at, w_at, th_MM, J_MM, wJ_MM, P_F, P_G, fA_in, fA_k, fA_p, fA_P, uA_P, cA_P, uA_eq, uA_k, uA_p, cA_in, cA_k, cA_p, cp_at, cp_le, qlt0, nr_ib, Nat.not_lt_zero, decide_false, ki_1, kp_1_0, kp_1_1, kp_1_2, kp_1_3, kp_1_4, kp_1_5, kp_1_6, kp_1_7, kp_1_8, kp_1_9, kp_1_10, ki_2, kp_2_0, kp_2_1, ki_17, kp_17_0, kp_17_1, ki_32, kp_32_0, kp_32_3, ki_33, kp_33_0, kp_33_1, ki_48, kz_48, ki_49, kp_49_0, ki_50, kz_50, krr_50, ki_67, kp_67_0, kp_67_1, kp_67_2, kp_67_3, kp_67_4, ki_68, kz_68, krr_68, ki_69, kz_69, krr_69, ki_70, kz_70, ki_71, kz_71, ki_144, kp_144_0, kp_144_1, kp_144_2, kp_144_3, kp_144_4, ki_145, kz_145, ki_146, kz_146, ki_147, kz_147, ki_148, kz_148, ki_149, kp_149_0, kp_149_1, kp_149_2, ki_150, kz_150, ki_151, kz_151, ki_152, kp_152_0, kp_152_1, kp_152_2, ki_153, kz_153, ki_154, kz_154, ki_155, kz_155, ki_156, kp_156_0, kp_156_1, kp_156_2, ki_157, kz_157, ki_158, kp_158_0, ki_159, kz_159, ki_160, kz_160, ki_161, kp_161_1, kp_161_2, kp_161_3, kp_161_4, kp_161_7, kp_161_21, kp_161_22, kp_161_23, kp_161_26, kp_161_27, kp_161_28, kp_161_29, kp_161_30, kp_161_32, kp_161_33, kp_161_37, kp_161_40, ki_162, kz_162, ki_163, kz_163, ki_164, kz_164, ki_165, kz_165, ki_166, kz_166, ki_167, kz_167, ki_168, kz_168, ki_169, kz_169, ki_170, kz_170, ki_171, kz_171, ki_172, kz_172, ki_173, kz_173, ki_174, kz_174, ki_175, kz_175, ki_176, kz_176, ki_177, kz_177, ki_178, kz_178, ki_179, kz_179, li_m1000000, li_m8, li_m5, li_m1, li_0, li_1, li_2, li_3, li_4, li_5, li_6, li_7, li_8, li_9, li_10, li_11, li_12, li_13, li_14, li_15, li_16, li_17, li_18, li_19, li_20, li_21, li_22, li_23, li_24, li_25, li_26, li_27, li_28, li_29, li_30, li_31, li_32, li_42, li_43, li_46, li_47, li_48, li_49, li_52, li_57, li_59, li_60, li_64, li_89, li_94, li_97, li_99, li_100, li_108, li_112, li_120, li_122, li_150, li_255, li_300, li_450, li_500, li_671, li_890, li_1000, li_1001, li_1002, li_1003, li_1424, li_12345, li_32767, li_500000, li_1000000, li_1103515245, Int.reduceEq, Int.reduceLT, Int.reduceLE, reduceIte, Int.reduceAdd, Int.reduceSub, Int.reduceMul, Nat.reduceAdd, Nat.reduceMul, h7, h8v, od1, od2, O_MM, L_MM, o1, o2, o3, o4, x1]
        rw [if_neg (by omega), if_neg (by omega), if_neg (by omega), if_neg (by omega), if_neg (by omega)]
      · have nw : nmW k = 10 := by unfold nmW; rw [if_pos (by omega)]
        rw [nw]
        by_cases k1 : k = 1
        · subst k1
          have tt : T - 1 = 0 ∨ T - 1 = 1 := by have := t3 (by omega); omega
          have eT := tR33 tt
          have hT := TM33 tt
          have f := r_of (A := A) (E := E) (R := 33) (d - 1) (.inr (.inr rfl)) tt
          refine ⟨_, ?_, CM_save (v := v) hc (by omega) tt, FT_tr (FT_o (by omega)) (FT_32 (.inl rfl))⟩
          rw [eD_Reader_takeNumber]
          simp (disch := omega) only [cond_true, cond_false, Bool.and_self, Bool.and_true, Bool.true_and, Bool.and_false, Bool.false_and, Bool.not_true, Bool.not_false, Bool.or_true, Bool.true_or, Bool.or_false, Bool.false_or, cond_dec, cI_ok, cR_ok, cV_ok, cJ_ok, bo_nr, bo_0, bo_i0, nr_0, nr_10, nr_11, nr_i0, nr_i1, bl_0, iI_add, iI_sub, iI_mul, iI_neg, qlt, qeq, qmax, qmin, qdiv, qrem, qn0, qin, I_0, w_0, I_1, w_1, I_2, w_2, I_3, w_3, I_4, w_4, I_5, w_5, I_6, w_6, I_7, w_7, I_8, w_8, I_9, w_9, I_10, w_10, I_11, w_11, I_12, w_12, I_13, w_13, I_14, w_14, I_15, w_15, I_16, w_16, I_17, w_17, I_18, w_18, I_19, w_19, I_20, w_20, I_21, w_21, I_22, w_22, I_23, w_23, I_24, w_24, I_25, w_25, I_26, w_26, I_27, w_27, I_28, w_28, I_29, w_29, I_30, w_30, I_31, w_31, I_32, w_32, I_33, w_33, I_34, w_34, I_35, w_35, I_36, w_36, I_37, w_37, I_38, w_38, I_39, w_39, I_40, w_40, I_41, w_41, I_at, w_at, th_MM, J_MM, wJ_MM, P_F, P_G, fA_in, fA_k, fA_p, fA_P, uA_P, cA_P, uA_eq, uA_k, uA_p, cA_in, cA_k, cA_p, cp_at, cp_le, qlt0, nr_ib, Nat.not_lt_zero, decide_false, ki_1, kp_1_0, kp_1_1, kp_1_2, kp_1_3, kp_1_4, kp_1_5, kp_1_6, kp_1_7, kp_1_8, kp_1_9, kp_1_10, ki_2, kp_2_0, kp_2_1, ki_17, kp_17_0, kp_17_1, ki_32, kp_32_0, kp_32_3, ki_33, kp_33_0, kp_33_1, ki_48, kz_48, ki_49, kp_49_0, ki_50, kz_50, krr_50, ki_67, kp_67_0, kp_67_1, kp_67_2, kp_67_3, kp_67_4, ki_68, kz_68, krr_68, ki_69, kz_69, krr_69, ki_70, kz_70, ki_71, kz_71, ki_144, kp_144_0, kp_144_1, kp_144_2, kp_144_3, kp_144_4, ki_145, kz_145, ki_146, kz_146, ki_147, kz_147, ki_148, kz_148, ki_149, kp_149_0, kp_149_1, kp_149_2, ki_150, kz_150, ki_151, kz_151, ki_152, kp_152_0, kp_152_1, kp_152_2, ki_153, kz_153, ki_154, kz_154, ki_155, kz_155, ki_156, kp_156_0, kp_156_1, kp_156_2, ki_157, kz_157, ki_158, kp_158_0, ki_159, kz_159, ki_160, kz_160, ki_161, kp_161_1, kp_161_2, kp_161_3, kp_161_4, kp_161_7, kp_161_21, kp_161_22, kp_161_23, kp_161_26, kp_161_27, kp_161_28, kp_161_29, kp_161_30, kp_161_32, kp_161_33, kp_161_37, kp_161_40, ki_162, kz_162, ki_163, kz_163, ki_164, kz_164, ki_165, kz_165, ki_166, kz_166, ki_167, kz_167, ki_168, kz_168, ki_169, kz_169, ki_170, kz_170, ki_171, kz_171, ki_172, kz_172, ki_173, kz_173, ki_174, kz_174, ki_175, kz_175, ki_176, kz_176, ki_177, kz_177, ki_178, kz_178, ki_179, kz_179, li_m1000000, li_m8, li_m5, li_m1, li_0, li_1, li_2, li_3, li_4, li_5, li_6, li_7, li_8, li_9, li_10, li_11, li_12, li_13, li_14, li_15, li_16, li_17, li_18, li_19, li_20, li_21, li_22, li_23, li_24, li_25, li_26, li_27, li_28, li_29, li_30, li_31, li_32, li_42, li_43, li_46, li_47, li_48, li_49, li_52, li_57, li_59, li_60, li_64, li_89, li_94, li_97, li_99, li_100, li_108, li_112, li_120, li_122, li_150, li_255, li_300, li_450, li_500, li_671, li_890, li_1000, li_1001, li_1002, li_1003, li_1424, li_12345, li_32767, li_500000, li_1000000, li_1103515245, Int.reduceEq, Int.reduceLT, Int.reduceLE, reduceIte, Int.reduceAdd, Int.reduceSub, Int.reduceMul, Nat.reduceAdd, Nat.reduceMul, h7, h8v, od1, od2, O_MM, L_MM, o1, o2, o3, o4, c2, f, is_T hT, c_want]
          rw [if_neg (by omega), if_neg (by omega)]
        · have hk2 : k = 0 ∨ k = 2 := by omega
          have eR : nmR k T u v ρ = up ρ k v := by
            rcases hk2 with rfl | rfl <;> rfl
          rw [eR]
          refine ⟨_, ?_, CM_g (v := v) hc (by omega) hk2, FT_tr (FT_o (by decide)) (FT_32 (.inl rfl))⟩
          rw [eD_Reader_takeNumber]
          rcases hk2 with rfl | rfl
          · simp (disch := omega) only [cond_true, cond_false, Bool.and_self, Bool.and_true, Bool.true_and, Bool.and_false, Bool.false_and, Bool.not_true, Bool.not_false, Bool.or_true, Bool.true_or, Bool.or_false, Bool.false_or, cond_dec, cI_ok, cR_ok, cV_ok, cJ_ok, bo_nr, bo_0, bo_i0, nr_0, nr_10, nr_11, nr_i0, nr_i1, bl_0, iI_add, iI_sub, iI_mul, iI_neg, qlt, qeq, qmax, qmin, qdiv, qrem, qn0, qin, I_0, w_0, I_1, w_1, I_2, w_2, I_3, w_3, I_4, w_4, I_5, w_5, I_6, w_6, I_7, w_7, I_8, w_8, I_9, w_9, I_10, w_10, I_11, w_11, I_12, w_12, I_13, w_13, I_14, w_14, I_15, w_15, I_16, w_16, I_17, w_17, I_18, w_18, I_19, w_19, I_20, w_20, I_21, w_21, I_22, w_22, I_23, w_23, I_24, w_24, I_25, w_25, I_26, w_26, I_27, w_27, I_28, w_28, I_29, w_29, I_30, w_30, I_31, w_31, I_32, w_32, I_33, w_33, I_34, w_34, I_35, w_35, I_36, w_36, I_37, w_37, I_38, w_38, I_39, w_39, I_40, w_40, I_41, w_41, I_at, w_at, th_MM, J_MM, wJ_MM, P_F, P_G, fA_in, fA_k, fA_p, fA_P, uA_P, cA_P, uA_eq, uA_k, uA_p, cA_in, cA_k, cA_p, cp_at, cp_le, qlt0, nr_ib, Nat.not_lt_zero, decide_false, ki_1, kp_1_0, kp_1_1, kp_1_2, kp_1_3, kp_1_4, kp_1_5, kp_1_6, kp_1_7, kp_1_8, kp_1_9, kp_1_10, ki_2, kp_2_0, kp_2_1, ki_17, kp_17_0, kp_17_1, ki_32, kp_32_0, kp_32_3, ki_33, kp_33_0, kp_33_1, ki_48, kz_48, ki_49, kp_49_0, ki_50, kz_50, krr_50, ki_67, kp_67_0, kp_67_1, kp_67_2, kp_67_3, kp_67_4, ki_68, kz_68, krr_68, ki_69, kz_69, krr_69, ki_70, kz_70, ki_71, kz_71, ki_144, kp_144_0, kp_144_1, kp_144_2, kp_144_3, kp_144_4, ki_145, kz_145, ki_146, kz_146, ki_147, kz_147, ki_148, kz_148, ki_149, kp_149_0, kp_149_1, kp_149_2, ki_150, kz_150, ki_151, kz_151, ki_152, kp_152_0, kp_152_1, kp_152_2, ki_153, kz_153, ki_154, kz_154, ki_155, kz_155, ki_156, kp_156_0, kp_156_1, kp_156_2, ki_157, kz_157, ki_158, kp_158_0, ki_159, kz_159, ki_160, kz_160, ki_161, kp_161_1, kp_161_2, kp_161_3, kp_161_4, kp_161_7, kp_161_21, kp_161_22, kp_161_23, kp_161_26, kp_161_27, kp_161_28, kp_161_29, kp_161_30, kp_161_32, kp_161_33, kp_161_37, kp_161_40, ki_162, kz_162, ki_163, kz_163, ki_164, kz_164, ki_165, kz_165, ki_166, kz_166, ki_167, kz_167, ki_168, kz_168, ki_169, kz_169, ki_170, kz_170, ki_171, kz_171, ki_172, kz_172, ki_173, kz_173, ki_174, kz_174, ki_175, kz_175, ki_176, kz_176, ki_177, kz_177, ki_178, kz_178, ki_179, kz_179, li_m1000000, li_m8, li_m5, li_m1, li_0, li_1, li_2, li_3, li_4, li_5, li_6, li_7, li_8, li_9, li_10, li_11, li_12, li_13, li_14, li_15, li_16, li_17, li_18, li_19, li_20, li_21, li_22, li_23, li_24, li_25, li_26, li_27, li_28, li_29, li_30, li_31, li_32, li_42, li_43, li_46, li_47, li_48, li_49, li_52, li_57, li_59, li_60, li_64, li_89, li_94, li_97, li_99, li_100, li_108, li_112, li_120, li_122, li_150, li_255, li_300, li_450, li_500, li_671, li_890, li_1000, li_1001, li_1002, li_1003, li_1424, li_12345, li_32767, li_500000, li_1000000, li_1103515245, Int.reduceEq, Int.reduceLT, Int.reduceLE, reduceIte, Int.reduceAdd, Int.reduceSub, Int.reduceMul, Nat.reduceAdd, Nat.reduceMul, h7, h8v, od1, od2, O_MM, L_MM, o1, o2, o3, o4, c_want]
            rw [if_neg (by omega), if_neg (by omega)]
          · simp (disch := omega) only [cond_true, cond_false, Bool.and_self, Bool.and_true, Bool.true_and, Bool.and_false, Bool.false_and, Bool.not_true, Bool.not_false, Bool.or_true, Bool.true_or, Bool.or_false, Bool.false_or, cond_dec, cI_ok, cR_ok, cV_ok, cJ_ok, bo_nr, bo_0, bo_i0, nr_0, nr_10, nr_11, nr_i0, nr_i1, bl_0, iI_add, iI_sub, iI_mul, iI_neg, qlt, qeq, qmax, qmin, qdiv, qrem, qn0, qin, I_0, w_0, I_1, w_1, I_2, w_2, I_3, w_3, I_4, w_4, I_5, w_5, I_6, w_6, I_7, w_7, I_8, w_8, I_9, w_9, I_10, w_10, I_11, w_11, I_12, w_12, I_13, w_13, I_14, w_14, I_15, w_15, I_16, w_16, I_17, w_17, I_18, w_18, I_19, w_19, I_20, w_20, I_21, w_21, I_22, w_22, I_23, w_23, I_24, w_24, I_25, w_25, I_26, w_26, I_27, w_27, I_28, w_28, I_29, w_29, I_30, w_30, I_31, w_31, I_32, w_32, I_33, w_33, I_34, w_34, I_35, w_35, I_36, w_36, I_37, w_37, I_38, w_38, I_39, w_39, I_40, w_40, I_41, w_41, I_at, w_at, th_MM, J_MM, wJ_MM, P_F, P_G, fA_in, fA_k, fA_p, fA_P, uA_P, cA_P, uA_eq, uA_k, uA_p, cA_in, cA_k, cA_p, cp_at, cp_le, qlt0, nr_ib, Nat.not_lt_zero, decide_false, ki_1, kp_1_0, kp_1_1, kp_1_2, kp_1_3, kp_1_4, kp_1_5, kp_1_6, kp_1_7, kp_1_8, kp_1_9, kp_1_10, ki_2, kp_2_0, kp_2_1, ki_17, kp_17_0, kp_17_1, ki_32, kp_32_0, kp_32_3, ki_33, kp_33_0, kp_33_1, ki_48, kz_48, ki_49, kp_49_0, ki_50, kz_50, krr_50, ki_67, kp_67_0, kp_67_1, kp_67_2, kp_67_3, kp_67_4, ki_68, kz_68, krr_68, ki_69, kz_69, krr_69, ki_70, kz_70, ki_71, kz_71, ki_144, kp_144_0, kp_144_1, kp_144_2, kp_144_3, kp_144_4, ki_145, kz_145, ki_146, kz_146, ki_147, kz_147, ki_148, kz_148, ki_149, kp_149_0, kp_149_1, kp_149_2, ki_150, kz_150, ki_151, kz_151, ki_152, kp_152_0, kp_152_1, kp_152_2, ki_153, kz_153, ki_154, kz_154, ki_155, kz_155, ki_156, kp_156_0, kp_156_1, kp_156_2, ki_157, kz_157, ki_158, kp_158_0, ki_159, kz_159, ki_160, kz_160, ki_161, kp_161_1, kp_161_2, kp_161_3, kp_161_4, kp_161_7, kp_161_21, kp_161_22, kp_161_23, kp_161_26, kp_161_27, kp_161_28, kp_161_29, kp_161_30, kp_161_32, kp_161_33, kp_161_37, kp_161_40, ki_162, kz_162, ki_163, kz_163, ki_164, kz_164, ki_165, kz_165, ki_166, kz_166, ki_167, kz_167, ki_168, kz_168, ki_169, kz_169, ki_170, kz_170, ki_171, kz_171, ki_172, kz_172, ki_173, kz_173, ki_174, kz_174, ki_175, kz_175, ki_176, kz_176, ki_177, kz_177, ki_178, kz_178, ki_179, kz_179, li_m1000000, li_m8, li_m5, li_m1, li_0, li_1, li_2, li_3, li_4, li_5, li_6, li_7, li_8, li_9, li_10, li_11, li_12, li_13, li_14, li_15, li_16, li_17, li_18, li_19, li_20, li_21, li_22, li_23, li_24, li_25, li_26, li_27, li_28, li_29, li_30, li_31, li_32, li_42, li_43, li_46, li_47, li_48, li_49, li_52, li_57, li_59, li_60, li_64, li_89, li_94, li_97, li_99, li_100, li_108, li_112, li_120, li_122, li_150, li_255, li_300, li_450, li_500, li_671, li_890, li_1000, li_1001, li_1002, li_1003, li_1424, li_12345, li_32767, li_500000, li_1000000, li_1103515245, Int.reduceEq, Int.reduceLT, Int.reduceLE, reduceIte, Int.reduceAdd, Int.reduceSub, Int.reduceMul, Nat.reduceAdd, Nat.reduceMul, h7, h8v, od1, od2, O_MM, L_MM, o1, o2, o3, o4, c_want]
            rw [if_neg (by omega), if_neg (by omega)]
    · rw [if_neg q]
      refine ⟨?_, by decide, by decide⟩
      rw [eD_Reader_takeNumber]
      simp (disch := omega) only [cond_true, cond_false, Bool.and_self, Bool.and_true, Bool.true_and, Bool.and_false, Bool.false_and, Bool.not_true, Bool.not_false, Bool.or_true, Bool.true_or, Bool.or_false, Bool.false_or, cond_dec, cI_ok, cR_ok, cV_ok, cJ_ok, bo_nr, bo_0, bo_i0, nr_0, nr_10, nr_11, nr_i0, nr_i1, bl_0, iI_add, iI_sub, iI_mul, iI_neg, qlt, qeq, qmax, qmin, qdiv, qrem, qn0, qin, I_0, w_0, I_1, w_1, I_2, w_2, I_3, w_3, I_4, w_4, I_5, w_5, I_6, w_6, I_7, w_7, I_8, w_8, I_9, w_9, I_10, w_10, I_11, w_11, I_12, w_12, I_13, w_13, I_14, w_14, I_15, w_15, I_16, w_16, I_17, w_17, I_18, w_18, I_19, w_19, I_20, w_20, I_21, w_21, I_22, w_22, I_23, w_23, I_24, w_24, I_25, w_25, I_26, w_26, I_27, w_27, I_28, w_28, I_29, w_29, I_30, w_30, I_31, w_31, I_32, w_32, I_33, w_33, I_34, w_34, I_35, w_35, I_36, w_36, I_37, w_37, I_38, w_38, I_39, w_39, I_40, w_40, I_41, w_41, I_at, w_at, th_MM, J_MM, wJ_MM, P_F, P_G, fA_in, fA_k, fA_p, fA_P, uA_P, cA_P, uA_eq, uA_k, uA_p, cA_in, cA_k, cA_p, cp_at, cp_le, qlt0, nr_ib, Nat.not_lt_zero, decide_false, ki_1, kp_1_0, kp_1_1, kp_1_2, kp_1_3, kp_1_4, kp_1_5, kp_1_6, kp_1_7, kp_1_8, kp_1_9, kp_1_10, ki_2, kp_2_0, kp_2_1, ki_17, kp_17_0, kp_17_1, ki_32, kp_32_0, kp_32_3, ki_33, kp_33_0, kp_33_1, ki_48, kz_48, ki_49, kp_49_0, ki_50, kz_50, krr_50, ki_67, kp_67_0, kp_67_1, kp_67_2, kp_67_3, kp_67_4, ki_68, kz_68, krr_68, ki_69, kz_69, krr_69, ki_70, kz_70, ki_71, kz_71, ki_144, kp_144_0, kp_144_1, kp_144_2, kp_144_3, kp_144_4, ki_145, kz_145, ki_146, kz_146, ki_147, kz_147, ki_148, kz_148, ki_149, kp_149_0, kp_149_1, kp_149_2, ki_150, kz_150, ki_151, kz_151, ki_152, kp_152_0, kp_152_1, kp_152_2, ki_153, kz_153, ki_154, kz_154, ki_155, kz_155, ki_156, kp_156_0, kp_156_1, kp_156_2, ki_157, kz_157, ki_158, kp_158_0, ki_159, kz_159, ki_160, kz_160, ki_161, kp_161_1, kp_161_2, kp_161_3, kp_161_4, kp_161_7, kp_161_21, kp_161_22, kp_161_23, kp_161_26, kp_161_27, kp_161_28, kp_161_29, kp_161_30, kp_161_32, kp_161_33, kp_161_37, kp_161_40, ki_162, kz_162, ki_163, kz_163, ki_164, kz_164, ki_165, kz_165, ki_166, kz_166, ki_167, kz_167, ki_168, kz_168, ki_169, kz_169, ki_170, kz_170, ki_171, kz_171, ki_172, kz_172, ki_173, kz_173, ki_174, kz_174, ki_175, kz_175, ki_176, kz_176, ki_177, kz_177, ki_178, kz_178, ki_179, kz_179, li_m1000000, li_m8, li_m5, li_m1, li_0, li_1, li_2, li_3, li_4, li_5, li_6, li_7, li_8, li_9, li_10, li_11, li_12, li_13, li_14, li_15, li_16, li_17, li_18, li_19, li_20, li_21, li_22, li_23, li_24, li_25, li_26, li_27, li_28, li_29, li_30, li_31, li_32, li_42, li_43, li_46, li_47, li_48, li_49, li_52, li_57, li_59, li_60, li_64, li_89, li_94, li_97, li_99, li_100, li_108, li_112, li_120, li_122, li_150, li_255, li_300, li_450, li_500, li_671, li_890, li_1000, li_1001, li_1002, li_1003, li_1424, li_12345, li_32767, li_500000, li_1000000, li_1103515245, Int.reduceEq, Int.reduceLT, Int.reduceLE, reduceIte, Int.reduceAdd, Int.reduceSub, Int.reduceMul, Nat.reduceAdd, Nat.reduceMul, h7, h8', od1, od2, O_MM, L_MM, o1, o2, o3, o4]
      rw [if_neg (by omega), if_neg (by omega)]
      by_cases q2 : min 1000 (tV b n s) < loN k
      · rw [if_pos q2]
      · rw [if_neg q2, if_pos (by omega)]
  · rw [if_neg c]
    refine ⟨?_, by decide, by decide⟩
    rw [eD_Reader_takeNumber]
    simp (disch := omega) only [cond_true, cond_false, Bool.and_self, Bool.and_true, Bool.true_and, Bool.and_false, Bool.false_and, Bool.not_true, Bool.not_false, Bool.or_true, Bool.true_or, Bool.or_false, Bool.false_or, cond_dec, cI_ok, cR_ok, cV_ok, cJ_ok, bo_nr, bo_0, bo_i0, nr_0, nr_10, nr_11, nr_i0, nr_i1, bl_0, iI_add, iI_sub, iI_mul, iI_neg, qlt, qeq, qmax, qmin, qdiv, qrem, qn0, qin, I_0, w_0, I_1, w_1, I_2, w_2, I_3, w_3, I_4, w_4, I_5, w_5, I_6, w_6, I_7, w_7, I_8, w_8, I_9, w_9, I_10, w_10, I_11, w_11, I_12, w_12, I_13, w_13, I_14, w_14, I_15, w_15, I_16, w_16, I_17, w_17, I_18, w_18, I_19, w_19, I_20, w_20, I_21, w_21, I_22, w_22, I_23, w_23, I_24, w_24, I_25, w_25, I_26, w_26, I_27, w_27, I_28, w_28, I_29, w_29, I_30, w_30, I_31, w_31, I_32, w_32, I_33, w_33, I_34, w_34, I_35, w_35, I_36, w_36, I_37, w_37, I_38, w_38, I_39, w_39, I_40, w_40, I_41, w_41, I_at, w_at, th_MM, J_MM, wJ_MM, P_F, P_G, fA_in, fA_k, fA_p, fA_P, uA_P, cA_P, uA_eq, uA_k, uA_p, cA_in, cA_k, cA_p, cp_at, cp_le, qlt0, nr_ib, Nat.not_lt_zero, decide_false, ki_1, kp_1_0, kp_1_1, kp_1_2, kp_1_3, kp_1_4, kp_1_5, kp_1_6, kp_1_7, kp_1_8, kp_1_9, kp_1_10, ki_2, kp_2_0, kp_2_1, ki_17, kp_17_0, kp_17_1, ki_32, kp_32_0, kp_32_3, ki_33, kp_33_0, kp_33_1, ki_48, kz_48, ki_49, kp_49_0, ki_50, kz_50, krr_50, ki_67, kp_67_0, kp_67_1, kp_67_2, kp_67_3, kp_67_4, ki_68, kz_68, krr_68, ki_69, kz_69, krr_69, ki_70, kz_70, ki_71, kz_71, ki_144, kp_144_0, kp_144_1, kp_144_2, kp_144_3, kp_144_4, ki_145, kz_145, ki_146, kz_146, ki_147, kz_147, ki_148, kz_148, ki_149, kp_149_0, kp_149_1, kp_149_2, ki_150, kz_150, ki_151, kz_151, ki_152, kp_152_0, kp_152_1, kp_152_2, ki_153, kz_153, ki_154, kz_154, ki_155, kz_155, ki_156, kp_156_0, kp_156_1, kp_156_2, ki_157, kz_157, ki_158, kp_158_0, ki_159, kz_159, ki_160, kz_160, ki_161, kp_161_1, kp_161_2, kp_161_3, kp_161_4, kp_161_7, kp_161_21, kp_161_22, kp_161_23, kp_161_26, kp_161_27, kp_161_28, kp_161_29, kp_161_30, kp_161_32, kp_161_33, kp_161_37, kp_161_40, ki_162, kz_162, ki_163, kz_163, ki_164, kz_164, ki_165, kz_165, ki_166, kz_166, ki_167, kz_167, ki_168, kz_168, ki_169, kz_169, ki_170, kz_170, ki_171, kz_171, ki_172, kz_172, ki_173, kz_173, ki_174, kz_174, ki_175, kz_175, ki_176, kz_176, ki_177, kz_177, ki_178, kz_178, ki_179, kz_179, li_m1000000, li_m8, li_m5, li_m1, li_0, li_1, li_2, li_3, li_4, li_5, li_6, li_7, li_8, li_9, li_10, li_11, li_12, li_13, li_14, li_15, li_16, li_17, li_18, li_19, li_20, li_21, li_22, li_23, li_24, li_25, li_26, li_27, li_28, li_29, li_30, li_31, li_32, li_42, li_43, li_46, li_47, li_48, li_49, li_52, li_57, li_59, li_60, li_64, li_89, li_94, li_97, li_99, li_100, li_108, li_112, li_120, li_122, li_150, li_255, li_300, li_450, li_500, li_671, li_890, li_1000, li_1001, li_1002, li_1003, li_1424, li_12345, li_32767, li_500000, li_1000000, li_1103515245, Int.reduceEq, Int.reduceLT, Int.reduceLE, reduceIte, Int.reduceAdd, Int.reduceSub, Int.reduceMul, Nat.reduceAdd, Nat.reduceMul, h7]
    rw [if_neg c]
end CU
