/-! ===== rotation: the class, what is told, what may be hoped ===== -/
section RE
variable {A : Am} {E : En} {S : St} {σ ρ ρ0 τ : Rw} {i x : Int} {m : Nat → Int} {n : Nat}
theorem tp_1 (m : Nat → Int) (ρ0 : Rw) : ∀ j, tp m ρ0 j 1 = ρ0 1
  | 0 => rfl
  | j + 1 => (tn_1 (σ := tp m ρ0 j)).trans (tp_1 m ρ0 j)
theorem c_hopeL (d : Nat) (hd : 4 < d) (hn : n ≤ 8) (hw0 : WF ρ0) (h1 : ρ0 1 = 1) (hmy : ∀ j, j < n → may (tp m ρ0 j) 1 (m j) = true) : ∀ (i : Nat) (A : Am), i ≤ n → (∀ j : Nat, j < i ∨ j = 0 → AheadAt A E (tp m ρ0 j) (j : Int)) → (∀ j : Nat, j ≤ n → SideAt A (sP 1 (j : Int)) (tp m ρ0 j) 1) → (∀ j : Nat, j < n → A 145 (j : Int) = m j) → A 147 (n : Int) = 0 →
    (∀ j : Nat, 1 ≤ j → i ≤ j → j < n → ∀ x, may (tp m ρ0 j) 0 x = true → fg (tp m ρ0 j) x (m j) + A 147 ((j + 1 : Nat) : Int) ≤ A 147 (j : Int)) → (∀ j : Nat, i ≤ j → j ≤ n → -450 * ((n : Int) - (j : Int)) ≤ A 147 (j : Int) ∧ A 147 (j : Int) ≤ 450 * ((n : Int) - (j : Int))) →
    ∃ A', L_Rotation_solve_11 d (MM A E) 144 (iI (n : Int)) (iI ((i : Int) - 1)) = L_Rotation_solve_11 d (MM A' E) 144 (iI (n : Int)) (iI (-1)) ∧ RX A' m ρ0 n ∧ AheadAt A' E ρ0 0 ∧ ∀ p, p < 72 ∨ 143 < p → p ≠ 147 → A' p = A p := by
  intro i
  induction i with
  | zero =>
    intro A hi ha hs ht hz hh hb
    refine ⟨A, rfl, ⟨hs, ht, hz, fun j j1 j2 => hh j j1 (by omega) j2, fun j hj => ?_⟩, ha 0 (.inr rfl), fun _ _ _ => rfl⟩
    have := hb j (by omega) hj
    omega
  | succ i ih =>
    intro A hi ha hs ht hz hh hb
    have pv := sP0_v i
    have hA := ha i (.inl (by omega))
    have b1 := hb (i + 1) (by omega) hi
    obtain ⟨A1, w, x1, x2, x3, x4⟩ := c_mostAt (E := E) (d - 1) (by omega) (tp_WF m hw0 i) ((tp_1 m ρ0 i).trans h1) hA (by omega) (by omega) (hmy i (by omega)) (ht i (by omega))
    have e147 : A1 147 = A 147 := x4 147 (.inl (by omega))
    have fB : ∀ p, p < 74 ∨ 143 < p → p ≠ 147 → uA A1 147 (i : Int) (A 147 ((i + 1 : Nat) : Int) + w) p = A p := fun p hp h => by rw [uA_P h, x4 p (.inl (by omega))]
    obtain ⟨A', y1, y2, y3, y4⟩ := ih (uA A1 147 (i : Int) (A 147 ((i + 1 : Nat) : Int) + w)) (by omega) (fun j hj => by
      have g := ha j (by omega)
      by_cases c : i = 0
      · subst c
        have aA : ∀ p, A1 p = A p := fun p => x4 p (.inr rfl)
        refine Ah_fr2 g (by omega) (fun p hp => ?_) (fun p a b => ?_)
        · rw [uA_P (by omega)]; exact aA p
        · rw [Int.toNat_natCast] at b
          rw [uA_P (by omega)]; exact aA p
      · refine Ah_fr2 g (by omega) (fun p hp => ?_) (fun p a b => ?_)
        · exact fB p (by omega) (by omega)
        · rw [Int.toNat_natCast] at b
          rw [uA_P (by omega)]; exact x4 p (.inl (by omega))) (fun j hj => SideAt_fr (hs j hj) (fun p a b => by
        rw [sP1_v] at a b
        rw [uA_P (by omega)]; exact x4 p (.inl (by omega)))) (fun j hj => by rw [fB 145 (by omega) (by omega)]; exact ht j hj) (by rw [uA_k _ (by omega), e147]; exact hz) (fun j j1 ji jn x hx => by
        by_cases c : j = i
        · subst c
          have q := x3 (by omega) x hx
          rw [uA_eq, uA_k _ (by omega), e147]
          omega
        · rw [uA_k _ (by omega), uA_k _ (by omega), e147]
          exact hh j j1 (by omega) jn x hx) (fun j ji jn => by
        by_cases c : j = i
        · subst c
          rw [uA_eq]
          omega
        · rw [uA_k _ (by omega), e147]
          exact hb j (by omega) jn)
    refine ⟨A', ?_, y2, y3, fun p hp hq => by rw [y4 p hp hq, fB p (by omega) hq]⟩
    rw [← y1, eL_Rotation_solve_11]
    rw [show ((i + 1 : Nat) : Int) = (i : Int) + 1 by omega] at b1 ⊢
    rw [show (i : Int) + 1 - 1 = (i : Int) by omega]
    simp (disch := omega) only [cond_true, cond_false, Bool.and_self, Bool.and_true, Bool.true_and, Bool.and_false, Bool.false_and, Bool.not_true, Bool.not_false, Bool.or_true, Bool.true_or, Bool.or_false, Bool.false_or, cond_dec, cI_ok, cR_ok, cV_ok, cJ_ok, bo_nr, bo_0, bo_i0, nr_0, nr_10, nr_11, nr_i0, nr_i1, bl_0, iI_add, iI_sub, iI_mul, iI_neg, qlt, qeq, qmax, qmin, qdiv, qrem, qn0, qin, I_0, w_0, I_1, w_1, I_2, w_2, I_3, w_3, I_4, w_4, I_5, w_5, I_6, w_6, I_7, w_7, I_8, w_8, I_9, w_9, I_10, w_10, I_11, w_11, I_12, w_12, I_13, w_13, I_14, w_14, I_15, w_15, I_16, w_16, I_17, w_17, I_18, w_18, I_19, w_19, I_20, w_20, I_21, w_21, I_22, w_22, I_23, w_23, I_24, w_24, I_25, w_25, I_26, w_26, I_27, w_27, I_28, w_28, I_29, w_29, I_30, w_30, I_31, w_31, I_32, w_32, I_33, w_33, I_34, w_34, I_35, w_35, I_36, w_36, I_37, w_37, I_38, w_38, I_39, w_39, I_40, w_40, I_41, w_41, I_at, w_at, th_MM, J_MM, wJ_MM, P_F, P_G, fA_in, fA_k, fA_p, fA_P, uA_P, cA_P, uA_eq, uA_k, uA_p, cA_in, cA_k, cA_p, cp_at, cp_le, qlt0, nr_ib, Nat.not_lt_zero, decide_false, ki_1, kp_1_0, kp_1_1, kp_1_2, kp_1_3, kp_1_4, kp_1_5, kp_1_6, kp_1_7, kp_1_8, kp_1_9, kp_1_10, ki_2, kp_2_0, kp_2_1, ki_17, kp_17_0, kp_17_1, ki_32, kp_32_0, kp_32_3, ki_33, kp_33_0, kp_33_1, ki_48, kz_48, ki_49, kp_49_0, ki_50, kz_50, krr_50, ki_67, kp_67_0, kp_67_1, kp_67_2, kp_67_3, kp_67_4, ki_68, kz_68, krr_68, ki_69, kz_69, krr_69, ki_70, kz_70, ki_71, kz_71, ki_144, kp_144_0, kp_144_1, kp_144_2, kp_144_3, kp_144_4, ki_145, kz_145, ki_146, kz_146, ki_147, kz_147, ki_148, kz_148, ki_149, kp_149_0, kp_149_1, kp_149_2, ki_150, kz_150, ki_151, kz_151, ki_152, kp_152_0, kp_152_1, kp_152_2, ki_153, kz_153, ki_154, kz_154, ki_155, kz_155, ki_156, kp_156_0, kp_156_1, kp_156_2, ki_157, kz_157, ki_158, kp_158_0, ki_159, kz_159, ki_160, kz_160, ki_161, kp_161_1, kp_161_2, kp_161_3, kp_161_4, kp_161_7, kp_161_21, kp_161_22, kp_161_23, kp_161_26, kp_161_27, kp_161_28, kp_161_29, kp_161_30, kp_161_32, kp_161_33, kp_161_37, kp_161_40, ki_162, kz_162, ki_163, kz_163, ki_164, kz_164, ki_165, kz_165, ki_166, kz_166, ki_167, kz_167, ki_168, kz_168, ki_169, kz_169, ki_170, kz_170, ki_171, kz_171, ki_172, kz_172, ki_173, kz_173, ki_174, kz_174, ki_175, kz_175, ki_176, kz_176, ki_177, kz_177, ki_178, kz_178, ki_179, kz_179, li_m1000000, li_m8, li_m5, li_m1, li_0, li_1, li_2, li_3, li_4, li_5, li_6, li_7, li_8, li_9, li_10, li_11, li_12, li_13, li_14, li_15, li_16, li_17, li_18, li_19, li_20, li_21, li_22, li_23, li_24, li_25, li_26, li_27, li_28, li_29, li_30, li_31, li_32, li_42, li_43, li_46, li_47, li_48, li_49, li_52, li_57, li_59, li_60, li_64, li_89, li_94, li_97, li_99, li_100, li_108, li_112, li_120, li_122, li_150, li_255, li_300, li_450, li_500, li_671, li_890, li_1000, li_1001, li_1002, li_1003, li_1424, li_12345, li_32767, li_500000, li_1000000, li_1103515245, Int.reduceEq, Int.reduceLT, Int.reduceLE, reduceIte, Int.reduceAdd, Int.reduceSub, Int.reduceMul, Nat.reduceAdd, Nat.reduceMul, x1]
    rw [if_neg (by omega), show (i : Int) + -1 = (i : Int) - 1 by omega]
theorem c_rsolve (d : Nat) (hd : 14 < d) (n1 : 1 ≤ n) (hn : n ≤ 8) (hm : ∀ j, 0 ≤ m j ∧ m j ≤ 9) (hw0 : WF ρ0) (h1 : ρ0 1 = 1) (hmy : ∀ j, j < n → may (tp m ρ0 j) 1 (m j) = true) (ha : ∀ j : Nat, j ≤ n → AheadAt A E (tp m ρ0 j) (j : Int)) (ht : ∀ j : Nat, j < n → A 145 (j : Int) = m j) :
    ∃ A', D_Rotation_solve d (MM A E) 144 (iI (n : Int)) = some (.inl none, MM A' E) ∧ RR A' n (rt m n 0 ρ0 0 (fun _ => 0) none) ∧ ∀ p, p < 72 ∨ 148 < p → A' p = A p := by
  have fr : ∀ p, p ≠ 147 → uA A 147 (n : Int) 0 p = A p := fun p h => uA_P h
  obtain ⟨A1, x1, x2, x3, x4⟩ := c_hopeL (E := E) d (by omega) hn hw0 h1 hmy n (uA A 147 (n : Int) 0) (Nat.le_refl _) (fun j hj => Ah_fr2 (ha j (by omega)) (by omega) (fun p _ => fr p (by omega)) (fun p a b => by rw [Int.toNat_natCast] at b; exact fr p (by omega))) (fun j hj => SideAt_fr (Ah_S (ha j hj) (.inr rfl)) (fun p a b => by rw [sP1_v] at a b; exact fr p (by omega))) (fun j hj => by rw [fr 145 (by decide)]; exact ht j hj) (uA_eq _ _ _) (fun j a b c => by omega) (fun j a b => by
    have : j = n := by omega
    subst this
    rw [uA_eq]; omega)
  have f1 : FRs 0 A1 (uA A1 144 5 (-1000000)) := fun p p1 _ _ _ => uA_P p1
  obtain ⟨A', y1, y2, y3, y4⟩ := c_rsearch (E := E) hn hm hmy hw0 n 0 (by omega) (d - 1) (uA A1 144 5 (-1000000)) ρ0 0 (fun _ => 0) none (by omega) hw0 h1 (Rl_refl _) (Ah_FR (l := 0) (by omega) x3 f1) (RX_fr hn x2 f1) (uA_eq _ _ _) (fun _ => rfl) (by omega) (by omega) (fun i a b => by omega)
  have y1' : D_Rotation_search (d - 1) (MM (uA A1 144 5 (-1000000)) E) 144 (iI 0) (iI (n : Int)) (iI 0) = some (.inl none, MM A' E) := y1
  refine ⟨A', ?_, y2, fun p hp => ?_⟩
  · have e11 : L_Rotation_solve_11 d (MM A1 E) 144 (iI (n : Int)) (iI (-1)) = some (.inl none, MM A' E) := by
      rw [eL_Rotation_solve_11]
      simp (disch := omega) only [cond_true, cond_false, Bool.and_self, Bool.and_true, Bool.true_and, Bool.and_false, Bool.false_and, Bool.not_true, Bool.not_false, Bool.or_true, Bool.true_or, Bool.or_false, Bool.false_or, cond_dec, cI_ok, cR_ok, cV_ok, cJ_ok, bo_nr, bo_0, bo_i0, nr_0, nr_10, nr_11, nr_i0, nr_i1, bl_0, iI_add, iI_sub, iI_mul, iI_neg, qlt, qeq, qmax, qmin, qdiv, qrem, qn0, qin, I_0, w_0, I_1, w_1, I_2, w_2, I_3, w_3, I_4, w_4, I_5, w_5, I_6, w_6, I_7, w_7, I_8, w_8, I_9, w_9, I_10, w_10, I_11, w_11, I_12, w_12, I_13, w_13, I_14, w_14, I_15, w_15, I_16, w_16, I_17, w_17, I_18, w_18, I_19, w_19, I_20, w_20, I_21, w_21, I_22, w_22, I_23, w_23, I_24, w_24, I_25, w_25, I_26, w_26, I_27, w_27, I_28, w_28, I_29, w_29, I_30, w_30, I_31, w_31, I_32, w_32, I_33, w_33, I_34, w_34, I_35, w_35, I_36, w_36, I_37, w_37, I_38, w_38, I_39, w_39, I_40, w_40, I_41, w_41, I_at, w_at, th_MM, J_MM, wJ_MM, P_F, P_G, fA_in, fA_k, fA_p, fA_P, uA_P, cA_P, uA_eq, uA_k, uA_p, cA_in, cA_k, cA_p, cp_at, cp_le, qlt0, nr_ib, Nat.not_lt_zero, decide_false, ki_1, kp_1_0, kp_1_1, kp_1_2, kp_1_3, kp_1_4, kp_1_5, kp_1_6, kp_1_7, kp_1_8, kp_1_9, kp_1_10, ki_2, kp_2_0, kp_2_1, ki_17, kp_17_0, kp_17_1, ki_32, kp_32_0, kp_32_3, ki_33, kp_33_0, kp_33_1, ki_48, kz_48, ki_49, kp_49_0, ki_50, kz_50, krr_50, ki_67, kp_67_0, kp_67_1, kp_67_2, kp_67_3, kp_67_4, ki_68, kz_68, krr_68, ki_69, kz_69, krr_69, ki_70, kz_70, ki_71, kz_71, ki_144, kp_144_0, kp_144_1, kp_144_2, kp_144_3, kp_144_4, ki_145, kz_145, ki_146, kz_146, ki_147, kz_147, ki_148, kz_148, ki_149, kp_149_0, kp_149_1, kp_149_2, ki_150, kz_150, ki_151, kz_151, ki_152, kp_152_0, kp_152_1, kp_152_2, ki_153, kz_153, ki_154, kz_154, ki_155, kz_155, ki_156, kp_156_0, kp_156_1, kp_156_2, ki_157, kz_157, ki_158, kp_158_0, ki_159, kz_159, ki_160, kz_160, ki_161, kp_161_1, kp_161_2, kp_161_3, kp_161_4, kp_161_7, kp_161_21, kp_161_22, kp_161_23, kp_161_26, kp_161_27, kp_161_28, kp_161_29, kp_161_30, kp_161_32, kp_161_33, kp_161_37, kp_161_40, ki_162, kz_162, ki_163, kz_163, ki_164, kz_164, ki_165, kz_165, ki_166, kz_166, ki_167, kz_167, ki_168, kz_168, ki_169, kz_169, ki_170, kz_170, ki_171, kz_171, ki_172, kz_172, ki_173, kz_173, ki_174, kz_174, ki_175, kz_175, ki_176, kz_176, ki_177, kz_177, ki_178, kz_178, ki_179, kz_179, li_m1000000, li_m8, li_m5, li_m1, li_0, li_1, li_2, li_3, li_4, li_5, li_6, li_7, li_8, li_9, li_10, li_11, li_12, li_13, li_14, li_15, li_16, li_17, li_18, li_19, li_20, li_21, li_22, li_23, li_24, li_25, li_26, li_27, li_28, li_29, li_30, li_31, li_32, li_42, li_43, li_46, li_47, li_48, li_49, li_52, li_57, li_59, li_60, li_64, li_89, li_94, li_97, li_99, li_100, li_108, li_112, li_120, li_122, li_150, li_255, li_300, li_450, li_500, li_671, li_890, li_1000, li_1001, li_1002, li_1003, li_1424, li_12345, li_32767, li_500000, li_1000000, li_1103515245, Int.reduceEq, Int.reduceLT, Int.reduceLE, reduceIte, Int.reduceAdd, Int.reduceSub, Int.reduceMul, Nat.reduceAdd, Nat.reduceMul, y1']
    rw [eD_Rotation_solve]
    simp (disch := omega) only [cond_true, cond_false, Bool.and_self, Bool.and_true, Bool.true_and, Bool.and_false, Bool.false_and, Bool.not_true, Bool.not_false, Bool.or_true, Bool.true_or, Bool.or_false, Bool.false_or, cond_dec, cI_ok, cR_ok, cV_ok, cJ_ok, bo_nr, bo_0, bo_i0, nr_0, nr_10, nr_11, nr_i0, nr_i1, bl_0, iI_add, iI_sub, iI_mul, iI_neg, qlt, qeq, qmax, qmin, qdiv, qrem, qn0, qin, I_0, w_0, I_1, w_1, I_2, w_2, I_3, w_3, I_4, w_4, I_5, w_5, I_6, w_6, I_7, w_7, I_8, w_8, I_9, w_9, I_10, w_10, I_11, w_11, I_12, w_12, I_13, w_13, I_14, w_14, I_15, w_15, I_16, w_16, I_17, w_17, I_18, w_18, I_19, w_19, I_20, w_20, I_21, w_21, I_22, w_22, I_23, w_23, I_24, w_24, I_25, w_25, I_26, w_26, I_27, w_27, I_28, w_28, I_29, w_29, I_30, w_30, I_31, w_31, I_32, w_32, I_33, w_33, I_34, w_34, I_35, w_35, I_36, w_36, I_37, w_37, I_38, w_38, I_39, w_39, I_40, w_40, I_41, w_41, I_at, w_at, th_MM, J_MM, wJ_MM, P_F, P_G, fA_in, fA_k, fA_p, fA_P, uA_P, cA_P, uA_eq, uA_k, uA_p, cA_in, cA_k, cA_p, cp_at, cp_le, qlt0, nr_ib, Nat.not_lt_zero, decide_false, ki_1, kp_1_0, kp_1_1, kp_1_2, kp_1_3, kp_1_4, kp_1_5, kp_1_6, kp_1_7, kp_1_8, kp_1_9, kp_1_10, ki_2, kp_2_0, kp_2_1, ki_17, kp_17_0, kp_17_1, ki_32, kp_32_0, kp_32_3, ki_33, kp_33_0, kp_33_1, ki_48, kz_48, ki_49, kp_49_0, ki_50, kz_50, krr_50, ki_67, kp_67_0, kp_67_1, kp_67_2, kp_67_3, kp_67_4, ki_68, kz_68, krr_68, ki_69, kz_69, krr_69, ki_70, kz_70, ki_71, kz_71, ki_144, kp_144_0, kp_144_1, kp_144_2, kp_144_3, kp_144_4, ki_145, kz_145, ki_146, kz_146, ki_147, kz_147, ki_148, kz_148, ki_149, kp_149_0, kp_149_1, kp_149_2, ki_150, kz_150, ki_151, kz_151, ki_152, kp_152_0, kp_152_1, kp_152_2, ki_153, kz_153, ki_154, kz_154, ki_155, kz_155, ki_156, kp_156_0, kp_156_1, kp_156_2, ki_157, kz_157, ki_158, kp_158_0, ki_159, kz_159, ki_160, kz_160, ki_161, kp_161_1, kp_161_2, kp_161_3, kp_161_4, kp_161_7, kp_161_21, kp_161_22, kp_161_23, kp_161_26, kp_161_27, kp_161_28, kp_161_29, kp_161_30, kp_161_32, kp_161_33, kp_161_37, kp_161_40, ki_162, kz_162, ki_163, kz_163, ki_164, kz_164, ki_165, kz_165, ki_166, kz_166, ki_167, kz_167, ki_168, kz_168, ki_169, kz_169, ki_170, kz_170, ki_171, kz_171, ki_172, kz_172, ki_173, kz_173, ki_174, kz_174, ki_175, kz_175, ki_176, kz_176, ki_177, kz_177, ki_178, kz_178, ki_179, kz_179, li_m1000000, li_m8, li_m5, li_m1, li_0, li_1, li_2, li_3, li_4, li_5, li_6, li_7, li_8, li_9, li_10, li_11, li_12, li_13, li_14, li_15, li_16, li_17, li_18, li_19, li_20, li_21, li_22, li_23, li_24, li_25, li_26, li_27, li_28, li_29, li_30, li_31, li_32, li_42, li_43, li_46, li_47, li_48, li_49, li_52, li_57, li_59, li_60, li_64, li_89, li_94, li_97, li_99, li_100, li_108, li_112, li_120, li_122, li_150, li_255, li_300, li_450, li_500, li_671, li_890, li_1000, li_1001, li_1002, li_1003, li_1424, li_12345, li_32767, li_500000, li_1000000, li_1103515245, Int.reduceEq, Int.reduceLT, Int.reduceLE, reduceIte, Int.reduceAdd, Int.reduceSub, Int.reduceMul, Nat.reduceAdd, Nat.reduceMul, x1, e11]
  · rw [y4 p (by omega) (by omega) (by omega) (fun j _ _ => by omega), uA_P (by omega), x4 p (by omega) (by omega), fr p (by omega)]
end RE
