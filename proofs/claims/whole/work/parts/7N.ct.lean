/-! ===== a game is read: the class takes a token ===== -/
def PTm (A : Am) (Tm : Nat) (ρ : Rw) (t cu cw : Int) : Prop := (A Tm 0 = tf ρ t 0 ∧ A Tm 1 = tf ρ t 1 ∧ A Tm 2 = tf ρ t 2 ∧ A Tm 3 = tf ρ t 3 ∧ A Tm 4 = tf ρ t 4 ∧ A Tm 5 = tf ρ t 6 ∧ A Tm 6 = tf ρ t 5) ∧ ∀ u w, 0 ≤ u → u < 6 → 0 ≤ w → w < 6 → dn cu cw u w → A (Tm + 1 + w.toNat) u = uf ρ t u w
def CMr (A : Am) (w T u : Int) (ρ : Rw) : Prop := A 32 9 = w ∧ A 32 10 = T ∧ A 32 11 = u ∧ (A 33 2 = ρ 0 ∧ A 33 3 = ρ 1 ∧ A 33 4 = ρ 2) ∧ ∀ t, t = 0 ∨ t = 1 → PTm A (tR 33 t) ρ t (cuF w T u ρ t) (cwF w T t)
def FTr (A A' : Am) : Prop := (∀ p, p < 32 ∨ 47 < p → A' p = A p) ∧ ∀ j, j ≠ 9 → j ≠ 10 → j ≠ 11 → A' 32 j = A 32 j
def TRr (D : Option am_R) (A : Am) (E : En) (o : Int ⊕ Mst) : Prop := match o with
  | .inl f => D = some (.inl (some (.int (iI f))), MM A E) ∧ 1 ≤ f ∧ f ≤ 4
  | .inr M => ∃ A', D = some (.inl (some (.int (iI 0))), MM A' E) ∧ CMr A' M.1 M.2.1 M.2.2.1 M.2.2.2 ∧ FTr A A'
section CT
variable {A : Am} {E : En} {b : Int → Int} {n s w T u v k t cu cw : Int} {ρ τ : Rw} {Tm : Nat}
theorem tR33 (ht : t = 0 ∨ t = 1) : tR 33 t = 34 + 7 * t.toNat := by rcases ht with rfl | rfl <;> rfl
theorem TM33 (ht : t = 0 ∨ t = 1) : TM (tR 33 t) := by
  rcases ht with rfl | rfl
  · exact (TM_R (R := 33) (.inr (.inr rfl))).1
  · exact (TM_R (R := 33) (.inr (.inr rfl))).2
theorem PT_cg {A' : Am} (ht : t = 0 ∨ t = 1) (h : PTm A Tm ρ t cu cw) (fA : ∀ p, Tm ≤ p → p ≤ Tm + 6 → A' p = A p) (f : ∀ j, 3 + 43 * t ≤ j → j < 46 + 43 * t → τ j = ρ j) : PTm A' Tm τ t cu cw := by
  have e : ∀ j, 0 ≤ j → j < 7 → tf τ t j = tf ρ t j := fun j a b => f _ (by omega) (by omega)
  have eu : ∀ x y, 0 ≤ x → x < 6 → 0 ≤ y → y < 6 → uf τ t x y = uf ρ t x y := fun x y a b c d => f _ (by omega) (by omega)
  unfold PTm
  rw [e 0 (by decide) (by decide), e 1 (by decide) (by decide), e 2 (by decide) (by decide), e 3 (by decide) (by decide), e 4 (by decide) (by decide), e 5 (by decide) (by decide), e 6 (by decide) (by decide), fA Tm (by omega) (by omega)]
  refine ⟨h.1, fun x y a b c d hd => ?_⟩
  rw [eu x y a b c d, fA _ (by omega) (by omega)]
  exact h.2 x y a b c d hd
theorem FT_32 {j v : Int} (hj : j = 9 ∨ j = 10 ∨ j = 11) : FTr A (uA A 32 j v) := ⟨fun p hp => uA_P (by omega), fun i a b c => uA_k _ (by omega)⟩
theorem FT_o {p : Nat} {j v : Int} (hp : 33 ≤ p ∧ p ≤ 47) : FTr A (uA A p j v) := ⟨fun q hq => uA_P (by omega), fun i a b c => uA_p _ _ _ (by omega)⟩
theorem FT_tr {B C : Am} (h : FTr A B) (g : FTr B C) : FTr A C := ⟨fun p hp => (g.1 p hp).trans (h.1 p hp), fun j a b c => (g.2 j a b c).trans (h.2 j a b c)⟩
theorem c_want (d : Nat) : D_Reader_want d (MM A E) 32 (iI k) = some (.inl (some (.int (iI 0))), MM (uA A 32 9 k) E) := by
  rw [eD_Reader_want]
  simp (disch := omega) only [cond_true, cond_false, Bool.and_self, Bool.and_true, Bool.true_and, Bool.and_false, Bool.false_and, Bool.not_true, Bool.not_false, Bool.or_true, Bool.true_or, Bool.or_false, Bool.false_or, cond_dec, cI_ok, cR_ok, cV_ok, cJ_ok, bo_nr, bo_0, bo_i0, nr_0, nr_10, nr_11, nr_i0, nr_i1, bl_0, iI_add, iI_sub, iI_mul, iI_neg, qlt, qeq, qmax, qmin, qdiv, qrem, qn0, qin, I_0, w_0, I_1, w_1, I_2, w_2, I_3, w_3, I_4, w_4, I_5, w_5, I_6, w_6, I_7, w_7, I_8, w_8, I_9, w_9, I_10, w_10, I_11, w_11, I_12, w_12, I_13, w_13, I_14, w_14, I_15, w_15, I_16, w_16, I_17, w_17, I_18, w_18, I_19, w_19, I_20, w_20, I_21, w_21, I_22, w_22, I_23, w_23, I_24, w_24, I_25, w_25, I_26, w_26, I_27, w_27, I_28, w_28, I_29, w_29, I_30, w_30, I_31, w_31, I_32, w_32, I_33, w_33, I_34, w_34, I_35, w_35, I_36, w_36, I_37, w_37, I_38, w_38, I_39, w_39, I_40, w_40, I_41, w_41, I_at, w_at, th_MM, J_MM, wJ_MM, P_F, P_G, fA_in, fA_k, fA_p, fA_P, uA_P, cA_P, uA_eq, uA_k, uA_p, cA_in, cA_k, cA_p, cp_at, cp_le, qlt0, nr_ib, Nat.not_lt_zero, decide_false, ki_1, kp_1_0, kp_1_1, kp_1_2, kp_1_3, kp_1_4, kp_1_5, kp_1_6, kp_1_7, kp_1_8, kp_1_9, kp_1_10, ki_2, kp_2_0, kp_2_1, ki_17, kp_17_0, kp_17_1, ki_32, kp_32_0, kp_32_3, ki_33, kp_33_0, kp_33_1, ki_48, kz_48, ki_49, kp_49_0, ki_50, kz_50, krr_50, ki_67, kp_67_0, kp_67_1, kp_67_2, kp_67_3, kp_67_4, ki_68, kz_68, krr_68, ki_69, kz_69, krr_69, ki_70, kz_70, ki_71, kz_71, ki_144, kp_144_0, kp_144_1, kp_144_2, kp_144_3, kp_144_4, ki_145, kz_145, ki_146, kz_146, ki_147, kz_147, ki_148, kz_148, ki_149, kp_149_0, kp_149_1, kp_149_2, ki_150, kz_150, ki_151, kz_151, ki_152, kp_152_0, kp_152_1, kp_152_2, ki_153, kz_153, ki_154, kz_154, ki_155, kz_155, ki_156, kp_156_0, kp_156_1, kp_156_2, ki_157, kz_157, ki_158, kp_158_0, ki_159, kz_159, ki_160, kz_160, ki_161, kp_161_1, kp_161_2, kp_161_3, kp_161_4, kp_161_7, kp_161_21, kp_161_22, kp_161_23, kp_161_26, kp_161_27, kp_161_28, kp_161_29, kp_161_30, kp_161_32, kp_161_33, kp_161_37, kp_161_40, ki_162, kz_162, ki_163, kz_163, ki_164, kz_164, ki_165, kz_165, ki_166, kz_166, ki_167, kz_167, ki_168, kz_168, ki_169, kz_169, ki_170, kz_170, ki_171, kz_171, ki_172, kz_172, ki_173, kz_173, ki_174, kz_174, ki_175, kz_175, ki_176, kz_176, ki_177, kz_177, ki_178, kz_178, ki_179, kz_179, li_m1000000, li_m8, li_m5, li_m1, li_0, li_1, li_2, li_3, li_4, li_5, li_6, li_7, li_8, li_9, li_10, li_11, li_12, li_13, li_14, li_15, li_16, li_17, li_18, li_19, li_20, li_21, li_22, li_23, li_24, li_25, li_26, li_27, li_28, li_29, li_30, li_31, li_32, li_42, li_43, li_46, li_47, li_48, li_49, li_52, li_57, li_59, li_60, li_64, li_89, li_94, li_97, li_99, li_100, li_108, li_112, li_120, li_122, li_150, li_255, li_300, li_450, li_500, li_671, li_890, li_1000, li_1001, li_1002, li_1003, li_1424, li_12345, li_32767, li_500000, li_1000000, li_1103515245, Int.reduceEq, Int.reduceLT, Int.reduceLE, reduceIte, Int.reduceAdd, Int.reduceSub, Int.reduceMul, Nat.reduceAdd, Nat.reduceMul]
/-- nothing but what is wanted changes -/
theorem CM_w {w' : Int} (h : CMr A w T u ρ) (h1 : ¬ (3 ≤ w ∧ w ≤ 7)) (h2 : ¬ (3 ≤ w' ∧ w' ≤ 7)) : CMr (uA A 32 9 w') w' T u ρ := by
  obtain ⟨a1, a2, a3, a4, a5⟩ := h
  refine ⟨uA_eq _ _ _, by rw [uA_k _ (by decide)]; exact a2, by rw [uA_k _ (by decide)]; exact a3, by rw [uA_P (by decide)]; exact a4, fun t ht => ?_⟩
  have := a5 t ht
  have e := tR33 ht
  rw [cuF_n h1, cwF_n h1] at this
  rw [cuF_n h2, cwF_n h2]
  exact PT_cg ht this (fun p _ _ => uA_P (by omega)) (fun j _ _ => rfl)
theorem oL (h : SE E) (k0 : 0 ≤ k) (k1 : k ≤ 7) : eO E (UInt32.ofNat 20) (Int32.toNatClampNeg (iI k)) = iI (loN k) ∧ eO E (UInt32.ofNat 21) (Int32.toNatClampNeg (iI k)) = iI (hiN k) ∧ eL E (UInt32.ofNat 20) = 8 ∧ eL E (UInt32.ofNat 21) = 8 := by
  obtain ⟨xs, L, hO, hL⟩ := h
  rw [hO, hL]
  have hc : k = 0 ∨ k = 1 ∨ k = 2 ∨ k = 3 ∨ k = 4 ∨ k = 5 ∨ k = 6 ∨ k = 7 := by omega
  rcases hc with rfl | rfl | rfl | rfl | rfl | rfl | rfl | rfl <;> exact ⟨rfl, rfl, rfl, rfl⟩
theorem hiN_rg (k0 : 0 ≤ k) (k1 : k ≤ 7) : (0 ≤ loN k ∧ loN k ≤ 1) ∧ 7 ≤ hiN k ∧ hiN k ≤ 300 := by
  have hc : k = 0 ∨ k = 1 ∨ k = 2 ∨ k = 3 ∨ k = 4 ∨ k = 5 ∨ k = 6 ∨ k = 7 := by omega
  rcases hc with rfl | rfl | rfl | rfl | rfl | rfl | rfl | rfl <;> decide
theorem c_row (d : Nat) (hT : TM Tm) {j : Int} (j0 : 0 ≤ j) (j1 : j ≤ 4) : D_Team_row d (MM A E) Tm (iI j) = some (.inl (some (.ref (Tm + 1 + j.toNat))), MM A E) := by
  have hc : j = 0 ∨ j = 1 ∨ j = 2 ∨ j = 3 ∨ j = 4 := by omega
  rw [eD_Team_row]
  rcases hc with rfl | rfl | rfl | rfl | rfl <;> simp (disch := omega) only [cond_true, cond_false, Bool.and_self, Bool.and_true, Bool.true_and, Bool.and_false, Bool.false_and, Bool.not_true, Bool.not_false, Bool.or_true, Bool.true_or, Bool.or_false, Bool.false_or, cond_dec, cI_ok, cR_ok, cV_ok, cJ_ok, bo_nr, bo_0, bo_i0, nr_0, nr_10, nr_11, nr_i0, nr_i1, bl_0, iI_add, iI_sub, iI_mul, iI_neg, qlt, qeq, qmax, qmin, qdiv, qrem, qn0, qin, I_0, w_0, I_1, w_1, I_2, w_2, I_3, w_3, I_4, w_4, I_5, w_5, I_6, w_6, I_7, w_7, I_8, w_8, I_9, w_9, I_10, w_10, I_11, w_11, I_12, w_12, I_13, w_13, I_14, w_14, I_15, w_15, I_16, w_16, I_17, w_17, I_18, w_18, I_19, w_19, I_20, w_20, I_21, w_21, I_22, w_22, I_23, w_23, I_24, w_24, I_25, w_25, I_26, w_26, I_27, w_27, I_28, w_28, I_29, w_29, I_30, w_30, I_31, w_31, I_32, w_32, I_33, w_33, I_34, w_34, I_35, w_35, I_36, w_36, I_37, w_37, I_38, w_38, I_39, w_39, I_40, w_40, I_41, w_41, I_at, w_at, th_MM, J_MM, wJ_MM, P_F, P_G, fA_in, fA_k, fA_p, fA_P, uA_P, cA_P, uA_eq, uA_k, uA_p, cA_in, cA_k, cA_p, cp_at, cp_le, qlt0, nr_ib, Nat.not_lt_zero, decide_false, ki_1, kp_1_0, kp_1_1, kp_1_2, kp_1_3, kp_1_4, kp_1_5, kp_1_6, kp_1_7, kp_1_8, kp_1_9, kp_1_10, ki_2, kp_2_0, kp_2_1, ki_17, kp_17_0, kp_17_1, ki_32, kp_32_0, kp_32_3, ki_33, kp_33_0, kp_33_1, ki_48, kz_48, ki_49, kp_49_0, ki_50, kz_50, krr_50, ki_67, kp_67_0, kp_67_1, kp_67_2, kp_67_3, kp_67_4, ki_68, kz_68, krr_68, ki_69, kz_69, krr_69, ki_70, kz_70, ki_71, kz_71, ki_144, kp_144_0, kp_144_1, kp_144_2, kp_144_3, kp_144_4, ki_145, kz_145, ki_146, kz_146, ki_147, kz_147, ki_148, kz_148, ki_149, kp_149_0, kp_149_1, kp_149_2, ki_150, kz_150, ki_151, kz_151, ki_152, kp_152_0, kp_152_1, kp_152_2, ki_153, kz_153, ki_154, kz_154, ki_155, kz_155, ki_156, kp_156_0, kp_156_1, kp_156_2, ki_157, kz_157, ki_158, kp_158_0, ki_159, kz_159, ki_160, kz_160, ki_161, kp_161_1, kp_161_2, kp_161_3, kp_161_4, kp_161_7, kp_161_21, kp_161_22, kp_161_23, kp_161_26, kp_161_27, kp_161_28, kp_161_29, kp_161_30, kp_161_32, kp_161_33, kp_161_37, kp_161_40, ki_162, kz_162, ki_163, kz_163, ki_164, kz_164, ki_165, kz_165, ki_166, kz_166, ki_167, kz_167, ki_168, kz_168, ki_169, kz_169, ki_170, kz_170, ki_171, kz_171, ki_172, kz_172, ki_173, kz_173, ki_174, kz_174, ki_175, kz_175, ki_176, kz_176, ki_177, kz_177, ki_178, kz_178, ki_179, kz_179, li_m1000000, li_m8, li_m5, li_m1, li_0, li_1, li_2, li_3, li_4, li_5, li_6, li_7, li_8, li_9, li_10, li_11, li_12, li_13, li_14, li_15, li_16, li_17, li_18, li_19, li_20, li_21, li_22, li_23, li_24, li_25, li_26, li_27, li_28, li_29, li_30, li_31, li_32, li_42, li_43, li_46, li_47, li_48, li_49, li_52, li_57, li_59, li_60, li_64, li_89, li_94, li_97, li_99, li_100, li_108, li_112, li_120, li_122, li_150, li_255, li_300, li_450, li_500, li_671, li_890, li_1000, li_1001, li_1002, li_1003, li_1424, li_12345, li_32767, li_500000, li_1000000, li_1103515245, Int.reduceEq, Int.reduceLT, Int.reduceLE, reduceIte, Int.reduceAdd, Int.reduceSub, Int.reduceMul, Nat.reduceAdd, Nat.reduceMul, is_T hT, is_T1 hT, sz_T1 hT, P_T1 hT, is_T2 hT, sz_T2 hT, P_T2 hT, is_T3 hT, sz_T3 hT, P_T3 hT, is_T4 hT, sz_T4 hT, P_T4 hT, is_T5 hT, sz_T5 hT, P_T5 hT, is_T6 hT, sz_T6 hT, P_T6 hT] <;> rfl
theorem is_row (hT : TM Tm) {j : Int} (j0 : 0 ≤ j) (j1 : j ≤ 4) : mm_is (MM A E) (Tm + 1 + j.toNat) 100 = true ∧ mm_sz (MM A E) (Tm + 1 + j.toNat) = 6 := by
  have hc : j = 0 ∨ j = 1 ∨ j = 2 ∨ j = 3 ∨ j = 4 := by omega
  rcases hc with rfl | rfl | rfl | rfl | rfl
  · exact ⟨is_T1 hT, sz_T1 hT⟩
  · exact ⟨is_T2 hT, sz_T2 hT⟩
  · exact ⟨is_T3 hT, sz_T3 hT⟩
  · exact ⟨is_T4 hT, sz_T4 hT⟩
  · exact ⟨is_T5 hT, sz_T5 hT⟩
theorem c_unum (d : Nat) (hd : 1 < d) (hv : VM k T u ρ) (hc : CMr A k T u ρ) (hk : 3 ≤ k ∧ k ≤ 7) (h8 : A 32 8 = v) : ∃ A', D_Reader_takeUnitNumber d (MM A E) 32 (iI k) = some (.inl (some (.int (iI 0))), MM A' E) ∧ CMr A' (nmW k) T u (nmR k T u v ρ) ∧ FTr A A' := by
  obtain ⟨a1, a2, a3, a4, a5, a6, a7⟩ := hv
  obtain ⟨t1, uu, u0⟩ := a4 hk
  have tt : T - 1 = 0 ∨ T - 1 = 1 := by omega
  have hV := a7 (T - 1) tt
  have b1 := hV.1
  have b2 := hV.2.1
  have un0 : un ρ (T - 1) = tf ρ (T - 1) 0 + tf ρ (T - 1) 1 := rfl
  obtain ⟨c1, c2, c3, c4, c5⟩ := hc
  have hT := TM33 tt
  have eT := tR33 tt
  have rw0 := fun (B : Am) => is_row (A := B) (E := E) hT (j := k - 3) (by omega) (by omega)
  have hP := c5 (T - 1) tt
  rw [cuF_y hk, cwF_y hk] at hP
  generalize hTm : tR 33 (T - 1) = Tm at *
  have eq : D_Reader_takeUnitNumber d (MM A E) 32 (iI k) = some (.inl (some (.int (iI 0))), MM (uA (uA (uA A (Tm + 1 + (k - 3).toNat) u v) (Tm + 6) u ((uA A (Tm + 1 + (k - 3).toNat) u v) (Tm + 3) u)) 32 9 (nmW k)) E) := by
    have f := r_of (A := A) (E := E) (R := 33) (d - 1) (.inr (.inr rfl)) tt
    rw [hTm] at f
    have r := c_row (A := A) (E := E) (d - 1) hT (j := k - 3) (by omega) (by omega)
    have nw : nmW k = if k = 7 then 10 else k + 1 := by unfold nmW; rw [if_neg (by omega)]
    rw [eD_Reader_takeUnitNumber]
    simp (disch := omega) only [cond_true, cond_false, Bool.and_self, Bool.and_true, Bool.true_and, Bool.and_false, Bool.false_and, Bool.not_true, Bool.not_false, Bool.or_true, Bool.true_or, Bool.or_false, Bool.false_or, cond_dec, cI_ok, cR_ok, cV_ok, cJ_ok, bo_nr, bo_0, bo_i0, nr_0, nr_10, nr_11, nr_i0, nr_i1, bl_0, iI_add, iI_sub, iI_mul, iI_neg, qlt, qeq, qmax, qmin, qdiv, qrem, qn0, qin, I_0, w_0, I_1, w_1, I_2, w_2, I_3, w_3, I_4, w_4, I_5, w_5, I_6, w_6, I_7, w_7, I_8, w_8, I_9, w_9, I_10, w_10, I_11, w_11, I_12, w_12, I_13, w_13, I_14, w_14, I_15, w_15, I_16, w_16, I_17, w_17, I_18, w_18, I_19, w_19, I_20, w_20, I_21, w_21, I_22, w_22, I_23, w_23, I_24, w_24, I_25, w_25, I_26, w_26, I_27, w_27, I_28, w_28, I_29, w_29, I_30, w_30, I_31, w_31, I_32, w_32, I_33, w_33, I_34, w_34, I_35, w_35, I_36, w_36, I_37, w_37, I_38, w_38, I_39, w_39, I_40, w_40, I_41, w_41, I_at, w_at, th_MM, J_MM, wJ_MM, P_F, P_G, fA_in, fA_k, fA_p, fA_P, uA_P, cA_P, uA_eq, uA_k, uA_p, cA_in, cA_k, cA_p, cp_at, cp_le, qlt0, nr_ib, Nat.not_lt_zero, decide_false, ki_1, kp_1_0, kp_1_1, kp_1_2, kp_1_3, kp_1_4, kp_1_5, kp_1_6, kp_1_7, kp_1_8, kp_1_9, kp_1_10, ki_2, kp_2_0, kp_2_1, ki_17, kp_17_0, kp_17_1, ki_32, kp_32_0, kp_32_3, ki_33, kp_33_0, kp_33_1, ki_48, kz_48, ki_49, kp_49_0, ki_50, kz_50, krr_50, ki_67, kp_67_0, kp_67_1, kp_67_2, kp_67_3, kp_67_4, ki_68, kz_68, krr_68, ki_69, kz_69, krr_69, ki_70, kz_70, ki_71, kz_71, ki_144, kp_144_0, kp_144_1, kp_144_2, kp_144_3, kp_144_4, ki_145, kz_145, ki_146, kz_146, ki_147, kz_147, ki_148, kz_148, ki_149, kp_149_0, kp_149_1, kp_149_2, ki_150, kz_150, ki_151, kz_151, ki_152, kp_152_0, kp_152_1, kp_152_2, ki_153, kz_153, ki_154, kz_154, ki_155, kz_155, ki_156, kp_156_0, kp_156_1, kp_156_2, ki_157, kz_157, ki_158, kp_158_0, ki_159, kz_159, ki_160, kz_160, ki_161, kp_161_1, kp_161_2, kp_161_3, kp_161_4, kp_161_7, kp_161_21, kp_161_22, kp_161_23, kp_161_26, kp_161_27, kp_161_28, kp_161_29, kp_161_30, kp_161_32, kp_161_33, kp_161_37, kp_161_40, ki_162, kz_162, ki_163, kz_163, ki_164, kz_164, ki_165, kz_165, ki_166, kz_166, ki_167, kz_167, ki_168, kz_168, ki_169, kz_169, ki_170, kz_170, ki_171, kz_171, ki_172, kz_172, ki_173, kz_173, ki_174, kz_174, ki_175, kz_175, ki_176, kz_176, ki_177, kz_177, ki_178, kz_178, ki_179, kz_179, li_m1000000, li_m8, li_m5, li_m1, li_0, li_1, li_2, li_3, li_4, li_5, li_6, li_7, li_8, li_9, li_10, li_11, li_12, li_13, li_14, li_15, li_16, li_17, li_18, li_19, li_20, li_21, li_22, li_23, li_24, li_25, li_26, li_27, li_28, li_29, li_30, li_31, li_32, li_42, li_43, li_46, li_47, li_48, li_49, li_52, li_57, li_59, li_60, li_64, li_89, li_94, li_97, li_99, li_100, li_108, li_112, li_120, li_122, li_150, li_255, li_300, li_450, li_500, li_671, li_890, li_1000, li_1001, li_1002, li_1003, li_1424, li_12345, li_32767, li_500000, li_1000000, li_1103515245, Int.reduceEq, Int.reduceLT, Int.reduceLE, reduceIte, Int.reduceAdd, Int.reduceSub, Int.reduceMul, Nat.reduceAdd, Nat.reduceMul, is_T hT, is_T1 hT, sz_T1 hT, P_T1 hT, is_T2 hT, sz_T2 hT, P_T2 hT, is_T3 hT, sz_T3 hT, P_T3 hT, is_T4 hT, sz_T4 hT, P_T4 hT, is_T5 hT, sz_T5 hT, P_T5 hT, is_T6 hT, sz_T6 hT, P_T6 hT, c2, c3, h8, f, r, (rw0 _).1, (rw0 _).2, c_want]
    rw [nw]
    by_cases k7 : k = 7
    · rw [if_pos k7, if_pos k7, uA_p (q := Tm + 3) _ _ _ (by omega)]
    · rw [if_neg k7, if_neg k7]
  refine ⟨_, eq, ?_, FT_tr (FT_tr (FT_o (by omega)) (FT_o (by omega))) (FT_32 (.inl rfl))⟩
  have eR : nmR k T u v ρ = up (up ρ (bsU T u + (k - 3)) v) (bsU T u + 5) (up ρ (bsU T u + (k - 3)) v (bsU T u + 2)) := by
    unfold nmR
    rw [if_neg (by omega), if_neg (by omega), if_neg (by omega)]
  have eb : bsU T u = 10 + 43 * (T - 1) + 6 * u := rfl
  have g : ∀ j, j ≠ bsU T u + (k - 3) → j ≠ bsU T u + 5 → nmR k T u v ρ j = ρ j := fun j h1 h2 => by rw [eR, up_ne h2, up_ne h1]
  have gv : nmR k T u v ρ (bsU T u + (k - 3)) = v := by rw [eR, up_ne (by omega), up_eq]
  have g5 : nmR k T u v ρ (bsU T u + 5) = nmR k T u v ρ (bsU T u + 2) := by
    have q : ∀ (f : Rw) (x y : Int), y ≠ x → up f x (f y) x = up f x (f y) y := fun f x y hy => by rw [up_eq, up_ne hy]
    rw [eR]
    exact q _ _ _ (by omega)
  generalize hτ : nmR k T u v ρ = τ at *
  have e : ∀ j, 0 ≤ j → j < 7 → tf τ (T - 1) j = tf ρ (T - 1) j := fun j h1 h2 => g _ (by omega) (by omega)
  have eu : un τ (T - 1) = un ρ (T - 1) := by
    unfold un
    rw [e 0 (by decide) (by decide), e 1 (by decide) (by decide)]
  have nw : nmW k = if k = 7 then 10 else k + 1 := by unfold nmW; rw [if_neg (by omega)]
  generalize hL : (uA A (Tm + 1 + (k - 3).toNat) u v) (Tm + 3) u = L at *
  refine ⟨uA_eq _ _ _, ?_, ?_, ?_, fun t ht => ?_⟩
  · rw [uA_k _ (by decide), uA_p _ _ _ (by omega), uA_p _ _ _ (by omega)]; exact c2
  · rw [uA_k _ (by decide), uA_p _ _ _ (by omega), uA_p _ _ _ (by omega)]; exact c3
  · rw [uA_P (by decide), uA_P (by omega), uA_P (by omega), g 0 (by omega) (by omega), g 1 (by omega) (by omega), g 2 (by omega) (by omega)]; exact c4
  · by_cases c : t = T - 1
    · subst c
      rw [hTm]
      have fT : ∀ j, uA (uA (uA A (Tm + 1 + (k - 3).toNat) u v) (Tm + 6) u L) 32 9 (nmW k) Tm j = A Tm j := fun j => by rw [uA_p _ _ _ (by omega), uA_p _ _ _ (by omega), uA_p _ _ _ (by omega)]
      refine ⟨?_, fun x y d1 d2 d3 d4 hd => ?_⟩
      · rw [fT, fT, fT, fT, fT, fT, fT, e 0 (by decide) (by decide), e 1 (by decide) (by decide), e 2 (by decide) (by decide), e 3 (by decide) (by decide), e 4 (by decide) (by decide), e 5 (by decide) (by decide), e 6 (by decide) (by decide)]
        exact hP.1
      · have hd' : x < u ∨ (x = u ∧ (y ≤ k - 3 ∨ (y = 5 ∧ 5 ≤ k))) := by
          rw [nw] at hd
          by_cases k7 : k = 7
          · rw [if_pos k7, cuF_n (by decide), cwF_n (by decide), eu] at hd
            unfold dn at hd
            omega
          · rw [if_neg k7, cuF_y (by omega), cwF_y (by omega)] at hd
            unfold dn at hd
            omega
        rw [uA_p _ _ _ (by omega)]
        by_cases q : x = u
        · subst q
          by_cases q5 : y = 5
          · subst q5
            have eL : τ (bsU T x + 2) = L := by
              rw [← hL]
              by_cases k5 : k = 5
              · subst k5
                rw [show Tm + 1 + ((5 : Int) - 3).toNat = Tm + 3 from rfl, uA_eq]
                exact gv
              · rw [uA_p _ _ _ (by omega), g _ (by omega) (by omega)]
                exact (hP.2 x 2 d1 d2 (by decide) (by decide) (.inr ⟨rfl, .inl (by omega)⟩)).symm
            show uA _ (Tm + 6) x L (Tm + 6) x = _
            rw [uA_eq]
            exact (g5.trans eL).symm
          · rw [uA_p _ _ _ (by omega)]
            by_cases qk : y = k - 3
            · subst qk
              rw [uA_eq]
              exact gv.symm
            · rw [uA_p _ _ _ (by omega)]
              have : uf τ (T - 1) x y = uf ρ (T - 1) x y := g _ (by omega) (by omega)
              rw [this]
              exact hP.2 x y d1 d2 d3 d4 (.inr ⟨rfl, .inl (by omega)⟩)
        · have ee : uf τ (T - 1) x y = uf ρ (T - 1) x y := g _ (by omega) (by omega)
          rw [uA_k _ q, uA_k _ q, ee]
          exact hP.2 x y d1 d2 d3 d4 (.inl (by omega))
    · have fr : ∀ j, 3 + 43 * t ≤ j → j < 46 + 43 * t → τ j = ρ j := fun j a b => g j (by omega) (by omega)
      have := c5 t ht
      have eT' := tR33 ht
      rw [cuF_o c, cwF_o c] at this
      rw [cuF_o c, cwF_o c, un_cg ht fr]
      exact PT_cg ht this (fun p _ _ => by rw [uA_P (by omega), uA_P (by omega), uA_P (by omega)]) fr
end CT
