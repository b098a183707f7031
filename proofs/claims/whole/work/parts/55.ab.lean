/-! ===== the class: worths with cut-offs are the worths ===== -/
def FrF (l : Int) (A A' : Am) : Prop := (∀ p, p < 70 ∨ 143 < p → A' p = A p) ∧ (∀ p, 72 ≤ p → p < 80 + 8 * l.toNat → A' p = A p) ∧ (∀ j, j < l → A' 70 j = A 70 j) ∧ ∀ j, j < l → A' 71 j = A 71 j
def FrS (l : Int) (A A' : Am) : Prop := (∀ p, p < 70 ∨ 143 < p → A' p = A p) ∧ (∀ p, 72 ≤ p → p < 80 + 8 * l.toNat → A' p = A p) ∧ (∀ j, j ≤ l → A' 70 j = A 70 j) ∧ ∀ j, j < l → A' 71 j = A 71 j
def Win (low high r v : Int) : Prop := (r ≤ low → v ≤ r) ∧ (high ≤ r → r ≤ v) ∧ (low < r → r < high → r = v)
section ABp
variable {A : Am} {E : En} {ρ : Rw} {x y l f : Int}
theorem FrF_refl : FrF l A A := ⟨fun _ _ => rfl, fun _ _ _ => rfl, fun _ _ => rfl, fun _ _ => rfl⟩
theorem FrS_refl : FrS l A A := ⟨fun _ _ => rfl, fun _ _ _ => rfl, fun _ _ => rfl, fun _ _ => rfl⟩
theorem FrF_tr {B C : Am} (h1 : FrF l A B) (h2 : FrF l B C) : FrF l A C := ⟨fun p q => (h2.1 p q).trans (h1.1 p q), fun p q r => (h2.2.1 p q r).trans (h1.2.1 p q r), fun j q => (h2.2.2.1 j q).trans (h1.2.2.1 j q), fun j q => (h2.2.2.2 j q).trans (h1.2.2.2 j q)⟩
theorem FrS_tr {B C : Am} (h1 : FrS l A B) (h2 : FrS l B C) : FrS l A C := ⟨fun p q => (h2.1 p q).trans (h1.1 p q), fun p q r => (h2.2.1 p q r).trans (h1.2.1 p q r), fun j q => (h2.2.2.1 j q).trans (h1.2.2.1 j q), fun j q => (h2.2.2.2 j q).trans (h1.2.2.2 j q)⟩
theorem FrS_F {B : Am} (h1 : FrS l A B) : FrF l A B := ⟨h1.1, h1.2.1, fun j q => h1.2.2.1 j (by omega), h1.2.2.2⟩
theorem Ah_fr {A' : Am} (h : AheadAt A E ρ l) (l0 : 0 ≤ l) (f1 : ∀ p, p < 70 ∨ 143 < p → A' p = A p) (f2 : ∀ p, 72 ≤ p → p < 80 + 8 * l.toNat → A' p = A p) : AheadAt A' E ρ l := by
  have v0 := sP_v (t := 0) (l := l) (.inl rfl)
  have v1 := sP_v (t := 1) (l := l) (.inr rfl)
  simp only [Int.toNat_zero, Int.toNat_one] at v0 v1
  obtain ⟨h1, h2, h3, h4, h5, h6, h7, h8⟩ := h
  refine ⟨SideAt_fr h1 (fun p _ _ => f2 p (by omega) (by omega)), SideAt_fr h2 (fun p _ _ => f2 p (by omega) (by omega)), TS_fr h3 (fun k _ => by rw [f1 3 (by omega)]) (fun p _ _ => f1 p (by omega)), TS_fr h4 (fun k _ => by rw [f1 10 (by omega)]) (fun p _ _ => f1 p (by omega)), ?_⟩
  rw [f1 67 (by omega)]
  exact ⟨h5, h6, h7, h8⟩
/-- what is known of the first best for who sends first, as the class counts -/
theorem fp_max (V : Rw → Int) (hf : WF ρ) (e : f = 1 - ρ 1) : (∀ u, may ρ f u = true → sg f * (rp V ρ u).2 ≤ sg f * (fp V ρ).2) ∧ (∃ u, may ρ f u = true ∧ sg f * (rp V ρ u).2 = sg f * (fp V ρ).2) ∧ ∀ i, may ρ f i = true → (∀ u, may ρ f u = true → sg f * (rp V ρ u).2 ≤ sg f * (rp V ρ i).2) → (∀ u, may ρ f u = true → u < i → sg f * (rp V ρ u).2 < sg f * (rp V ρ i).2) → (fp V ρ).1 = i := by
  have h1 := hf.2.1
  have ff : f = 0 ∨ f = 1 := by omega
  have w1 := WF_t hf ff
  have ne : may ρ f (fs ρ f (tf ρ f 4) (tf ρ f 6)) = true := by
    rw [may_fs w1]
    exact decide_eq_true ⟨by omega, (fs_es w1 w1.2.2.2.2.2.2.1.1 w1.2.2.2.2.2.2.1.2).2.1⟩
  unfold fp
  rw [← e]
  rcases bst_sp f ff (fun u => (rp V ρ u).2) (may ρ f) 6 with ⟨-, -, h3⟩ | ⟨k1, k2, k3, k4, k5⟩
  · have := may_lt6 w1 ne
    rw [h3 _ this.1 this.2] at ne; cases ne
  · refine ⟨fun u hu => ?_, ⟨_, k2, by rw [k3]⟩, fun i hi ha hb => ?_⟩
    · have := may_lt6 w1 hu
      exact k4 u this.1 this.2 hu
    · have := may_lt6 w1 hi
      rw [bst_un ff this.1 this.2 hi (fun j a b q => ha j q) (fun j a b q => hb j q b)]
theorem rp_min (V : Rw → Int) (hf : WF ρ) (e : f = 1 - ρ 1) (u : Int) : (∀ v, may ρ (1 - f) v = true → sg f * (rp V ρ u).2 ≤ sg f * Wk V ρ (pX f u v) (pY f u v)) ∧ (∃ v, may ρ (1 - f) v = true ∧ sg f * Wk V ρ (pX f u v) (pY f u v) = sg f * (rp V ρ u).2) ∧ ∀ i, may ρ (1 - f) i = true → (∀ v, may ρ (1 - f) v = true → sg f * Wk V ρ (pX f u i) (pY f u i) ≤ sg f * Wk V ρ (pX f u v) (pY f u v)) → (∀ v, may ρ (1 - f) v = true → v < i → sg f * Wk V ρ (pX f u i) (pY f u i) < sg f * Wk V ρ (pX f u v) (pY f u v)) → (rp V ρ u).1 = i := by
  have h1 := hf.2.1
  have ff : f = 0 ∨ f = 1 := by omega
  have fo : 1 - f = 0 ∨ 1 - f = 1 := by omega
  have w1 := WF_t hf fo
  have sgo := sg_o ff
  have ne : may ρ (1 - f) (fs ρ (1 - f) (tf ρ (1 - f) 4) (tf ρ (1 - f) 6)) = true := by
    rw [may_fs w1]
    exact decide_eq_true ⟨by omega, (fs_es w1 w1.2.2.2.2.2.2.1.1 w1.2.2.2.2.2.2.1.2).2.1⟩
  unfold rp
  rw [← e]
  have neg : ∀ a b : Int, sg (1 - f) * a ≤ sg (1 - f) * b ↔ sg f * b ≤ sg f * a := by
    intro a b
    rw [sgo, Int.neg_mul, Int.neg_mul]; omega
  have neg' : ∀ a b : Int, sg (1 - f) * a < sg (1 - f) * b ↔ sg f * b < sg f * a := by
    intro a b
    rw [sgo, Int.neg_mul, Int.neg_mul]; omega
  rcases bst_sp (1 - f) fo (fun v => Wk V ρ (pX f u v) (pY f u v)) (may ρ (1 - f)) 6 with ⟨-, -, h3⟩ | ⟨k1, k2, k3, k4, k5⟩
  · have := may_lt6 w1 ne
    rw [h3 _ this.1 this.2] at ne; cases ne
  · refine ⟨fun v hv => ?_, ⟨_, k2, by rw [k3]⟩, fun i hi ha hb => ?_⟩
    · have := may_lt6 w1 hv
      exact (neg _ _).mp (k4 v this.1 this.2 hv)
    · have := may_lt6 w1 hi
      rw [bst_un (f := fun v => Wk V ρ (pX f u v) (pY f u v)) fo this.1 this.2 hi (fun j a b q => (neg _ _).mpr (ha j q)) (fun j a b q => (neg' _ _).mpr (hb j q b))]
/-- firstWorth over k turns -/
def FW (E : En) (k : Nat) : Prop := ∀ (d : Nat) (l : Int) (ρ : Rw) (low high kk : Int) (A : Am), 2 * k + 3 < d → kk = (k : Int) → 0 ≤ l → l + k ≤ 8 → WF ρ → AheadAt A E ρ l → low < high → -2000000 + 450 * (k : Int) ≤ low → high ≤ 2000000 - 450 * (k : Int) →
  ∃ A' r, D_Ahead_firstWorth d (MM A E) 67 (iI l) (iI kk) (iI low) (iI high) = some (.inl (some (.int (iI r))), MM A' E) ∧ Win low high r (sg (1 - ρ 1) * Vk k ρ) ∧ (-1000000 - 450 * (k : Int) ≤ r ∧ r ≤ 1000000 + 450 * (k : Int)) ∧ FrF l A A' ∧ ∀ k', k = k' + 1 → low < r → r < high → A' 70 l = (fp (Vk k') ρ).1
def SW (E : En) (k : Nat) : Prop := ∀ (d : Nat) (l : Int) (ρ : Rw) (u low high kk : Int) (A : Am), 2 * k + 4 < d → kk = (k : Int) + 1 → 0 ≤ l → l + k ≤ 7 → WF ρ → AheadAt A E ρ l → may ρ (1 - ρ 1) u = true → low < high → -2000000 + 450 * ((k : Int) + 1) ≤ low → high ≤ 2000000 - 450 * ((k : Int) + 1) →
  ∃ A' r, D_Ahead_seerWorth d (MM A E) 67 (iI l) (iI kk) (iI u) (iI low) (iI high) = some (.inl (some (.int (iI r))), MM A' E) ∧ Win low high r (sg (1 - ρ 1) * (rp (Vk k) ρ u).2) ∧ (-1000000 - 450 * ((k : Int) + 1) ≤ r ∧ r ≤ 1000000 + 450 * ((k : Int) + 1)) ∧ FrS l A A' ∧ (low < r → r < high → A' 71 l = (rp (Vk k) ρ u).1)
theorem sg_rg {t v m : Int} (ht : t = 0 ∨ t = 1) (h1 : -m ≤ v) (h2 : v ≤ m) : -m ≤ sg t * v ∧ sg t * v ≤ m := by
  rcases ht with rfl | rfl
  · show -m ≤ 1 * v ∧ 1 * v ≤ m; omega
  · show -m ≤ -1 * v ∧ -1 * v ≤ m; omega
theorem FW_z (E : En) : FW E 0 := by
  intro d l ρ low high kk A hd hk l0 l1 hf hA hlh hlo hhi
  have h1 := hf.2.1
  have e0 : sg (1 - ρ 1) * Vk 0 ρ = 0 := Int.mul_zero _
  subst hk
  refine ⟨A, 0, ?_, ⟨fun _ => by rw [e0]; omega, fun _ => by rw [e0]; omega, fun _ _ => by rw [e0]⟩, ⟨by decide, by decide⟩, FrF_refl, fun k' h => by omega⟩
  rw [eD_Ahead_firstWorth]
  simp (disch := omega) only [cond_true, cond_false, Bool.and_self, Bool.and_true, Bool.true_and, Bool.and_false, Bool.false_and, Bool.not_true, Bool.not_false, Bool.or_true, Bool.true_or, Bool.or_false, Bool.false_or, cond_dec, cI_ok, cR_ok, cV_ok, cJ_ok, bo_nr, bo_0, bo_i0, nr_0, nr_10, nr_11, nr_i0, nr_i1, bl_0, iI_add, iI_sub, iI_mul, iI_neg, qlt, qeq, qmax, qmin, qdiv, qrem, qn0, qin, I_0, w_0, I_1, w_1, I_2, w_2, I_3, w_3, I_4, w_4, I_5, w_5, I_6, w_6, I_7, w_7, I_8, w_8, I_9, w_9, I_10, w_10, I_11, w_11, I_12, w_12, I_13, w_13, I_14, w_14, I_15, w_15, I_16, w_16, I_17, w_17, I_18, w_18, I_19, w_19, I_20, w_20, I_21, w_21, I_22, w_22, I_23, w_23, I_24, w_24, I_25, w_25, I_26, w_26, I_27, w_27, I_28, w_28, I_29, w_29, I_30, w_30, I_31, w_31, I_32, w_32, I_33, w_33, I_34, w_34, I_35, w_35, I_36, w_36, I_37, w_37, I_38, w_38, I_39, w_39, I_40, w_40, I_41, w_41, I_at, w_at, th_MM, J_MM, wJ_MM, P_F, P_G, fA_in, fA_k, fA_p, fA_P, uA_P, cA_P, uA_eq, uA_k, uA_p, cA_in, cA_k, cA_p, cp_at, cp_le, qlt0, nr_ib, Nat.not_lt_zero, decide_false, ki_1, kp_1_0, kp_1_1, kp_1_2, kp_1_3, kp_1_4, kp_1_5, kp_1_6, kp_1_7, kp_1_8, kp_1_9, kp_1_10, ki_2, kp_2_0, kp_2_1, ki_17, kp_17_0, kp_17_1, ki_32, kp_32_0, kp_32_3, ki_33, kp_33_0, kp_33_1, ki_48, kz_48, ki_49, kp_49_0, ki_50, kz_50, krr_50, ki_67, kp_67_0, kp_67_1, kp_67_2, kp_67_3, kp_67_4, ki_68, kz_68, krr_68, ki_69, kz_69, krr_69, ki_70, kz_70, ki_71, kz_71, ki_144, kp_144_0, kp_144_1, kp_144_2, kp_144_3, kp_144_4, ki_145, kz_145, ki_146, kz_146, ki_147, kz_147, ki_148, kz_148, ki_149, kp_149_0, kp_149_1, kp_149_2, ki_150, kz_150, ki_151, kz_151, ki_152, kp_152_0, kp_152_1, kp_152_2, ki_153, kz_153, ki_154, kz_154, ki_155, kz_155, ki_156, kp_156_0, kp_156_1, kp_156_2, ki_157, kz_157, ki_158, kp_158_0, ki_159, kz_159, ki_160, kz_160, ki_161, kp_161_1, kp_161_2, kp_161_3, kp_161_4, kp_161_7, kp_161_21, kp_161_22, kp_161_23, kp_161_26, kp_161_27, kp_161_28, kp_161_29, kp_161_30, kp_161_32, kp_161_33, kp_161_37, kp_161_40, ki_162, kz_162, ki_163, kz_163, ki_164, kz_164, ki_165, kz_165, ki_166, kz_166, ki_167, kz_167, ki_168, kz_168, ki_169, kz_169, ki_170, kz_170, ki_171, kz_171, ki_172, kz_172, ki_173, kz_173, ki_174, kz_174, ki_175, kz_175, ki_176, kz_176, ki_177, kz_177, ki_178, kz_178, ki_179, kz_179, li_m1000000, li_m8, li_m5, li_m1, li_0, li_1, li_2, li_3, li_4, li_5, li_6, li_7, li_8, li_9, li_10, li_11, li_12, li_13, li_14, li_15, li_16, li_17, li_18, li_19, li_20, li_21, li_22, li_23, li_24, li_25, li_26, li_27, li_28, li_29, li_30, li_31, li_32, li_42, li_43, li_46, li_47, li_48, li_49, li_52, li_57, li_59, li_60, li_64, li_89, li_94, li_97, li_99, li_100, li_108, li_112, li_120, li_122, li_150, li_255, li_300, li_450, li_500, li_671, li_890, li_1000, li_1001, li_1002, li_1003, li_1424, li_12345, li_32767, li_500000, li_1000000, li_1103515245, Int.reduceEq, Int.reduceLT, Int.reduceLE, reduceIte, Int.reduceAdd, Int.reduceSub, Int.reduceMul, Nat.reduceAdd, Nat.reduceMul, Int.ofNat_zero, Int.natCast_zero, Int.cast_ofNat_Int]
theorem FW_s (E : En) (k : Nat) (hk8 : k < 8) (ih : SW E k) : FW E (k + 1) := by
  intro d l ρ low high kk A hd hk l0 l1 hf hA hlh hlo hhi
  have h1 := hf.2.1
  generalize hfe : 1 - ρ 1 = f at *
  have e : f = 1 - ρ 1 := hfe.symm
  have ff : f = 0 ∨ f = 1 := by omega
  have fo : 1 - f = 0 ∨ 1 - f = 1 := by omega
  have w1 := WF_t hf ff
  obtain ⟨c0, c1, c2, c3⟩ := fs_es (p := tf ρ f 4) w1 w1.2.2.2.2.2.2.1.1 w1.2.2.2.2.2.2.1.2
  obtain ⟨m1, ⟨um, m2, m3⟩, m4⟩ := fp_max (Vk k) hf e
  have vr := sg_rg ff (Vk_rg (k + 1) ρ).1 (Vk_rg (k + 1) ρ).2
  have evv : Vk (k + 1) ρ = (fp (Vk k) ρ).2 := rfl
  rw [evv] at vr
  have mf : ∀ u, may ρ f u = true ↔ fs ρ f (tf ρ f 4) (tf ρ f 6) ≤ u ∧ u < es ρ f (tf ρ f 4) (tf ρ f 6) := fun u => by rw [may_fs w1]; exact decide_eq_true_iff
  have cr : ∀ u, -(450 * ((k : Int) + 1)) ≤ sg f * (rp (Vk k) ρ u).2 ∧ sg f * (rp (Vk k) ρ u).2 ≤ 450 * ((k : Int) + 1) := by
    intro u
    have : -(450 * ((k : Int) + 1)) ≤ (rp (Vk k) ρ u).2 ∧ (rp (Vk k) ρ u).2 ≤ 450 * ((k : Int) + 1) := by
      refine bst_rg _ _ _ _ _ (by omega) (fun v _ _ _ => ?_)
      have a := ed_rg ρ (pX (1 - ρ 1) u v) (pY (1 - ρ 1) u v)
      have b := Vk_rg k (tn ρ (pX (1 - ρ 1) u v) (pY (1 - ρ 1) u v))
      unfold Wk
      omega
    exact sg_rg ff this.1 this.2
  generalize hF : fs ρ f (tf ρ f 4) (tf ρ f 6) = F at *
  generalize hE : es ρ f (tf ρ f 4) (tf ρ f 6) = G at *
  have S1 := SD_P (l := l) ff (by omega)
  have hkk : kk = (k : Int) + 1 := by omega
  have loop : ∀ (n : Nat) (i best : Int) (A : Am), n = (G - i).toNat → F ≤ i → i ≤ G → AheadAt A E ρ l → (-1000000 - 450 * ((k : Int) + 1) ≤ best ∧ best ≤ 1000000 + 450 * ((k : Int) + 1)) → (best < high → ∀ u, F ≤ u → u < i → sg f * (rp (Vk k) ρ u).2 ≤ best) → (low < best → best < high → (i = F ∧ best = -1000000) ∨ (F ≤ A 70 l ∧ A 70 l < i ∧ sg f * (rp (Vk k) ρ (A 70 l)).2 = best ∧ ∀ u, F ≤ u → u < A 70 l → sg f * (rp (Vk k) ρ u).2 < best)) → (high ≤ best → best ≤ sg f * (fp (Vk k) ρ).2) →
      ∃ A' r, L_Ahead_firstWorth_30 d (MM A E) 67 (iI l) (iI kk) (iI low) (iI high) (iI best) (iI i) = some (.inl (some (.int (iI r))), MM A' E) ∧ Win low high r (sg f * (fp (Vk k) ρ).2) ∧ (-1000000 - 450 * ((k : Int) + 1) ≤ r ∧ r ≤ 1000000 + 450 * ((k : Int) + 1)) ∧ FrF l A A' ∧ (low < r → r < high → A' 70 l = (fp (Vk k) ρ).1) := by
    intro n
    induction n with
    | zero =>
      intro i best A hn i0 i1 hA I0 I1 I2 I3
      have ei : i = G := by omega
      obtain ⟨-, -, g6, -, -⟩ := Ah_S hA ff
      rw [hE] at g6
      have e5 := hA.2.2.2.2.2.2.2.1
      rw [← e] at e5
      refine ⟨A, best, ?_, ⟨fun q => ?_, I3, fun q1 q2 => ?_⟩, I0, FrF_refl, fun q1 q2 => ?_⟩
      · rw [eL_Ahead_firstWorth_30]
        simp (disch := omega) only [cond_true, cond_false, Bool.and_self, Bool.and_true, Bool.true_and, Bool.and_false, Bool.false_and, Bool.not_true, Bool.not_false, Bool.or_true, Bool.true_or, Bool.or_false, Bool.false_or, cond_dec, cI_ok, cR_ok, cV_ok, cJ_ok, bo_nr, bo_0, bo_i0, nr_0, nr_10, nr_11, nr_i0, nr_i1, bl_0, iI_add, iI_sub, iI_mul, iI_neg, qlt, qeq, qmax, qmin, qdiv, qrem, qn0, qin, I_0, w_0, I_1, w_1, I_2, w_2, I_3, w_3, I_4, w_4, I_5, w_5, I_6, w_6, I_7, w_7, I_8, w_8, I_9, w_9, I_10, w_10, I_11, w_11, I_12, w_12, I_13, w_13, I_14, w_14, I_15, w_15, I_16, w_16, I_17, w_17, I_18, w_18, I_19, w_19, I_20, w_20, I_21, w_21, I_22, w_22, I_23, w_23, I_24, w_24, I_25, w_25, I_26, w_26, I_27, w_27, I_28, w_28, I_29, w_29, I_30, w_30, I_31, w_31, I_32, w_32, I_33, w_33, I_34, w_34, I_35, w_35, I_36, w_36, I_37, w_37, I_38, w_38, I_39, w_39, I_40, w_40, I_41, w_41, I_at, w_at, th_MM, J_MM, wJ_MM, P_F, P_G, fA_in, fA_k, fA_p, fA_P, uA_P, cA_P, uA_eq, uA_k, uA_p, cA_in, cA_k, cA_p, cp_at, cp_le, qlt0, nr_ib, Nat.not_lt_zero, decide_false, ki_1, kp_1_0, kp_1_1, kp_1_2, kp_1_3, kp_1_4, kp_1_5, kp_1_6, kp_1_7, kp_1_8, kp_1_9, kp_1_10, ki_2, kp_2_0, kp_2_1, ki_17, kp_17_0, kp_17_1, ki_32, kp_32_0, kp_32_3, ki_33, kp_33_0, kp_33_1, ki_48, kz_48, ki_49, kp_49_0, ki_50, kz_50, krr_50, ki_67, kp_67_0, kp_67_1, kp_67_2, kp_67_3, kp_67_4, ki_68, kz_68, krr_68, ki_69, kz_69, krr_69, ki_70, kz_70, ki_71, kz_71, ki_144, kp_144_0, kp_144_1, kp_144_2, kp_144_3, kp_144_4, ki_145, kz_145, ki_146, kz_146, ki_147, kz_147, ki_148, kz_148, ki_149, kp_149_0, kp_149_1, kp_149_2, ki_150, kz_150, ki_151, kz_151, ki_152, kp_152_0, kp_152_1, kp_152_2, ki_153, kz_153, ki_154, kz_154, ki_155, kz_155, ki_156, kp_156_0, kp_156_1, kp_156_2, ki_157, kz_157, ki_158, kp_158_0, ki_159, kz_159, ki_160, kz_160, ki_161, kp_161_1, kp_161_2, kp_161_3, kp_161_4, kp_161_7, kp_161_21, kp_161_22, kp_161_23, kp_161_26, kp_161_27, kp_161_28, kp_161_29, kp_161_30, kp_161_32, kp_161_33, kp_161_37, kp_161_40, ki_162, kz_162, ki_163, kz_163, ki_164, kz_164, ki_165, kz_165, ki_166, kz_166, ki_167, kz_167, ki_168, kz_168, ki_169, kz_169, ki_170, kz_170, ki_171, kz_171, ki_172, kz_172, ki_173, kz_173, ki_174, kz_174, ki_175, kz_175, ki_176, kz_176, ki_177, kz_177, ki_178, kz_178, ki_179, kz_179, li_m1000000, li_m8, li_m5, li_m1, li_0, li_1, li_2, li_3, li_4, li_5, li_6, li_7, li_8, li_9, li_10, li_11, li_12, li_13, li_14, li_15, li_16, li_17, li_18, li_19, li_20, li_21, li_22, li_23, li_24, li_25, li_26, li_27, li_28, li_29, li_30, li_31, li_32, li_42, li_43, li_46, li_47, li_48, li_49, li_52, li_57, li_59, li_60, li_64, li_89, li_94, li_97, li_99, li_100, li_108, li_112, li_120, li_122, li_150, li_255, li_300, li_450, li_500, li_671, li_890, li_1000, li_1001, li_1002, li_1003, li_1424, li_12345, li_32767, li_500000, li_1000000, li_1103515245, Int.reduceEq, Int.reduceLT, Int.reduceLE, reduceIte, Int.reduceAdd, Int.reduceSub, Int.reduceMul, Nat.reduceAdd, Nat.reduceMul, e5, rr_gF ff, sz_gF ff, P_gF ff, is_S S1, g6]
        rw [if_neg (by omega)]
      · rw [← m3]
        exact I1 (by omega) um ((mf um).mp m2).1 (by have := ((mf um).mp m2).2; omega)
      · rcases I2 q1 q2 with ⟨a, -⟩ | ⟨a, b, c, -⟩
        · omega
        · have z1 := m1 (A 70 l) ((mf _).mpr ⟨a, by omega⟩)
          have z2 := I1 q2 um ((mf um).mp m2).1 (by have := ((mf um).mp m2).2; omega)
          omega
      · rcases I2 q1 q2 with ⟨a, -⟩ | ⟨a, b, c, dd⟩
        · omega
        · exact (m4 (A 70 l) ((mf _).mpr ⟨a, by omega⟩) (fun u hu => by rw [c]; exact I1 q2 u ((mf u).mp hu).1 (by have := ((mf u).mp hu).2; omega)) (fun u hu hl => by rw [c]; exact dd u ((mf u).mp hu).1 hl)).symm
    | succ n ihn =>
      intro i best A hn i0 i1 hA I0 I1 I2 I3
      obtain ⟨-, -, g6, -, -⟩ := Ah_S hA ff
      rw [hE] at g6
      have e5 := hA.2.2.2.2.2.2.2.1
      rw [← e] at e5
      by_cases hb : best < high
      · obtain ⟨A1, w, x1, ⟨x2, x3, x4⟩, x5, x6, x7⟩ := ih (d - 1) l ρ i (max low best) high kk A (by omega) hkk l0 (by omega) hf hA (by rw [← e]; exact (mf i).mpr ⟨i0, by omega⟩) (by omega) (by omega) (by omega)
        rw [← e] at x2 x3 x4
        have cri := cr i
        by_cases hw : best < w
        · have a1 : AheadAt (uA A1 70 l i) E ρ l := Ah_fr hA l0 (fun p hp => by rw [uA_P (by omega)]; exact x6.1 p hp) (fun p hp hp' => by rw [uA_P (by omega)]; exact x6.2.1 p hp hp')
          obtain ⟨A', r, y1, y2, y3, y4, y5⟩ := ihn (i + 1) w (uA A1 70 l i) (by omega) (by omega) (by omega) a1 x5 (fun q u u0 u1 => by
              by_cases z : u = i
              · rw [z]
                by_cases z2 : w ≤ max low best
                · exact x2 z2
                · exact Int.le_of_eq (x4 (by omega) q).symm
              · have := I1 hb u u0 (by omega)
                omega) (fun q1 q2 => by
              refine .inr ⟨?_, ?_, ?_, ?_⟩
              · rw [uA_eq]; exact i0
              · rw [uA_eq]; omega
              · rw [uA_eq]; exact (x4 (by omega) q2).symm
              · rw [uA_eq]
                intro u u0 u1
                have := I1 hb u u0 u1
                omega) (fun q => by
              have z1 := x3 q
              have z2 := m1 i ((mf i).mpr ⟨i0, by omega⟩)
              omega)
          refine ⟨A', r, ?_, y2, y3, FrF_tr ⟨fun p hp => by rw [uA_P (by omega)]; exact x6.1 p hp, fun p hp hp' => by rw [uA_P (by omega)]; exact x6.2.1 p hp hp', fun j hj => by rw [uA_k _ (by omega)]; exact x6.2.2.1 j (by omega), fun j hj => by rw [uA_p _ _ _ (by decide)]; exact x6.2.2.2 j hj⟩ y4, y5⟩
          rw [eL_Ahead_firstWorth_30]
          simp (disch := omega) only [cond_true, cond_false, Bool.and_self, Bool.and_true, Bool.true_and, Bool.and_false, Bool.false_and, Bool.not_true, Bool.not_false, Bool.or_true, Bool.true_or, Bool.or_false, Bool.false_or, cond_dec, cI_ok, cR_ok, cV_ok, cJ_ok, bo_nr, bo_0, bo_i0, nr_0, nr_10, nr_11, nr_i0, nr_i1, bl_0, iI_add, iI_sub, iI_mul, iI_neg, qlt, qeq, qmax, qmin, qdiv, qrem, qn0, qin, I_0, w_0, I_1, w_1, I_2, w_2, I_3, w_3, I_4, w_4, I_5, w_5, I_6, w_6, I_7, w_7, I_8, w_8, I_9, w_9, I_10, w_10, I_11, w_11, I_12, w_12, I_13, w_13, I_14, w_14, I_15, w_15, I_16, w_16, I_17, w_17, I_18, w_18, I_19, w_19, I_20, w_20, I_21, w_21, I_22, w_22, I_23, w_23, I_24, w_24, I_25, w_25, I_26, w_26, I_27, w_27, I_28, w_28, I_29, w_29, I_30, w_30, I_31, w_31, I_32, w_32, I_33, w_33, I_34, w_34, I_35, w_35, I_36, w_36, I_37, w_37, I_38, w_38, I_39, w_39, I_40, w_40, I_41, w_41, I_at, w_at, th_MM, J_MM, wJ_MM, P_F, P_G, fA_in, fA_k, fA_p, fA_P, uA_P, cA_P, uA_eq, uA_k, uA_p, cA_in, cA_k, cA_p, cp_at, cp_le, qlt0, nr_ib, Nat.not_lt_zero, decide_false, ki_1, kp_1_0, kp_1_1, kp_1_2, kp_1_3, kp_1_4, kp_1_5, kp_1_6, kp_1_7, kp_1_8, kp_1_9, kp_1_10, ki_2, kp_2_0, kp_2_1, ki_17, kp_17_0, kp_17_1, ki_32, kp_32_0, kp_32_3, ki_33, kp_33_0, kp_33_1, ki_48, kz_48, ki_49, kp_49_0, ki_50, kz_50, krr_50, ki_67, kp_67_0, kp_67_1, kp_67_2, kp_67_3, kp_67_4, ki_68, kz_68, krr_68, ki_69, kz_69, krr_69, ki_70, kz_70, ki_71, kz_71, ki_144, kp_144_0, kp_144_1, kp_144_2, kp_144_3, kp_144_4, ki_145, kz_145, ki_146, kz_146, ki_147, kz_147, ki_148, kz_148, ki_149, kp_149_0, kp_149_1, kp_149_2, ki_150, kz_150, ki_151, kz_151, ki_152, kp_152_0, kp_152_1, kp_152_2, ki_153, kz_153, ki_154, kz_154, ki_155, kz_155, ki_156, kp_156_0, kp_156_1, kp_156_2, ki_157, kz_157, ki_158, kp_158_0, ki_159, kz_159, ki_160, kz_160, ki_161, kp_161_1, kp_161_2, kp_161_3, kp_161_4, kp_161_7, kp_161_21, kp_161_22, kp_161_23, kp_161_26, kp_161_27, kp_161_28, kp_161_29, kp_161_30, kp_161_32, kp_161_33, kp_161_37, kp_161_40, ki_162, kz_162, ki_163, kz_163, ki_164, kz_164, ki_165, kz_165, ki_166, kz_166, ki_167, kz_167, ki_168, kz_168, ki_169, kz_169, ki_170, kz_170, ki_171, kz_171, ki_172, kz_172, ki_173, kz_173, ki_174, kz_174, ki_175, kz_175, ki_176, kz_176, ki_177, kz_177, ki_178, kz_178, ki_179, kz_179, li_m1000000, li_m8, li_m5, li_m1, li_0, li_1, li_2, li_3, li_4, li_5, li_6, li_7, li_8, li_9, li_10, li_11, li_12, li_13, li_14, li_15, li_16, li_17, li_18, li_19, li_20, li_21, li_22, li_23, li_24, li_25, li_26, li_27, li_28, li_29, li_30, li_31, li_32, li_42, li_43, li_46, li_47, li_48, li_49, li_52, li_57, li_59, li_60, li_64, li_89, li_94, li_97, li_99, li_100, li_108, li_112, li_120, li_122, li_150, li_255, li_300, li_450, li_500, li_671, li_890, li_1000, li_1001, li_1002, li_1003, li_1424, li_12345, li_32767, li_500000, li_1000000, li_1103515245, Int.reduceEq, Int.reduceLT, Int.reduceLE, reduceIte, Int.reduceAdd, Int.reduceSub, Int.reduceMul, Nat.reduceAdd, Nat.reduceMul, e5, rr_gF ff, sz_gF ff, P_gF ff, is_S S1, g6, x1]
          rw [if_pos (by omega), if_pos hb, if_pos hw]
          exact y1
        · have a1 : AheadAt A1 E ρ l := Ah_fr hA l0 x6.1 x6.2.1
          have cw := x2 (by omega)
          obtain ⟨A', r, y1, y2, y3, y4, y5⟩ := ihn (i + 1) best A1 (by omega) (by omega) (by omega) a1 I0 (fun q u u0 u1 => by
              by_cases z : u = i
              · rw [z]; omega
              · exact I1 hb u u0 (by omega)) (fun q1 q2 => by
              rcases I2 q1 q2 with ⟨a, b⟩ | ⟨a, b, c, dd⟩
              · omega
              · refine .inr ?_
                rw [x6.2.2.1 l (by omega)]
                exact ⟨a, by omega, c, dd⟩) I3
          refine ⟨A', r, ?_, y2, y3, FrF_tr (FrS_F x6) y4, y5⟩
          rw [eL_Ahead_firstWorth_30]
          simp (disch := omega) only [cond_true, cond_false, Bool.and_self, Bool.and_true, Bool.true_and, Bool.and_false, Bool.false_and, Bool.not_true, Bool.not_false, Bool.or_true, Bool.true_or, Bool.or_false, Bool.false_or, cond_dec, cI_ok, cR_ok, cV_ok, cJ_ok, bo_nr, bo_0, bo_i0, nr_0, nr_10, nr_11, nr_i0, nr_i1, bl_0, iI_add, iI_sub, iI_mul, iI_neg, qlt, qeq, qmax, qmin, qdiv, qrem, qn0, qin, I_0, w_0, I_1, w_1, I_2, w_2, I_3, w_3, I_4, w_4, I_5, w_5, I_6, w_6, I_7, w_7, I_8, w_8, I_9, w_9, I_10, w_10, I_11, w_11, I_12, w_12, I_13, w_13, I_14, w_14, I_15, w_15, I_16, w_16, I_17, w_17, I_18, w_18, I_19, w_19, I_20, w_20, I_21, w_21, I_22, w_22, I_23, w_23, I_24, w_24, I_25, w_25, I_26, w_26, I_27, w_27, I_28, w_28, I_29, w_29, I_30, w_30, I_31, w_31, I_32, w_32, I_33, w_33, I_34, w_34, I_35, w_35, I_36, w_36, I_37, w_37, I_38, w_38, I_39, w_39, I_40, w_40, I_41, w_41, I_at, w_at, th_MM, J_MM, wJ_MM, P_F, P_G, fA_in, fA_k, fA_p, fA_P, uA_P, cA_P, uA_eq, uA_k, uA_p, cA_in, cA_k, cA_p, cp_at, cp_le, qlt0, nr_ib, Nat.not_lt_zero, decide_false, ki_1, kp_1_0, kp_1_1, kp_1_2, kp_1_3, kp_1_4, kp_1_5, kp_1_6, kp_1_7, kp_1_8, kp_1_9, kp_1_10, ki_2, kp_2_0, kp_2_1, ki_17, kp_17_0, kp_17_1, ki_32, kp_32_0, kp_32_3, ki_33, kp_33_0, kp_33_1, ki_48, kz_48, ki_49, kp_49_0, ki_50, kz_50, krr_50, ki_67, kp_67_0, kp_67_1, kp_67_2, kp_67_3, kp_67_4, ki_68, kz_68, krr_68, ki_69, kz_69, krr_69, ki_70, kz_70, ki_71, kz_71, ki_144, kp_144_0, kp_144_1, kp_144_2, kp_144_3, kp_144_4, ki_145, kz_145, ki_146, kz_146, ki_147, kz_147, ki_148, kz_148, ki_149, kp_149_0, kp_149_1, kp_149_2, ki_150, kz_150, ki_151, kz_151, ki_152, kp_152_0, kp_152_1, kp_152_2, ki_153, kz_153, ki_154, kz_154, ki_155, kz_155, ki_156, kp_156_0, kp_156_1, kp_156_2, ki_157, kz_157, ki_158, kp_158_0, ki_159, kz_159, ki_160, kz_160, ki_161, kp_161_1, kp_161_2, kp_161_3, kp_161_4, kp_161_7, kp_161_21, kp_161_22, kp_161_23, kp_161_26, kp_161_27, kp_161_28, kp_161_29, kp_161_30, kp_161_32, kp_161_33, kp_161_37, kp_161_40, ki_162, kz_162, ki_163, kz_163, ki_164, kz_164, ki_165, kz_165, ki_166, kz_166, ki_167, kz_167, ki_168, kz_168, ki_169, kz_169, ki_170, kz_170, ki_171, kz_171, ki_172, kz_172, ki_173, kz_173, ki_174, kz_174, ki_175, kz_175, ki_176, kz_176, ki_177, kz_177, ki_178, kz_178, ki_179, kz_179, li_m1000000, li_m8, li_m5, li_m1, li_0, li_1, li_2, li_3, li_4, li_5, li_6, li_7, li_8, li_9, li_10, li_11, li_12, li_13, li_14, li_15, li_16, li_17, li_18, li_19, li_20, li_21, li_22, li_23, li_24, li_25, li_26, li_27, li_28, li_29, li_30, li_31, li_32, li_42, li_43, li_46, li_47, li_48, li_49, li_52, li_57, li_59, li_60, li_64, li_89, li_94, li_97, li_99, li_100, li_108, li_112, li_120, li_122, li_150, li_255, li_300, li_450, li_500, li_671, li_890, li_1000, li_1001, li_1002, li_1003, li_1424, li_12345, li_32767, li_500000, li_1000000, li_1103515245, Int.reduceEq, Int.reduceLT, Int.reduceLE, reduceIte, Int.reduceAdd, Int.reduceSub, Int.reduceMul, Nat.reduceAdd, Nat.reduceMul, e5, rr_gF ff, sz_gF ff, P_gF ff, is_S S1, g6, x1]
          rw [if_pos (by omega), if_pos hb, if_neg hw]
          exact y1
      · refine ⟨A, best, ?_, ⟨fun q => by omega, I3, fun q1 q2 => by omega⟩, I0, FrF_refl, fun q1 q2 => by omega⟩
        rw [eL_Ahead_firstWorth_30]
        simp (disch := omega) only [cond_true, cond_false, Bool.and_self, Bool.and_true, Bool.true_and, Bool.and_false, Bool.false_and, Bool.not_true, Bool.not_false, Bool.or_true, Bool.true_or, Bool.or_false, Bool.false_or, cond_dec, cI_ok, cR_ok, cV_ok, cJ_ok, bo_nr, bo_0, bo_i0, nr_0, nr_10, nr_11, nr_i0, nr_i1, bl_0, iI_add, iI_sub, iI_mul, iI_neg, qlt, qeq, qmax, qmin, qdiv, qrem, qn0, qin, I_0, w_0, I_1, w_1, I_2, w_2, I_3, w_3, I_4, w_4, I_5, w_5, I_6, w_6, I_7, w_7, I_8, w_8, I_9, w_9, I_10, w_10, I_11, w_11, I_12, w_12, I_13, w_13, I_14, w_14, I_15, w_15, I_16, w_16, I_17, w_17, I_18, w_18, I_19, w_19, I_20, w_20, I_21, w_21, I_22, w_22, I_23, w_23, I_24, w_24, I_25, w_25, I_26, w_26, I_27, w_27, I_28, w_28, I_29, w_29, I_30, w_30, I_31, w_31, I_32, w_32, I_33, w_33, I_34, w_34, I_35, w_35, I_36, w_36, I_37, w_37, I_38, w_38, I_39, w_39, I_40, w_40, I_41, w_41, I_at, w_at, th_MM, J_MM, wJ_MM, P_F, P_G, fA_in, fA_k, fA_p, fA_P, uA_P, cA_P, uA_eq, uA_k, uA_p, cA_in, cA_k, cA_p, cp_at, cp_le, qlt0, nr_ib, Nat.not_lt_zero, decide_false, ki_1, kp_1_0, kp_1_1, kp_1_2, kp_1_3, kp_1_4, kp_1_5, kp_1_6, kp_1_7, kp_1_8, kp_1_9, kp_1_10, ki_2, kp_2_0, kp_2_1, ki_17, kp_17_0, kp_17_1, ki_32, kp_32_0, kp_32_3, ki_33, kp_33_0, kp_33_1, ki_48, kz_48, ki_49, kp_49_0, ki_50, kz_50, krr_50, ki_67, kp_67_0, kp_67_1, kp_67_2, kp_67_3, kp_67_4, ki_68, kz_68, krr_68, ki_69, kz_69, krr_69, ki_70, kz_70, ki_71, kz_71, ki_144, kp_144_0, kp_144_1, kp_144_2, kp_144_3, kp_144_4, ki_145, kz_145, ki_146, kz_146, ki_147, kz_147, ki_148, kz_148, ki_149, kp_149_0, kp_149_1, kp_149_2, ki_150, kz_150, ki_151, kz_151, ki_152, kp_152_0, kp_152_1, kp_152_2, ki_153, kz_153, ki_154, kz_154, ki_155, kz_155, ki_156, kp_156_0, kp_156_1, kp_156_2, ki_157, kz_157, ki_158, kp_158_0, ki_159, kz_159, ki_160, kz_160, ki_161, kp_161_1, kp_161_2, kp_161_3, kp_161_4, kp_161_7, kp_161_21, kp_161_22, kp_161_23, kp_161_26, kp_161_27, kp_161_28, kp_161_29, kp_161_30, kp_161_32, kp_161_33, kp_161_37, kp_161_40, ki_162, kz_162, ki_163, kz_163, ki_164, kz_164, ki_165, kz_165, ki_166, kz_166, ki_167, kz_167, ki_168, kz_168, ki_169, kz_169, ki_170, kz_170, ki_171, kz_171, ki_172, kz_172, ki_173, kz_173, ki_174, kz_174, ki_175, kz_175, ki_176, kz_176, ki_177, kz_177, ki_178, kz_178, ki_179, kz_179, li_m1000000, li_m8, li_m5, li_m1, li_0, li_1, li_2, li_3, li_4, li_5, li_6, li_7, li_8, li_9, li_10, li_11, li_12, li_13, li_14, li_15, li_16, li_17, li_18, li_19, li_20, li_21, li_22, li_23, li_24, li_25, li_26, li_27, li_28, li_29, li_30, li_31, li_32, li_42, li_43, li_46, li_47, li_48, li_49, li_52, li_57, li_59, li_60, li_64, li_89, li_94, li_97, li_99, li_100, li_108, li_112, li_120, li_122, li_150, li_255, li_300, li_450, li_500, li_671, li_890, li_1000, li_1001, li_1002, li_1003, li_1424, li_12345, li_32767, li_500000, li_1000000, li_1103515245, Int.reduceEq, Int.reduceLT, Int.reduceLE, reduceIte, Int.reduceAdd, Int.reduceSub, Int.reduceMul, Nat.reduceAdd, Nat.reduceMul, e5, rr_gF ff, sz_gF ff, P_gF ff, is_S S1, g6]
        rw [if_pos (by omega), if_neg hb]
  obtain ⟨-, g5, g6, -, -⟩ := Ah_S hA ff
  rw [hF] at g5
  have e5 := hA.2.2.2.2.2.2.2.1
  rw [← e] at e5
  obtain ⟨A', r, y1, y2, y3, y4, y5⟩ := loop _ F (-1000000) A rfl (by omega) (by omega) hA (by omega) (fun q u u0 u1 => by omega) (fun q1 q2 => .inl ⟨rfl, rfl⟩) (fun q => by omega)
  refine ⟨A', r, ?_, y2, by omega, y4, fun k' hk' => ?_⟩
  · rw [eD_Ahead_firstWorth]
    simp (disch := omega) only [cond_true, cond_false, Bool.and_self, Bool.and_true, Bool.true_and, Bool.and_false, Bool.false_and, Bool.not_true, Bool.not_false, Bool.or_true, Bool.true_or, Bool.or_false, Bool.false_or, cond_dec, cI_ok, cR_ok, cV_ok, cJ_ok, bo_nr, bo_0, bo_i0, nr_0, nr_10, nr_11, nr_i0, nr_i1, bl_0, iI_add, iI_sub, iI_mul, iI_neg, qlt, qeq, qmax, qmin, qdiv, qrem, qn0, qin, I_0, w_0, I_1, w_1, I_2, w_2, I_3, w_3, I_4, w_4, I_5, w_5, I_6, w_6, I_7, w_7, I_8, w_8, I_9, w_9, I_10, w_10, I_11, w_11, I_12, w_12, I_13, w_13, I_14, w_14, I_15, w_15, I_16, w_16, I_17, w_17, I_18, w_18, I_19, w_19, I_20, w_20, I_21, w_21, I_22, w_22, I_23, w_23, I_24, w_24, I_25, w_25, I_26, w_26, I_27, w_27, I_28, w_28, I_29, w_29, I_30, w_30, I_31, w_31, I_32, w_32, I_33, w_33, I_34, w_34, I_35, w_35, I_36, w_36, I_37, w_37, I_38, w_38, I_39, w_39, I_40, w_40, I_41, w_41, I_at, w_at, th_MM, J_MM, wJ_MM, P_F, P_G, fA_in, fA_k, fA_p, fA_P, uA_P, cA_P, uA_eq, uA_k, uA_p, cA_in, cA_k, cA_p, cp_at, cp_le, qlt0, nr_ib, Nat.not_lt_zero, decide_false, ki_1, kp_1_0, kp_1_1, kp_1_2, kp_1_3, kp_1_4, kp_1_5, kp_1_6, kp_1_7, kp_1_8, kp_1_9, kp_1_10, ki_2, kp_2_0, kp_2_1, ki_17, kp_17_0, kp_17_1, ki_32, kp_32_0, kp_32_3, ki_33, kp_33_0, kp_33_1, ki_48, kz_48, ki_49, kp_49_0, ki_50, kz_50, krr_50, ki_67, kp_67_0, kp_67_1, kp_67_2, kp_67_3, kp_67_4, ki_68, kz_68, krr_68, ki_69, kz_69, krr_69, ki_70, kz_70, ki_71, kz_71, ki_144, kp_144_0, kp_144_1, kp_144_2, kp_144_3, kp_144_4, ki_145, kz_145, ki_146, kz_146, ki_147, kz_147, ki_148, kz_148, ki_149, kp_149_0, kp_149_1, kp_149_2, ki_150, kz_150, ki_151, kz_151, ki_152, kp_152_0, kp_152_1, kp_152_2, ki_153, kz_153, ki_154, kz_154, ki_155, kz_155, ki_156, kp_156_0, kp_156_1, kp_156_2, ki_157, kz_157, ki_158, kp_158_0, ki_159, kz_159, ki_160, kz_160, ki_161, kp_161_1, kp_161_2, kp_161_3, kp_161_4, kp_161_7, kp_161_21, kp_161_22, kp_161_23, kp_161_26, kp_161_27, kp_161_28, kp_161_29, kp_161_30, kp_161_32, kp_161_33, kp_161_37, kp_161_40, ki_162, kz_162, ki_163, kz_163, ki_164, kz_164, ki_165, kz_165, ki_166, kz_166, ki_167, kz_167, ki_168, kz_168, ki_169, kz_169, ki_170, kz_170, ki_171, kz_171, ki_172, kz_172, ki_173, kz_173, ki_174, kz_174, ki_175, kz_175, ki_176, kz_176, ki_177, kz_177, ki_178, kz_178, ki_179, kz_179, li_m1000000, li_m8, li_m5, li_m1, li_0, li_1, li_2, li_3, li_4, li_5, li_6, li_7, li_8, li_9, li_10, li_11, li_12, li_13, li_14, li_15, li_16, li_17, li_18, li_19, li_20, li_21, li_22, li_23, li_24, li_25, li_26, li_27, li_28, li_29, li_30, li_31, li_32, li_42, li_43, li_46, li_47, li_48, li_49, li_52, li_57, li_59, li_60, li_64, li_89, li_94, li_97, li_99, li_100, li_108, li_112, li_120, li_122, li_150, li_255, li_300, li_450, li_500, li_671, li_890, li_1000, li_1001, li_1002, li_1003, li_1424, li_12345, li_32767, li_500000, li_1000000, li_1103515245, Int.reduceEq, Int.reduceLT, Int.reduceLE, reduceIte, Int.reduceAdd, Int.reduceSub, Int.reduceMul, Nat.reduceAdd, Nat.reduceMul, e5, rr_gF ff, sz_gF ff, P_gF ff, is_S S1, g5]
    rw [if_neg (by omega), if_pos (by omega)]
    exact y1
  · have : k' = k := by omega
    subst this
    exact y5
end ABp
