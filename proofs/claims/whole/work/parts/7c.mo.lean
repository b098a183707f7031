/-! ===== a game is read: the model, asked ===== -/
section MO
variable {A : Am} {E : En} {b : Int → Int} {n p w T u s f : Int} {ρ : Rw} {res : Int × Int × Rw} {k : Nat} {P : Int} {S : St}
theorem stp_f (e : stp b n s w T u ρ = .inl f) : 1 ≤ f ∧ f ≤ 4 := by
  unfold stp stLine stNum at e
  repeat' split at e
  all_goals (cases e <;> decide)
theorem rnm_ok : ∀ (k : Nat) (w T u : Int) (ρ : Rw) (p : Int), n - p < (k : Int) → p ≤ n → VM w T u ρ → (rnm b n k w T u ρ p).1 = 0 → (rnm b n k w T u ρ p).2.1 = -1 ∧ WF (rnm b n k w T u ρ p).2.2
  | 0, _, _, _, _, p, h, h1, _, _ => by omega
  | k + 1, w, T, u, ρ, p, h, h1, hv, h0 => by
    cases e : stp b n (tS b n p) w T u ρ with
    | inl f =>
      rw [rnm_f h h1 e] at h0
      have := stp_f e
      change f = 0 at h0
      omega
    | inr M =>
      by_cases c : tK b n (tS b n p) = 3
      · rw [rnm_e h h1 e c]
        obtain ⟨w11, T2, l1, eM⟩ := stp_end hv c e
        subst eM w11 T2
        exact ⟨rfl, VM_WF hv l1⟩
      · have hr : rnm b n (k + 1) w T u ρ p = rnm b n k M.1 M.2.1 M.2.2.1 M.2.2.2 (tE b n (tS b n p)) := by
          show (match stp b n (tS b n p) w T u ρ with
            | .inl f => (f, tS b n p, ρ)
            | .inr M => if tK b n (tS b n p) = 3 then (0, -1, M.2.2.2) else rnm b n k M.1 M.2.1 M.2.2.1 M.2.2.2 (tE b n (tS b n p))) = _
          rw [e]
          simp only [if_neg c]
        have sr := tS_rg (b := b) h1
        have er := tE_rg (b := b) (n := n) (s := tS b n p) sr.2
        have adv := er.2.2 c
        rw [hr] at h0 ⊢
        exact rnm_ok k _ _ _ _ _ (by omega) er.2.1 (stp_VM hv e) h0
theorem rdG_ok (hn : 0 ≤ n) (h : (rdG S n).1 = 0) : (rdG S n).2.1 = -1 ∧ WF (rdG S n).2.2 := rnm_ok _ _ _ _ _ _ (by omega) hn VM_0 h
theorem m_fin (d : Nat) (hd : 15 < d) (n0 : 0 ≤ n) (n5 : n ≤ 500) (hb : Bt b n) (hE : SE E) (h : EYm 0 res A E b n 11) :
    ∃ A' E', L_Md_game_99 d (MM A E) 161 = some (.inl (some (.int (iI res.1))), MM A' E') ∧ A' 161 17 = res.2.1 ∧ ((res.1 = 0 ∧ RowAt A' 0 res.2.2 ∧ A' 161 6 = 0) ∨ (res.1 ≠ 0 ∧ A' 162 = A 162 ∧ A' 161 6 = A 161 6)) ∧ (∀ j, (j < 10 ∨ 18 < j) → j ≠ 6 → A' 161 j = A 161 j) ∧ (∀ p, p ≠ 161 → p ≠ 162 → p ≠ 163 → A' p = A p) ∧ E0 E E' := by
  obtain ⟨A1, E1, x1, x2, x3, x4⟩ := m_lines d hd n5 hb (n + 1).toNat 0 A E (by omega) hE h
  obtain ⟨A', y1, y2, y3, y4, y5⟩ := m_end (E := E1) d (by omega) x2
  refine ⟨A', E1, x1.trans y1, y2, ?_, fun j hj h6 => by rw [y4 j hj h6, x3.1 j hj], fun p a c e => by rw [y5 p a c e, x3.2 p a e], x4⟩
  rcases y3 with z | ⟨z1, z2, z3⟩
  · exact .inl z
  · exact .inr ⟨z1, by rw [z2, x3.2 162 (by decide) (by decide)], by rw [z3, x3.1 6 (by decide)]⟩
theorem m_game (d : Nat) (hd : 20 < d) (hE : SE E) (hs : WS S) (hm : MI A S) (n0 : -2147483648 ≤ n) (n1 : n < 2147483648) : MC (D_Md_game d (MM A E) 161 (iI n)) A E 1 (spGame S n).1 (spGame S n).2 := by
  have sn := hs.2.2.2.1
  have h8 := hm.2.2.1.1
  have tp := hm.2.2.1.2
  have z0 : uA A 161 0 0 161 0 = 0 := uA_eq _ _ _
  unfold spGame
  by_cases c : 0 ≤ n ∧ n ≤ sN S
  · rw [if_pos c]
    have hb : Bt (sB S) n := fun i a e => hs.2.2.2.2.1 i a (by omega)
    generalize hB : uA (uA (uA (uA (uA (uA (uA A 161 0 0) 161 9 n) 161 8 0) 161 10 0) 161 16 0) 161 17 (-1)) 161 18 0 = B
    have fB : ∀ p, p ≠ 161 → B p = A p := fun p hp => by subst hB; simp (disch := omega) only [fA_in, fA_k, fA_p, fA_P, uA_P, cA_P, uA_eq, uA_k, uA_p, cA_in, cA_k, cA_p, cp_at, cp_le, qlt0, nr_ib, Nat.not_lt_zero, decide_false]
    have b9 : B 161 9 = n := by subst hB; simp (disch := omega) only [fA_in, fA_k, fA_p, fA_P, uA_P, cA_P, uA_eq, uA_k, uA_p, cA_in, cA_k, cA_p, cp_at, cp_le, qlt0, nr_ib, Nat.not_lt_zero, decide_false]
    have b8 : B 161 8 = 0 := by subst hB; simp (disch := omega) only [fA_in, fA_k, fA_p, fA_P, uA_P, cA_P, uA_eq, uA_k, uA_p, cA_in, cA_k, cA_p, cp_at, cp_le, qlt0, nr_ib, Nat.not_lt_zero, decide_false]
    have b10 : B 161 10 = 0 := by subst hB; simp (disch := omega) only [fA_in, fA_k, fA_p, fA_P, uA_P, cA_P, uA_eq, uA_k, uA_p, cA_in, cA_k, cA_p, cp_at, cp_le, qlt0, nr_ib, Nat.not_lt_zero, decide_false]
    have b16 : B 161 16 = 0 := by subst hB; simp (disch := omega) only [fA_in, fA_k, fA_p, fA_P, uA_P, cA_P, uA_eq, uA_k, uA_p, cA_in, cA_k, cA_p, cp_at, cp_le, qlt0, nr_ib, Nat.not_lt_zero, decide_false]
    have b17 : B 161 17 = -1 := by subst hB; simp (disch := omega) only [fA_in, fA_k, fA_p, fA_P, uA_P, cA_P, uA_eq, uA_k, uA_p, cA_in, cA_k, cA_p, cp_at, cp_le, qlt0, nr_ib, Nat.not_lt_zero, decide_false]
    have b18 : B 161 18 = 0 := by subst hB; simp (disch := omega) only [fA_in, fA_k, fA_p, fA_P, uA_P, cA_P, uA_eq, uA_k, uA_p, cA_in, cA_k, cA_p, cp_at, cp_le, qlt0, nr_ib, Nat.not_lt_zero, decide_false]
    have b0 : B 161 0 = 0 := by subst hB; simp (disch := omega) only [fA_in, fA_k, fA_p, fA_P, uA_P, cA_P, uA_eq, uA_k, uA_p, cA_in, cA_k, cA_p, cp_at, cp_le, qlt0, nr_ib, Nat.not_lt_zero, decide_false]
    have bj : ∀ j, j = 5 ∨ j = 6 ∨ j = 41 → B 161 j = A 161 j := fun j hj => by subst hB; simp (disch := omega) only [fA_in, fA_k, fA_p, fA_P, uA_P, cA_P, uA_eq, uA_k, uA_p, cA_in, cA_k, cA_p, cp_at, cp_le, qlt0, nr_ib, Nat.not_lt_zero, decide_false]
    obtain ⟨B1, x1, x2, x3⟩ := m_clearsL (E := E) (d - 1) 89 0 B (by decide) (by decide) (fun j a e => by omega)
    have e161 := x3 161 (by decide)
    have t1 : TPm B1 (sB S) n := ⟨by rw [e161]; exact b9, fun i a e => by rw [x3 166 (by decide), fB 166 (by decide)]; exact tp i a (by omega)⟩
    obtain ⟨B2, E2, y1, y2, y3, y4⟩ := m_goes (E := E) (d - 1) (by omega) (by omega) hb (p := 0) (by decide) c.1 t1 (by rw [e161]; exact b10)
    have q2 : ∀ j, j = 9 ∨ j = 16 ∨ j = 17 ∨ j = 18 → B2 161 j = B 161 j := fun j hj => by rw [y3.1 j (by omega) (by omega) (by omega) (by omega) (by omega), e161]
    have ld : LDm B2 E2 (sB S) n 0 0 := ⟨TPm_fr t1 (y3.1 9 (by decide) (by decide) (by decide) (by decide) (by decide)) (y3.2 166 (by decide)), y2, (q2 16 (by omega)).trans b16, (q2 17 (by omega)).trans b17, (q2 18 (by omega)).trans b18⟩
    have r2 : RFw B2 rwC := fun j a e => by rw [y3.2 163 (by decide)]; exact x2 j a e
    have n12 : NRt B B2 := ⟨fun j hj => by rw [y3.1 j (by omega) (by omega) (by omega) (by omega) (by omega), e161], fun p a e => by rw [y3.2 p a, x3 p e]⟩
    have sr := tS_rg (b := sB S) c.1
    have er := tE_rg (b := sB S) (n := n) (s := tS (sB S) n 0) sr.2
    have hE2 : SE E2 := SE_EE hE ⟨y4.1, y4.2.1⟩
    have w11 := m_isWord (A := B2) (d - 1) (by omega) (HW_11 hE2) y2 sr.2 (by omega) (by omega)
    have hres : rdG S n = rnm (sB S) n (n + 1).toNat 8 0 0 rwC 0 := rfl
    have key : ∃ C EC, D_Md_game d (MM A E) 161 (iI n) = L_Md_game_99 d (MM C EC) 161 ∧ EYm 0 (rdG S n) C EC (sB S) n 11 ∧ NRt B C ∧ E0 E EC := by
      by_cases cw : isW (sB S) n (tS (sB S) n 0) wd1
      · rw [decide_eq_true cw, bo_T] at w11
        have est : stp (sB S) n (tS (sB S) n 0) 8 0 0 rwC = .inr (0, 0, 0, rwC) := by unfold stp; rw [if_pos rfl, if_pos cw]
        have h3 : tK (sB S) n (tS (sB S) n 0) ≠ 3 := by have := cw.1; omega
        obtain ⟨k', z1, z2⟩ := rnm_s (k := (n + 1).toNat) (by omega) c.1 est h3
        obtain ⟨B3, E3, u1, u2, u3, u4⟩ := m_next (E := E2) (d - 1) (by omega) (by omega) hb (by decide) c.1 ld
        have g : GOm 0 (rdG S n) B3 E3 (sB S) n 0 0 0 rwC := ⟨_, k', u2, ⟨by omega, er.2.1⟩, z2, stp_VM VM_0 est, hres.trans z1⟩
        have ey : ∃ C EC v, D_Md_number (d - 1) (MM B3 E3) 161 (iI 0) (iI 99) = some (.inl (some (.int (iI v))), MM C EC) ∧ EYm 0 (rdG S n) (uA C 163 0 v) EC (sB S) n 10 ∧ NRm B3 C ∧ E0 E3 EC := by
          rcases m_slot (d - 1) (by omega) (by omega) hb g (kk := 0) (by decide) (by decide) (.inl rfl) with ⟨C, v1, v2, v3⟩ | ⟨C, EC, v, v1, v2, v3, v4⟩
          · exact ⟨C, E3, 0, v1, .inl (FT_row v2), v3, E0_refl E3⟩
          · refine ⟨C, EC, v, v1, .inr ⟨0, 0, _, GO_row v2, fun j j0 j1 => ?_⟩, NR_NF v3, v4⟩
            show uA C 163 0 v 163 j = up rwC 0 v j
            by_cases cj : j = 0
            · rw [cj, uA_eq, up_eq]
            · rw [uA_k _ cj, up_ne cj, v3.2 163 (by decide), u3.2 163 (by decide)]
              exact r2 j j0 j1
        obtain ⟨C, EC, v, v1, v2, v3, v4⟩ := ey
        obtain ⟨D, ED, s1, s2, s3, s4⟩ := m_ends10 (d - 1) (by omega) (by omega) hb v2
        refine ⟨D, ED, ?_, s2, NRt_tr (NRt_tr n12 (NRt_m (NR_tr (NR_tr (NR_NF u3) v3) NR_r))) s3, E0_tr (E0_tr (E0_tr y4 u4) v4) s4⟩
        rw [eD_Md_game]
        simp (disch := omega) only [cond_true, cond_false, Bool.and_self, Bool.and_true, Bool.true_and, Bool.and_false, Bool.false_and, Bool.not_true, Bool.not_false, Bool.or_true, Bool.true_or, Bool.or_false, Bool.false_or, cond_dec, cI_ok, cR_ok, cV_ok, cJ_ok, bo_nr, bo_0, bo_i0, nr_0, nr_10, nr_11, nr_i0, nr_i1, bl_0, iI_add, iI_sub, iI_mul, iI_neg, qlt, qeq, qmax, qmin, qdiv, qrem, qn0, qin, I_0, w_0, I_1, w_1, I_2, w_2, I_3, w_3, I_4, w_4, I_5, w_5, I_6, w_6, I_7, w_7, I_8, w_8, I_9, w_9, I_10, w_10, I_11, w_11, I_12, w_12, I_13, w_13, I_14, w_14, I_15, w_15, I_16, w_16, I_17, w_17, I_18, w_18, I_19, w_19, I_20, w_20, I_21, w_21, I_22, w_22, I_23, w_23, I_24, w_24, I_25, w_25, I_26, w_26, I_27, w_27, I_28, w_28, I_29, w_29, I_30, w_30, I_31, w_31, I_32, w_32, I_33, w_33, I_34, w_34, I_35, w_35, I_36, w_36, I_37, w_37, I_38, w_38, I_39, w_39, I_40, w_40, I_41, w_41, I_at, w_at, th_MM, J_MM, wJ_MM, P_F, P_G, fA_in, fA_k, fA_p, fA_P, uA_P, cA_P, uA_eq, uA_k, uA_p, cA_in, cA_k, cA_p, cp_at, cp_le, qlt0, nr_ib, Nat.not_lt_zero, decide_false, ki_1, kp_1_0, kp_1_1, kp_1_2, kp_1_3, kp_1_4, kp_1_5, kp_1_6, kp_1_7, kp_1_8, kp_1_9, kp_1_10, ki_2, kp_2_0, kp_2_1, ki_17, kp_17_0, kp_17_1, ki_32, kp_32_0, kp_32_3, ki_33, kp_33_0, kp_33_1, ki_48, kz_48, ki_49, kp_49_0, ki_50, kz_50, krr_50, ki_67, kp_67_0, kp_67_1, kp_67_2, kp_67_3, kp_67_4, ki_68, kz_68, krr_68, ki_69, kz_69, krr_69, ki_70, kz_70, ki_71, kz_71, ki_144, kp_144_0, kp_144_1, kp_144_2, kp_144_3, kp_144_4, ki_145, kz_145, ki_146, kz_146, ki_147, kz_147, ki_148, kz_148, ki_149, kp_149_0, kp_149_1, kp_149_2, ki_150, kz_150, ki_151, kz_151, ki_152, kp_152_0, kp_152_1, kp_152_2, ki_153, kz_153, ki_154, kz_154, ki_155, kz_155, ki_156, kp_156_0, kp_156_1, kp_156_2, ki_157, kz_157, ki_158, kp_158_0, ki_159, kz_159, ki_160, kz_160, ki_161, kp_161_1, kp_161_2, kp_161_3, kp_161_4, kp_161_7, kp_161_21, kp_161_22, kp_161_23, kp_161_26, kp_161_27, kp_161_28, kp_161_29, kp_161_30, kp_161_32, kp_161_33, kp_161_37, kp_161_40, ki_162, kz_162, ki_163, kz_163, ki_164, kz_164, ki_165, kz_165, ki_166, kz_166, ki_167, kz_167, ki_168, kz_168, ki_169, kz_169, ki_170, kz_170, ki_171, kz_171, ki_172, kz_172, ki_173, kz_173, ki_174, kz_174, ki_175, kz_175, ki_176, kz_176, ki_177, kz_177, ki_178, kz_178, ki_179, kz_179, li_m1000000, li_m8, li_m5, li_m1, li_0, li_1, li_2, li_3, li_4, li_5, li_6, li_7, li_8, li_9, li_10, li_11, li_12, li_13, li_14, li_15, li_16, li_17, li_18, li_19, li_20, li_21, li_22, li_23, li_24, li_25, li_26, li_27, li_28, li_29, li_30, li_31, li_32, li_42, li_43, li_46, li_47, li_48, li_49, li_52, li_57, li_59, li_60, li_64, li_89, li_94, li_97, li_99, li_100, li_108, li_112, li_120, li_122, li_150, li_255, li_300, li_450, li_500, li_671, li_890, li_1000, li_1001, li_1002, li_1003, li_1424, li_12345, li_32767, li_500000, li_1000000, li_1103515245, Int.reduceEq, Int.reduceLT, Int.reduceLE, reduceIte, Int.reduceAdd, Int.reduceSub, Int.reduceMul, Nat.reduceAdd, Nat.reduceMul, h8, iI_J, lj_0, m_isIn, decide_eq_true c, bo_T, m_r1 _ z0, hB, eD_Md_clears, x1, y1, w11, m_check1 _ _ ld.2.2.1, u1, v1, s1]
      · rw [decide_eq_false cw, bo_F] at w11
        have es : stp (sB S) n (tS (sB S) n 0) 8 0 0 rwC = .inl 1 := by unfold stp; rw [if_pos rfl, if_neg cw]
        obtain ⟨v1, v2, v3⟩ := m_flt (E := E2) (k := (n + 1).toNat) (d - 1) (by omega) ld c.1 (by omega) hres es (by decide) (by decide)
        refine ⟨_, E2, ?_, .inl v2, NRt_tr n12 v3, y4⟩
        rw [eD_Md_game]
        simp (disch := omega) only [cond_true, cond_false, Bool.and_self, Bool.and_true, Bool.true_and, Bool.and_false, Bool.false_and, Bool.not_true, Bool.not_false, Bool.or_true, Bool.true_or, Bool.or_false, Bool.false_or, cond_dec, cI_ok, cR_ok, cV_ok, cJ_ok, bo_nr, bo_0, bo_i0, nr_0, nr_10, nr_11, nr_i0, nr_i1, bl_0, iI_add, iI_sub, iI_mul, iI_neg, qlt, qeq, qmax, qmin, qdiv, qrem, qn0, qin, I_0, w_0, I_1, w_1, I_2, w_2, I_3, w_3, I_4, w_4, I_5, w_5, I_6, w_6, I_7, w_7, I_8, w_8, I_9, w_9, I_10, w_10, I_11, w_11, I_12, w_12, I_13, w_13, I_14, w_14, I_15, w_15, I_16, w_16, I_17, w_17, I_18, w_18, I_19, w_19, I_20, w_20, I_21, w_21, I_22, w_22, I_23, w_23, I_24, w_24, I_25, w_25, I_26, w_26, I_27, w_27, I_28, w_28, I_29, w_29, I_30, w_30, I_31, w_31, I_32, w_32, I_33, w_33, I_34, w_34, I_35, w_35, I_36, w_36, I_37, w_37, I_38, w_38, I_39, w_39, I_40, w_40, I_41, w_41, I_at, w_at, th_MM, J_MM, wJ_MM, P_F, P_G, fA_in, fA_k, fA_p, fA_P, uA_P, cA_P, uA_eq, uA_k, uA_p, cA_in, cA_k, cA_p, cp_at, cp_le, qlt0, nr_ib, Nat.not_lt_zero, decide_false, ki_1, kp_1_0, kp_1_1, kp_1_2, kp_1_3, kp_1_4, kp_1_5, kp_1_6, kp_1_7, kp_1_8, kp_1_9, kp_1_10, ki_2, kp_2_0, kp_2_1, ki_17, kp_17_0, kp_17_1, ki_32, kp_32_0, kp_32_3, ki_33, kp_33_0, kp_33_1, ki_48, kz_48, ki_49, kp_49_0, ki_50, kz_50, krr_50, ki_67, kp_67_0, kp_67_1, kp_67_2, kp_67_3, kp_67_4, ki_68, kz_68, krr_68, ki_69, kz_69, krr_69, ki_70, kz_70, ki_71, kz_71, ki_144, kp_144_0, kp_144_1, kp_144_2, kp_144_3, kp_144_4, ki_145, kz_145, ki_146, kz_146, ki_147, kz_147, ki_148, kz_148, ki_149, kp_149_0, kp_149_1, kp_149_2, ki_150, kz_150, ki_151, kz_151, ki_152, kp_152_0, kp_152_1, kp_152_2, ki_153, kz_153, ki_154, kz_154, ki_155, kz_155, ki_156, kp_156_0, kp_156_1, kp_156_2, ki_157, kz_157, ki_158, kp_158_0, ki_159, kz_159, ki_160, kz_160, ki_161, kp_161_1, kp_161_2, kp_161_3, kp_161_4, kp_161_7, kp_161_21, kp_161_22, kp_161_23, kp_161_26, kp_161_27, kp_161_28, kp_161_29, kp_161_30, kp_161_32, kp_161_33, kp_161_37, kp_161_40, ki_162, kz_162, ki_163, kz_163, ki_164, kz_164, ki_165, kz_165, ki_166, kz_166, ki_167, kz_167, ki_168, kz_168, ki_169, kz_169, ki_170, kz_170, ki_171, kz_171, ki_172, kz_172, ki_173, kz_173, ki_174, kz_174, ki_175, kz_175, ki_176, kz_176, ki_177, kz_177, ki_178, kz_178, ki_179, kz_179, li_m1000000, li_m8, li_m5, li_m1, li_0, li_1, li_2, li_3, li_4, li_5, li_6, li_7, li_8, li_9, li_10, li_11, li_12, li_13, li_14, li_15, li_16, li_17, li_18, li_19, li_20, li_21, li_22, li_23, li_24, li_25, li_26, li_27, li_28, li_29, li_30, li_31, li_32, li_42, li_43, li_46, li_47, li_48, li_49, li_52, li_57, li_59, li_60, li_64, li_89, li_94, li_97, li_99, li_100, li_108, li_112, li_120, li_122, li_150, li_255, li_300, li_450, li_500, li_671, li_890, li_1000, li_1001, li_1002, li_1003, li_1424, li_12345, li_32767, li_500000, li_1000000, li_1103515245, Int.reduceEq, Int.reduceLT, Int.reduceLE, reduceIte, Int.reduceAdd, Int.reduceSub, Int.reduceMul, Nat.reduceAdd, Nat.reduceMul, h8, iI_J, lj_0, m_isIn, decide_eq_true c, bo_T, m_r1 _ z0, hB, eD_Md_clears, x1, y1, w11, v1]
    obtain ⟨C, EC, k1, k2, k3, k4⟩ := key
    obtain ⟨A', E', q1, q2', q3, q4, q5, q6⟩ := m_fin d (by omega) c.1 (by omega) hb (SE_EE hE ⟨k4.1, k4.2.1⟩) k2
    have fj : ∀ j, j = 0 ∨ j = 5 ∨ j = 8 ∨ j = 41 → A' 161 j = B 161 j := fun j hj => by rw [q4 j (by omega) (by omega), k3.1 j (by omega)]
    have fp : ∀ p, p ≠ 161 → p ≠ 162 → p ≠ 163 → A' p = A p := fun p a e g => by rw [q5 p a e g, k3.2 p a g, fB p a]
    obtain ⟨m1, m2, m3, m4, m5, m6⟩ := hm
    by_cases q : (rdG S n).1 = 0
    · rw [if_pos q]
      rcases q3 with ⟨-, g1, g2⟩ | ⟨g1, -⟩
      · refine ⟨A', E', _, k1.trans q1, ⟨g1, ⟨g2, fun i τ hi => by cases hi⟩, ⟨(fj 8 (by omega)).trans b8, fun i a e => by change i < 0 at e; omega⟩, ?_, ?_, ?_⟩, fun p hp => fp p (by omega) (by omega) (by omega), E0_tr k4 q6, (fj 0 (by omega)).trans b0, fun v hv => q.trans (Sum.inl.inj hv)⟩
        · show A' 161 17 = -1
          rw [q2']
          exact (rdG_ok c.1 q).1
        · rw [fj 5 (by omega), bj 5 (by omega), fp 165 (by decide) (by decide) (by decide)]; exact m5
        · rw [fj 41 (by omega), bj 41 (by omega), fp 178 (by decide) (by decide) (by decide)]; exact m6
      · exact absurd q g1
    · rw [if_neg q]
      rcases q3 with ⟨g1, -⟩ | ⟨-, g1, g2⟩
      · exact absurd g1 q
      · have e162 : A' 162 = A 162 := by rw [g1, k3.2 162 (by decide) (by decide), fB 162 (by decide)]
        refine ⟨A', E', _, k1.trans q1, ⟨fun j a e => by rw [e162]; exact m1 j a e, ⟨?_, ?_⟩, ⟨(fj 8 (by omega)).trans b8, fun i a e => by change i < 0 at e; omega⟩, q2', ?_, ?_⟩, fun p hp => fp p (by omega) (by omega) (by omega), E0_tr k4 q6, (fj 0 (by omega)).trans b0, fun v hv => Sum.inl.inj hv⟩
        · rw [g2, k3.1 6 (by decide), bj 6 (by omega)]; exact m2.1
        · rw [fp 164 (by decide) (by decide) (by decide)]; exact m2.2
        · rw [fj 5 (by omega), bj 5 (by omega), fp 165 (by decide) (by decide) (by decide)]; exact m5
        · rw [fj 41 (by omega), bj 41 (by omega), fp 178 (by decide) (by decide) (by decide)]; exact m6
  · rw [if_neg c]
    refine ⟨uA (uA A 161 0 0) 161 0 1, E, 0, ?_, MI_fr hm (FrM_tr (FrM_u (by decide)) (FrM_u (by decide))), fun p hp => by rw [uA_P (by omega), uA_P (by omega)], E0_refl E, uA_eq _ _ _, fun v hv => by cases hv⟩
    rw [eD_Md_game]
    simp (disch := omega) only [cond_true, cond_false, Bool.and_self, Bool.and_true, Bool.true_and, Bool.and_false, Bool.false_and, Bool.not_true, Bool.not_false, Bool.or_true, Bool.true_or, Bool.or_false, Bool.false_or, cond_dec, cI_ok, cR_ok, cV_ok, cJ_ok, bo_nr, bo_0, bo_i0, nr_0, nr_10, nr_11, nr_i0, nr_i1, bl_0, iI_add, iI_sub, iI_mul, iI_neg, qlt, qeq, qmax, qmin, qdiv, qrem, qn0, qin, I_0, w_0, I_1, w_1, I_2, w_2, I_3, w_3, I_4, w_4, I_5, w_5, I_6, w_6, I_7, w_7, I_8, w_8, I_9, w_9, I_10, w_10, I_11, w_11, I_12, w_12, I_13, w_13, I_14, w_14, I_15, w_15, I_16, w_16, I_17, w_17, I_18, w_18, I_19, w_19, I_20, w_20, I_21, w_21, I_22, w_22, I_23, w_23, I_24, w_24, I_25, w_25, I_26, w_26, I_27, w_27, I_28, w_28, I_29, w_29, I_30, w_30, I_31, w_31, I_32, w_32, I_33, w_33, I_34, w_34, I_35, w_35, I_36, w_36, I_37, w_37, I_38, w_38, I_39, w_39, I_40, w_40, I_41, w_41, I_at, w_at, th_MM, J_MM, wJ_MM, P_F, P_G, fA_in, fA_k, fA_p, fA_P, uA_P, cA_P, uA_eq, uA_k, uA_p, cA_in, cA_k, cA_p, cp_at, cp_le, qlt0, nr_ib, Nat.not_lt_zero, decide_false, ki_1, kp_1_0, kp_1_1, kp_1_2, kp_1_3, kp_1_4, kp_1_5, kp_1_6, kp_1_7, kp_1_8, kp_1_9, kp_1_10, ki_2, kp_2_0, kp_2_1, ki_17, kp_17_0, kp_17_1, ki_32, kp_32_0, kp_32_3, ki_33, kp_33_0, kp_33_1, ki_48, kz_48, ki_49, kp_49_0, ki_50, kz_50, krr_50, ki_67, kp_67_0, kp_67_1, kp_67_2, kp_67_3, kp_67_4, ki_68, kz_68, krr_68, ki_69, kz_69, krr_69, ki_70, kz_70, ki_71, kz_71, ki_144, kp_144_0, kp_144_1, kp_144_2, kp_144_3, kp_144_4, ki_145, kz_145, ki_146, kz_146, ki_147, kz_147, ki_148, kz_148, ki_149, kp_149_0, kp_149_1, kp_149_2, ki_150, kz_150, ki_151, kz_151, ki_152, kp_152_0, kp_152_1, kp_152_2, ki_153, kz_153, ki_154, kz_154, ki_155, kz_155, ki_156, kp_156_0, kp_156_1, kp_156_2, ki_157, kz_157, ki_158, kp_158_0, ki_159, kz_159, ki_160, kz_160, ki_161, kp_161_1, kp_161_2, kp_161_3, kp_161_4, kp_161_7, kp_161_21, kp_161_22, kp_161_23, kp_161_26, kp_161_27, kp_161_28, kp_161_29, kp_161_30, kp_161_32, kp_161_33, kp_161_37, kp_161_40, ki_162, kz_162, ki_163, kz_163, ki_164, kz_164, ki_165, kz_165, ki_166, kz_166, ki_167, kz_167, ki_168, kz_168, ki_169, kz_169, ki_170, kz_170, ki_171, kz_171, ki_172, kz_172, ki_173, kz_173, ki_174, kz_174, ki_175, kz_175, ki_176, kz_176, ki_177, kz_177, ki_178, kz_178, ki_179, kz_179, li_m1000000, li_m8, li_m5, li_m1, li_0, li_1, li_2, li_3, li_4, li_5, li_6, li_7, li_8, li_9, li_10, li_11, li_12, li_13, li_14, li_15, li_16, li_17, li_18, li_19, li_20, li_21, li_22, li_23, li_24, li_25, li_26, li_27, li_28, li_29, li_30, li_31, li_32, li_42, li_43, li_46, li_47, li_48, li_49, li_52, li_57, li_59, li_60, li_64, li_89, li_94, li_97, li_99, li_100, li_108, li_112, li_120, li_122, li_150, li_255, li_300, li_450, li_500, li_671, li_890, li_1000, li_1001, li_1002, li_1003, li_1424, li_12345, li_32767, li_500000, li_1000000, li_1103515245, Int.reduceEq, Int.reduceLT, Int.reduceLE, reduceIte, Int.reduceAdd, Int.reduceSub, Int.reduceMul, Nat.reduceAdd, Nat.reduceMul, h8, iI_J, lj_0, m_isIn, decide_eq_false c, bo_F, m_r0 _ z0]
end MO
