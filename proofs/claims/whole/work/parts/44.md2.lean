/-! ===== the model: power, chance, edge ===== -/
section MD2
variable {h : mm_M} {σ : Rw} {a t u : Int}
theorem rg1 {z : Int} (h1 : -100000000 ≤ z) (h2 : z ≤ 100000000) : rg z := ⟨by omega, by omega⟩
theorem m_power (d : Nat) (hd : 1 < d) (hs : SK h) (hr : RowAt h a σ) (hf : WF σ) (ha : 0 ≤ a ∧ a ≤ 9) (ht : t = 0 ∨ t = 1) (hu : 0 ≤ u ∧ u < un σ t) {w : Int} (hw : w = 0 ∨ w = 1) : D_Md_power d h 161 (iI a) (iI t) (iI u) (iI w) = some (.inl (some (.int (iI (pw σ t u w)))), h) := by
  obtain ⟨a0, a1, -, -, -, -, -, a8⟩ := WF_t hf ht
  have hun : un σ t = tf σ t 0 + tf σ t 1 := rfl
  obtain ⟨b0, b1, b2, -, -, b5⟩ := a8 u hu.1 hu.2
  have mu : ∀ (d : Nat) (hd : 0 < d) (w : Int) (hw : 0 ≤ w ∧ w < 6), D_Md_ofUnit d h 161 (iI a) (iI t) (iI u) (iI w) = some (.inl (some (.int (iI (uf σ t u w)))), h) := fun d hd w hw => m_ofUnit d hd hs hr ha ht (by omega) hw
  have c0 : 0 ≤ uf σ t u w ∧ uf σ t u w ≤ 99 := by
    rcases hw with rfl | rfl
    · exact b0
    · exact b1
  have c1 : 0 ≤ uf σ t u w * uf σ t u 5 := Int.mul_nonneg c0.1 b5.1
  have c2 : uf σ t u w * uf σ t u 5 ≤ 99 * 15 := Int.mul_le_mul c0.2 (by omega) b5.1 (by decide)
  rw [eD_Md_power, mu _ (by omega) w (by omega)]
  simp (disch := omega) only [cond_true, cond_false, Bool.and_self, Bool.and_true, Bool.true_and, Bool.and_false, Bool.false_and, Bool.not_true, Bool.not_false, Bool.or_true, Bool.true_or, Bool.or_false, Bool.false_or, cI_ok, cR_ok, cV_ok, cJ_ok, bo_nr, bo_0, nr_0, nr_10, nr_11, bl_0, ki_161 hs, kp_161_1 hs, ki_162 hs, kz_162 hs, li_m1000000, li_m8, li_m5, li_m1, li_0, li_1, li_2, li_3, li_4, li_5, li_6, li_7, li_8, li_9, li_10, li_11, li_12, li_13, li_14, li_15, li_16, li_17, li_18, li_19, li_20, li_21, li_22, li_23, li_24, li_25, li_26, li_27, li_28, li_29, li_30, li_31, li_32, li_42, li_43, li_46, li_47, li_48, li_49, li_52, li_57, li_59, li_60, li_64, li_89, li_94, li_97, li_99, li_100, li_108, li_112, li_120, li_122, li_150, li_255, li_300, li_450, li_500, li_671, li_890, li_1000, li_1001, li_1002, li_1003, li_1424, li_12345, li_32767, li_500000, li_1000000, li_1103515245, mu]
  rw [bI_n0 (rg1 (by omega) (by omega)) (by omega), iI_mul, iI_div (rg1 (by omega) (by omega)) (rg1 (by omega) (by omega)) (by omega) (by omega)]
  rfl
theorem m_chance (d : Nat) (hd : 2 < d) (hs : SK h) (hr : RowAt h a σ) (hf : WF σ) (ha : 0 ≤ a ∧ a ≤ 9) (ht : t = 0 ∨ t = 1) {x y : Int} (hx : 0 ≤ x ∧ x < un σ t) (hy : 0 ≤ y ∧ y < un σ (1 - t)) : D_Md_chanceOf d h 161 (iI a) (iI t) (iI x) (iI y) = some (.inl (some (.int (iI (ch σ t x y)))), h) := by
  have ht' : 1 - t = 0 ∨ 1 - t = 1 := by omega
  have wt := WF_t hf ht
  have wo := WF_t hf ht'
  have p1 := pw_rg wt hx.1 hx.2 (w := 0) (Or.inl rfl)
  have p2 := pw_rg wo hy.1 hy.2 (w := 1) (Or.inr rfl)
  have mT : ∀ (d : Nat) (w : Int) (hw : 0 ≤ w ∧ w < 43), D_Md_ofTeam d h 161 (iI a) (iI t) (iI w) = some (.inl (some (.int (iI (tf σ t w)))), h) := fun d w hw => m_ofTeam d hs hr ha ht hw
  have mO : ∀ (d : Nat) (w : Int) (hw : 0 ≤ w ∧ w < 43), D_Md_ofTeam d h 161 (iI a) (iI (1 - t)) (iI w) = some (.inl (some (.int (iI (tf σ (1 - t) w)))), h) := fun d w hw => m_ofTeam d hs hr ha ht' hw
  have m2 : ∀ (d : Nat), D_Md_of d h 161 (iI a) (iI 2) = some (.inl (some (.int (iI (σ 2)))), h) := fun d => m_of d hs hr ha (by decide)
  obtain ⟨-, -, w2, -, w4, w5, -⟩ := wt
  obtain ⟨-, -, v2, -, v4, v5, -⟩ := wo
  have e2 := hf.2.2.1
  have fin : ∀ (v : Int) (s o : Bool), 0 ≤ v → v ≤ 100000 → L_Md_chanceOf_127 d h (iI v) (bo s) (bo o) = some (.inl (some (.int (iI (min 450 (if s && !o then v.tdiv 2 else if o && !s then v * 2 else v))))), h) := by
    intro v s o q1 q2
    have q3 : 0 ≤ v.tdiv 2 ∧ v.tdiv 2 ≤ 100000 := by rw [Int.tdiv_eq_ediv_of_nonneg q1]; omega
    rw [eL_Md_chanceOf_127, bo_0, bo_0]
    cases s <;> cases o
    · simp (disch := omega) only [cond_true, cond_false, Bool.and_self, Bool.and_true, Bool.true_and, Bool.and_false, Bool.false_and, Bool.not_true, Bool.not_false, Bool.or_true, Bool.true_or, Bool.or_false, Bool.false_or, cI_ok, cR_ok, cV_ok, cJ_ok, bo_nr, bo_0, nr_0, nr_10, nr_11, bl_0, eL_Md_chanceOf_145]
      rw [li_450, iI_min (rg1 (by decide) (by decide)) (rg1 (by omega) (by omega))]
      rfl
    · simp (disch := omega) only [cond_true, cond_false, Bool.and_self, Bool.and_true, Bool.true_and, Bool.and_false, Bool.false_and, Bool.not_true, Bool.not_false, Bool.or_true, Bool.true_or, Bool.or_false, Bool.false_or, cI_ok, cR_ok, cV_ok, cJ_ok, bo_nr, bo_0, nr_0, nr_10, nr_11, bl_0, eL_Md_chanceOf_145]
      rw [li_450, li_2, iI_mul, iI_min (rg1 (by decide) (by decide)) (rg1 (by omega) (by omega))]
      rfl
    · simp (disch := omega) only [cond_true, cond_false, Bool.and_self, Bool.and_true, Bool.true_and, Bool.and_false, Bool.false_and, Bool.not_true, Bool.not_false, Bool.or_true, Bool.true_or, Bool.or_false, Bool.false_or, cI_ok, cR_ok, cV_ok, cJ_ok, bo_nr, bo_0, nr_0, nr_10, nr_11, bl_0, eL_Md_chanceOf_145]
      rw [li_450, li_2, bI_n0 (rg1 (by decide) (by decide)) (by decide), cond_true, iI_div (rg1 (by omega) (by omega)) (rg1 (by decide) (by decide)) (by decide) (by decide), iI_min (rg1 (by decide) (by decide)) (rg1 (by omega) (by omega))]
      rfl
    · simp (disch := omega) only [cond_true, cond_false, Bool.and_self, Bool.and_true, Bool.true_and, Bool.and_false, Bool.false_and, Bool.not_true, Bool.not_false, Bool.or_true, Bool.true_or, Bool.or_false, Bool.false_or, cI_ok, cR_ok, cV_ok, cJ_ok, bo_nr, bo_0, nr_0, nr_10, nr_11, bl_0, eL_Md_chanceOf_145]
      rw [li_450, iI_min (rg1 (by decide) (by decide)) (rg1 (by omega) (by omega))]
      rfl
  have m109 : ∀ (v : Int) (s : Bool), 0 ≤ v → v ≤ 100000 → L_Md_chanceOf_109 d h 161 (iI a) (iI (1 - t)) (iI v) (bo s) = some (.inl (some (.int (iI (min 450 (if s && !(decide (0 < tf σ (1 - t) 4)) then v.tdiv 2 else if (decide (0 < tf σ (1 - t) 4)) && !s then v * 2 else v))))), h) := by
    intro v s q1 q2
    rw [eL_Md_chanceOf_109, li_4]
    simp (disch := omega) only [cond_true, cond_false, Bool.and_self, Bool.and_true, Bool.true_and, Bool.and_false, Bool.false_and, Bool.not_true, Bool.not_false, Bool.or_true, Bool.true_or, Bool.or_false, Bool.false_or, cI_ok, cR_ok, cV_ok, cJ_ok, bo_nr, bo_0, nr_0, nr_10, nr_11, bl_0, ki_161 hs, kp_161_1 hs, ki_162 hs, kz_162 hs, mO]
    by_cases c : 0 < tf σ (1 - t) 4
    · rw [show mm_lt 0 (iI (tf σ (1 - t) 4)) = true by rw [li_0, bI_lt (rg1 (by decide) (by decide)) (rg1 (by omega) (by omega))]; exact decide_eq_true c, cond_true, decide_eq_true c]
      exact fin v s true q1 q2
    · rw [show mm_lt 0 (iI (tf σ (1 - t) 4)) = false by rw [li_0, bI_lt (rg1 (by decide) (by decide)) (rg1 (by omega) (by omega))]; exact decide_eq_false c, cond_false, decide_eq_false c]
      exact fin v s false q1 q2
  have m83 : ∀ (v z : Int), -100000 ≤ v + z → v + z ≤ 100000 → L_Md_chanceOf_83 d h 161 (iI a) (iI t) (iI (1 - t)) (iI v) (iI z) = some (.inl (some (.int (iI (min 450 (if (decide (0 < tf σ t 4)) && !(decide (0 < tf σ (1 - t) 4)) then (max 0 (v + z)).tdiv 2 else if (decide (0 < tf σ (1 - t) 4)) && !(decide (0 < tf σ t 4)) then max 0 (v + z) * 2 else max 0 (v + z)))))), h) := by
    intro v z q1 q2
    rw [eL_Md_chanceOf_83, li_4]
    simp (disch := omega) only [cond_true, cond_false, Bool.and_self, Bool.and_true, Bool.true_and, Bool.and_false, Bool.false_and, Bool.not_true, Bool.not_false, Bool.or_true, Bool.true_or, Bool.or_false, Bool.false_or, cI_ok, cR_ok, cV_ok, cJ_ok, bo_nr, bo_0, nr_0, nr_10, nr_11, bl_0, ki_161 hs, kp_161_1 hs, ki_162 hs, kz_162 hs, mT, iI_add]
    have hm : mm_max 0 (iI (v + z)) = iI (max 0 (v + z)) := by rw [li_0, iI_max (rg1 (by decide) (by decide)) (rg1 (by omega) (by omega))]
    rw [hm]
    by_cases c : 0 < tf σ t 4
    · rw [show mm_lt 0 (iI (tf σ t 4)) = true by rw [li_0, bI_lt (rg1 (by decide) (by decide)) (rg1 (by omega) (by omega))]; exact decide_eq_true c, cond_true, decide_eq_true c]
      exact m109 (max 0 (v + z)) true (by omega) (by omega)
    · rw [show mm_lt 0 (iI (tf σ t 4)) = false by rw [li_0, bI_lt (rg1 (by decide) (by decide)) (rg1 (by omega) (by omega))]; exact decide_eq_false c, cond_false, decide_eq_false c]
      exact m109 (max 0 (v + z)) false (by omega) (by omega)
  have m57 : ∀ (v z : Int), -10000 ≤ v - z → v - z ≤ 10000 → L_Md_chanceOf_57 d h 161 (iI a) (iI t) (iI (1 - t)) (iI v) (iI z) = some (.inl (some (.int (iI (min 450 (if (decide (0 < tf σ t 4)) && !(decide (0 < tf σ (1 - t) 4)) then (max 0 (v - z + (if tf σ t 5 = 1 then σ 2 else 0))).tdiv 2 else if (decide (0 < tf σ (1 - t) 4)) && !(decide (0 < tf σ t 4)) then max 0 (v - z + (if tf σ t 5 = 1 then σ 2 else 0)) * 2 else max 0 (v - z + (if tf σ t 5 = 1 then σ 2 else 0))))))), h) := by
    intro v z q1 q2
    rw [eL_Md_chanceOf_57, li_5]
    simp (disch := omega) only [cond_true, cond_false, Bool.and_self, Bool.and_true, Bool.true_and, Bool.and_false, Bool.false_and, Bool.not_true, Bool.not_false, Bool.or_true, Bool.true_or, Bool.or_false, Bool.false_or, cI_ok, cR_ok, cV_ok, cJ_ok, bo_nr, bo_0, nr_0, nr_10, nr_11, bl_0, ki_161 hs, kp_161_1 hs, ki_162 hs, kz_162 hs, mT, iI_sub]
    by_cases c : tf σ t 5 = 1
    · rw [show mm_eq (iI (tf σ t 5)) 1 = true by rw [li_1, bI_eq (rg1 (by omega) (by omega)) (rg1 (by decide) (by decide))]; exact decide_eq_true c, cond_true, li_2, m2, cI_ok, if_pos c]
      exact m83 (v - z) (σ 2) (by omega) (by omega)
    · rw [show mm_eq (iI (tf σ t 5)) 1 = false by rw [li_1, bI_eq (rg1 (by omega) (by omega)) (rg1 (by decide) (by decide))]; exact decide_eq_false c, cond_false, if_neg c]
      exact m83 (v - z) 0 (by omega) (by omega)
  have mp1 := m_power (d - 1) (by omega) hs hr hf ha ht hx (w := 0) (Or.inl rfl)
  have mp2 := m_power (d - 1) (by omega) hs hr hf ha ht' hy (w := 1) (Or.inr rfl)
  rw [eD_Md_chanceOf, show (1 : Int32) - iI t = iI (1 - t) by rw [li_1, iI_sub]]
  rw [show (D_Md_power (d - 1) h 161 (iI a) (iI t) (iI x) 0) = some (.inl (some (.int (iI (pw σ t x 0)))), h) from mp1]
  simp (disch := omega) only [cond_true, cond_false, Bool.and_self, Bool.and_true, Bool.true_and, Bool.and_false, Bool.false_and, Bool.not_true, Bool.not_false, Bool.or_true, Bool.true_or, Bool.or_false, Bool.false_or, cI_ok, cR_ok, cV_ok, cJ_ok, bo_nr, bo_0, nr_0, nr_10, nr_11, bl_0, ki_161 hs, kp_161_1 hs, ki_162 hs, kz_162 hs]
  rw [show (D_Md_power (d - 1) h 161 (iI a) (iI (1 - t)) (iI y) 1) = some (.inl (some (.int (iI (pw σ (1 - t) y 1)))), h) from mp2]
  simp (disch := omega) only [cond_true, cond_false, Bool.and_self, Bool.and_true, Bool.true_and, Bool.and_false, Bool.false_and, Bool.not_true, Bool.not_false, Bool.or_true, Bool.true_or, Bool.or_false, Bool.false_or, cI_ok, cR_ok, cV_ok, cJ_ok, bo_nr, bo_0, nr_0, nr_10, nr_11, bl_0, ki_161 hs, kp_161_1 hs, ki_162 hs, kz_162 hs]
  rw [li_5, mO _ 5 (by decide)]
  simp (disch := omega) only [cond_true, cond_false, Bool.and_self, Bool.and_true, Bool.true_and, Bool.and_false, Bool.false_and, Bool.not_true, Bool.not_false, Bool.or_true, Bool.true_or, Bool.or_false, Bool.false_or, cI_ok, cR_ok, cV_ok, cJ_ok, bo_nr, bo_0, nr_0, nr_10, nr_11, bl_0, ki_161 hs, kp_161_1 hs, ki_162 hs, kz_162 hs]
  rw [show (100 : Int32) + 2 * (iI (pw σ t x 0) - iI (pw σ (1 - t) y 1)) = iI (100 + 2 * (pw σ t x 0 - pw σ (1 - t) y 1)) by rw [li_100, li_2, iI_sub, iI_mul, iI_add]]
  unfold ch lk bs
  simp only
  by_cases c : tf σ (1 - t) 5 = 1
  · rw [show mm_eq (iI (tf σ (1 - t) 5)) 1 = true by rw [li_1, bI_eq (rg1 (by omega) (by omega)) (rg1 (by decide) (by decide))]; exact decide_eq_true c, cond_true, if_pos c]
    have := m57 (100 + 2 * (pw σ t x 0 - pw σ (1 - t) y 1)) 0 (by omega) (by omega)
    rw [show 100 - 0 + (if tf σ t 5 = 1 then σ 2 else 0) + 2 * (pw σ t x 0 - pw σ (1 - t) y 1) = 100 + 2 * (pw σ t x 0 - pw σ (1 - t) y 1) - 0 + (if tf σ t 5 = 1 then σ 2 else 0) by omega]
    exact this
  · rw [show mm_eq (iI (tf σ (1 - t) 5)) 1 = false by rw [li_1, bI_eq (rg1 (by omega) (by omega)) (rg1 (by decide) (by decide))]; exact decide_eq_false c, cond_false, li_2, mO _ 2 (by decide), cI_ok, if_neg c]
    have := m57 (100 + 2 * (pw σ t x 0 - pw σ (1 - t) y 1)) (tf σ (1 - t) 2) (by omega) (by omega)
    rw [show 100 - tf σ (1 - t) 2 + (if tf σ t 5 = 1 then σ 2 else 0) + 2 * (pw σ t x 0 - pw σ (1 - t) y 1) = 100 + 2 * (pw σ t x 0 - pw σ (1 - t) y 1) - tf σ (1 - t) 2 + (if tf σ t 5 = 1 then σ 2 else 0) by omega]
    exact this
theorem m_edge (d : Nat) (hd : 3 < d) (hs : SK h) (hr : RowAt h a σ) (hf : WF σ) (ha : 0 ≤ a ∧ a ≤ 9) {x y : Int} (hx : 0 ≤ x ∧ x < un σ 0) (hy : 0 ≤ y ∧ y < un σ 1) : D_Md_edge d h 161 (iI a) (iI x) (iI y) = some (.inl (some (.int (iI (ed σ x y)))), h) := by
  have m0 := m_chance (d - 1) (by omega) hs hr hf ha (t := 0) (Or.inl rfl) hx (show 0 ≤ y ∧ y < un σ (1 - 0) from hy)
  have m1 := m_chance (d - 1) (by omega) hs hr hf ha (t := 1) (Or.inr rfl) hy (show 0 ≤ x ∧ x < un σ (1 - 1) from hx)
  rw [eD_Md_edge, li_0, m0]
  simp (disch := omega) only [cond_true, cond_false, Bool.and_self, Bool.and_true, Bool.true_and, Bool.and_false, Bool.false_and, Bool.not_true, Bool.not_false, Bool.or_true, Bool.true_or, Bool.or_false, Bool.false_or, cI_ok, cR_ok, cV_ok, cJ_ok, bo_nr, bo_0, nr_0, nr_10, nr_11, bl_0, ki_161 hs, kp_161_1 hs, ki_162 hs, kz_162 hs]
  rw [li_1, m1]
  simp (disch := omega) only [cond_true, cond_false, Bool.and_self, Bool.and_true, Bool.true_and, Bool.and_false, Bool.false_and, Bool.not_true, Bool.not_false, Bool.or_true, Bool.true_or, Bool.or_false, Bool.false_or, cI_ok, cR_ok, cV_ok, cJ_ok, bo_nr, bo_0, nr_0, nr_10, nr_11, bl_0, ki_161 hs, kp_161_1 hs, ki_162 hs, kz_162 hs, iI_sub]
  rfl
theorem m_firstTeam (d : Nat) (hd : 0 < d) (hs : SK h) (hr : RowAt h a σ) (ha : 0 ≤ a ∧ a ≤ 9) : D_Md_firstTeam d h 161 (iI a) = some (.inl (some (.int (iI (1 - σ 1)))), h) := by
  rw [eD_Md_firstTeam, li_1, m_of _ hs hr ha (by decide)]
  simp (disch := omega) only [cond_true, cond_false, Bool.and_self, Bool.and_true, Bool.true_and, Bool.and_false, Bool.false_and, Bool.not_true, Bool.not_false, Bool.or_true, Bool.true_or, Bool.or_false, Bool.false_or, cI_ok, cR_ok, cV_ok, cJ_ok, bo_nr, bo_0, nr_0, nr_10, nr_11, bl_0, ki_161 hs, kp_161_1 hs, ki_162 hs, kz_162 hs, iI_sub]
/-- whether one worth is better than another one for a team -/
def bt (t v w : Int) : Bool := if t = 0 then decide (w < v) else decide (v < w)
theorem m_isBetter (d : Nat) {v w : Int} (ht : t = 0 ∨ t = 1) (hv : rg v) (hw : rg w) : D_Md_isBetter d h (iI t) (iI v) (iI w) = some (.inl (some (.int (bo (bt t v w)))), h) := by
  rw [eD_Md_isBetter, nr_10, nr_11, bI_lt hw hv, bI_lt hv hw]
  unfold bt
  by_cases c : t = 0
  · rw [show mm_eq (iI t) 0 = true by rw [c]; rfl, if_pos c, cond_true]
    by_cases e : w < v
    · rw [decide_eq_true e]; rfl
    · rw [decide_eq_false e]; rfl
  · have c1 : t = 1 := by omega
    rw [show mm_eq (iI t) 0 = false by rw [c1]; rfl, if_neg c, cond_false]
    by_cases e : v < w
    · rw [decide_eq_true e]; rfl
    · rw [decide_eq_false e]; rfl
end MD2
