/-! ===== the model's own small methods ===== -/
theorem lc_lt (a b : Int64) : mm_lt (lg_cmp a b) 0 = decide (a < b) := by
  unfold mm_lt lg_cmp
  by_cases h1 : b < a
  · have h2 : ¬ a < b := lg_lt_not h1
    simp [h1, h2]
  · by_cases h2 : a < b
    · simp [h1, h2]
    · simp [h1, h2]
theorem lc_gt (a b : Int64) : mm_lt 0 (lg_cmp a b) = decide (b < a) := by
  unfold mm_lt lg_cmp
  by_cases h1 : b < a
  · have h2 : ¬ a < b := lg_lt_not h1
    simp [h1, h2]
  · by_cases h2 : a < b
    · simp [h1, h2]
    · simp [h1, h2]
/-- a whole number as a long -/
def iJ (a : Int) : Int64 := Int64.ofInt a
theorem iJ_toInt {a : Int} (h : rg a) : (iJ a).toInt = a := Int64.toInt_ofInt_of_le (by have := h.1; omega) (by have := h.2; omega)
theorem iI_J {a : Int} (h : rg a) : Int32.toInt64 (iI a) = iJ a := by
  apply Int64.toInt_inj.mp
  rw [iJ_toInt h, Int32.toInt_toInt64, iI_toInt h]
theorem iJ_lt {a b : Int} (ha : rg a) (hb : rg b) : iJ a < iJ b ↔ a < b := by rw [Int64.lt_iff_toInt_lt, iJ_toInt ha, iJ_toInt hb]
theorem m_isIn (d : Nat) (h : mm_M) {a b c : Int} (ha : rg a) (hb : rg b) (hc : rg c) : D_Md_isIn d h (iJ a) (iJ b) (iJ c) = some (.inl (some (.int (bo (decide (b ≤ a ∧ a ≤ c))))), h) := by
  rw [eD_Md_isIn, lc_lt, lc_gt, nr_10, nr_11]
  by_cases h1 : a < b
  · have e : ¬ (b ≤ a ∧ a ≤ c) := by omega
    rw [decide_eq_true ((iJ_lt ha hb).mpr h1), decide_eq_false e]
    rfl
  · by_cases h2 : c < a
    · have e : ¬ (b ≤ a ∧ a ≤ c) := by omega
      rw [decide_eq_false (fun z => h1 ((iJ_lt ha hb).mp z)), decide_eq_true ((iJ_lt hc ha).mpr h2), decide_eq_false e]
      rfl
    · have e : b ≤ a ∧ a ≤ c := by omega
      rw [decide_eq_false (fun z => h1 ((iJ_lt ha hb).mp z)), decide_eq_false (fun z => h2 ((iJ_lt hc ha).mp z)), decide_eq_true e]
      rfl
section MD
variable {h : mm_M} {σ : Rw} {a t u : Int}
theorem m_of (d : Nat) (hs : SK h) (hr : RowAt h a σ) (ha : 0 ≤ a ∧ a ≤ 9) {w : Int} (hw : 0 ≤ w ∧ w < 89) : D_Md_of d h 161 (iI a) (iI w) = some (.inl (some (.int (iI (σ w)))), h) := by
  rw [eD_Md_of, ki_161 hs, kp_161_1 hs, ki_162 hs, kz_162 hs, li_89, iI_mul, iI_add, iI_in (by omega) (by omega) (by decide), iI_cl (by omega) (by omega)]
  show some (Sum.inl (some (Value.int (mm_I h 162 (89 * a + w).toNat))), h) = _
  rw [hr w hw.1 hw.2]
theorem m_ofTeam (d : Nat) (hs : SK h) (hr : RowAt h a σ) (ha : 0 ≤ a ∧ a ≤ 9) (ht : t = 0 ∨ t = 1) {w : Int} (hw : 0 ≤ w ∧ w < 43) : D_Md_ofTeam d h 161 (iI a) (iI t) (iI w) = some (.inl (some (.int (iI (tf σ t w)))), h) := by
  rw [eD_Md_ofTeam, ki_161 hs, kp_161_1 hs, ki_162 hs, kz_162 hs, li_89, li_3, li_43, iI_mul, iI_mul, iI_add, iI_add, iI_add, iI_in (by omega) (by omega) (by decide), iI_cl (by omega) (by omega)]
  show some (Sum.inl (some (Value.int (mm_I h 162 (89 * a + 3 + 43 * t + w).toNat))), h) = _
  have := hr (3 + 43 * t + w) (by omega) (by omega)
  rw [show 89 * a + 3 + 43 * t + w = 89 * a + (3 + 43 * t + w) by omega, this]
  rfl
theorem m_unitAt (d : Nat) {w : Int} : D_Md_unitAt d h (iI t) (iI u) (iI w) = some (.inl (some (.int (iI (3 + 43 * t + 7 + 6 * u + w)))), h) := by
  rw [eD_Md_unitAt, li_3, li_43, li_7, li_6, iI_mul, iI_mul, iI_add, iI_add, iI_add, iI_add]
theorem m_ofUnit (d : Nat) (hd : 0 < d) (hs : SK h) (hr : RowAt h a σ) (ha : 0 ≤ a ∧ a ≤ 9) (ht : t = 0 ∨ t = 1) (hu : 0 ≤ u ∧ u < 6) {w : Int} (hw : 0 ≤ w ∧ w < 6) : D_Md_ofUnit d h 161 (iI a) (iI t) (iI u) (iI w) = some (.inl (some (.int (iI (uf σ t u w)))), h) := by
  rw [eD_Md_ofUnit, ki_161 hs, kp_161_1 hs, bl_0 hd, m_unitAt]
  simp only [cond_true, cI_ok]
  rw [ki_162 hs, kz_162 hs, li_89, iI_mul, iI_add, iI_in (by omega) (by omega) (by decide), iI_cl (by omega) (by omega)]
  show some (Sum.inl (some (Value.int (mm_I h 162 (89 * a + (3 + 43 * t + 7 + 6 * u + w)).toNat))), h) = _
  rw [hr (3 + 43 * t + 7 + 6 * u + w) (by omega) (by omega)]
  unfold uf
  rw [show 3 + 43 * t + 7 + 6 * u + w = 10 + 43 * t + 6 * u + w by omega]
theorem m_units (d : Nat) (hd : 0 < d) (hs : SK h) (hr : RowAt h a σ) (ha : 0 ≤ a ∧ a ≤ 9) (ht : t = 0 ∨ t = 1) : D_Md_units d h 161 (iI a) (iI t) = some (.inl (some (.int (iI (un σ t)))), h) := by
  rw [eD_Md_units, ki_161 hs, bl_0 hd, li_0, m_ofTeam _ hs hr ha ht (by decide)]
  simp only [Bool.and_self, cond_true, cI_ok]
  rw [ki_161 hs, li_1, m_ofTeam _ hs hr ha ht (by decide)]
  simp only [Bool.and_self, cond_true, cI_ok, iI_add]
  rfl
theorem m_may (d : Nat) (hd : 1 < d) (hs : SK h) (hr : RowAt h a σ) (hf : WF σ) (ha : 0 ≤ a ∧ a ≤ 9) (ht : t = 0 ∨ t = 1) (hu : rg u) : D_Md_may d h 161 (iI a) (iI t) (iI u) = some (.inl (some (.int (bo (may σ t u)))), h) := by
  have hw := WF_t hf ht
  obtain ⟨a0, a1, -, -, a4, -, a6, -⟩ := hw
  have hun : un σ t = tf σ t 0 + tf σ t 1 := rfl
  have r0 : ∀ z : Int, -1000 ≤ z → z ≤ 1000 → rg z := fun z q1 q2 => ⟨by omega, by omega⟩
  rw [eD_Md_may, ki_161 hs, bl_0 (by omega : 0 < d), li_6, m_ofTeam _ hs hr ha ht (by decide)]
  simp only [Bool.and_self, cond_true, cI_ok]
  rw [li_m1, bI_eq (r0 _ (by omega) (by omega)) (r0 _ (by decide) (by decide))]
  by_cases c6 : tf σ t 6 = -1
  · rw [decide_eq_true c6, cond_true, ki_161 hs, li_0, m_ofTeam _ hs hr ha ht (by decide)]
    simp only [Bool.and_self, cond_true, cI_ok]
    rw [ki_161 hs, li_4, m_ofTeam _ hs hr ha ht (by decide)]
    simp only [Bool.and_self, cond_true, cI_ok]
    have last : L_Md_may_77 d h (iI u) (iI (tf σ t 0)) = some (.inl (some (.int (bo (decide (0 ≤ u ∧ u < tf σ t 0))))), h) := by
      rw [eL_Md_may_77, bl_0 (by omega : 0 < d), li_1, iI_sub, iI_J hu, iI_J (r0 _ (by omega) (by omega)), show (0 : Int64) = iJ 0 from rfl, m_isIn _ _ hu (r0 _ (by decide) (by decide)) (r0 _ (by omega) (by omega))]
      simp only [cond_true, cI_ok, bo_nr]
      rw [decide_eq_decide.mpr (show (0 ≤ u ∧ u ≤ tf σ t 0 - 1) ↔ (0 ≤ u ∧ u < tf σ t 0) by omega)]
    rw [bI_lt (r0 _ (by decide) (by decide)) (r0 _ (by omega) (by omega))]
    by_cases c4 : 0 < tf σ t 4
    · rw [decide_eq_true c4, cond_true, ki_161 hs, li_1, m_ofTeam _ hs hr ha ht (by decide)]
      simp only [Bool.and_self, cond_true, cI_ok]
      rw [bI_lt (r0 _ (by decide) (by decide)) (r0 _ (by omega) (by omega))]
      by_cases c1 : 0 < tf σ t 1
      · rw [decide_eq_true c1, cond_true, ki_161 hs, m_units _ (by omega) hs hr ha ht]
        simp only [Bool.and_self, cond_true, cI_ok]
        rw [iI_sub, iI_J hu, iI_J (r0 _ (by omega) (by omega)), iI_J (r0 _ (by omega) (by omega)), m_isIn _ _ hu (r0 _ (by omega) (by omega)) (r0 _ (by omega) (by omega))]
        simp only [cond_true, cI_ok, bo_nr]
        rw [decide_eq_decide.mpr (show (tf σ t 0 ≤ u ∧ u ≤ un σ t - 1) ↔ (tf σ t 0 ≤ u ∧ u < un σ t) by omega)]
        simp only [may, c6, if_true, c4, c1, and_self]
      · rw [decide_eq_false c1, cond_false, last]
        simp only [may, c6, if_true, c4, c1, and_false, if_false]
    · rw [decide_eq_false c4, cond_false, last]
      simp only [may, c6, if_true, c4, false_and, if_false]
  · rw [decide_eq_false c6, cond_false, ki_161 hs, m_ofTeam _ hs hr ha ht (by decide)]
    simp only [Bool.and_self, cond_true, cI_ok]
    rw [bI_eq hu (r0 _ (by omega) (by omega)), nr_10, nr_11]
    simp only [may, c6, if_false]
    by_cases e : u = tf σ t 6
    · rw [decide_eq_true e]; rfl
    · rw [decide_eq_false e]; rfl
end MD
