/-! ===== ints as whole numbers ===== -/
def iI (a : Int) : Int32 := Int32.ofInt a
/-- in an int's range -/
def rg (a : Int) : Prop := -2147483648 ≤ a ∧ a < 2147483648
theorem iI_add (a b : Int) : iI a + iI b = iI (a + b) := (Int32.ofInt_add a b).symm
theorem iI_sub (a b : Int) : iI a - iI b = iI (a - b) := (Int32.ofInt_sub a b).symm
theorem iI_mul (a b : Int) : iI a * iI b = iI (a * b) := (Int32.ofInt_mul a b).symm
theorem iI_neg (a : Int) : -iI a = iI (-a) := (Int32.ofInt_neg a).symm
theorem iI_toInt {a : Int} (h : rg a) : (iI a).toInt = a := Int32.toInt_ofInt_of_le (by have := h.1; omega) (by have := h.2; omega)
theorem iI_of (x : Int32) : iI x.toInt = x := Int32.ofInt_toInt x
theorem iI_ex (x : Int32) : ∃ a, rg a ∧ x = iI a := ⟨x.toInt, ⟨by have := Int32.le_toInt x; omega, by have := Int32.toInt_lt x; omega⟩, (iI_of x).symm⟩
theorem iI_inj {a b : Int} (ha : rg a) (hb : rg b) : iI a = iI b ↔ a = b := ⟨fun h => by rw [← iI_toInt ha, ← iI_toInt hb, h], fun h => by rw [h]⟩
theorem iI_lt {a b : Int} (ha : rg a) (hb : rg b) : iI a < iI b ↔ a < b := by rw [Int32.lt_iff_toInt_lt, iI_toInt ha, iI_toInt hb]
theorem iI_le {a b : Int} (ha : rg a) (hb : rg b) : iI a ≤ iI b ↔ a ≤ b := by rw [Int32.le_iff_toInt_le, iI_toInt ha, iI_toInt hb]
theorem bI_lt {a b : Int} (ha : rg a) (hb : rg b) : mm_lt (iI a) (iI b) = decide (a < b) := by
  unfold mm_lt
  exact decide_eq_decide.mpr (iI_lt ha hb)
theorem bI_eq {a b : Int} (ha : rg a) (hb : rg b) : mm_eq (iI a) (iI b) = decide (a = b) := by
  unfold mm_eq
  exact decide_eq_decide.mpr (iI_inj ha hb)
theorem iI_cl {a : Int} (h0 : 0 ≤ a) (h : a < 2147483648) : (iI a).toNatClampNeg = a.toNat := by
  show (iI a).toInt.toNat = a.toNat
  rw [iI_toInt ⟨by omega, h⟩]
theorem iI_in {a : Int} {n : Nat} (h0 : 0 ≤ a) (h : a < n) (hn : n < 2147483648) : mm_in (iI a) n = true := by
  have hr : rg a := ⟨by omega, by omega⟩
  have z0 : rg 0 := ⟨by decide, by decide⟩
  have e1 : ¬ iI a < 0 := by
    rw [show (0 : Int32) = iI 0 from rfl, iI_lt hr z0]
    omega
  have e2 : ¬ n ≤ (iI a).toNatClampNeg := by
    rw [iI_cl h0 hr.2]
    omega
  simp [mm_in, e1, e2]
theorem iI_out {a : Int} {n : Nat} (hr : rg a) (h : a < 0 ∨ (n : Int) ≤ a) : mm_in (iI a) n = false := by
  have z0 : rg 0 := ⟨by decide, by decide⟩
  rcases h with h | h
  · have e1 : iI a < 0 := by
      rw [show (0 : Int32) = iI 0 from rfl, iI_lt hr z0]
      exact h
    simp [mm_in, e1]
  · have e2 : n ≤ (iI a).toNatClampNeg := by
      rw [iI_cl (by omega) hr.2]
      omega
    simp [mm_in, e2]
theorem iI_div {a b : Int} (ha : rg a) (hb : rg b) (h0 : b ≠ 0) (hm : b ≠ -1) : iI a / iI b = iI (a.tdiv b) := by
  apply Int32.toInt_inj.mp
  rw [Int32.toInt_div_of_ne_right _ _ (fun e => hm (by rw [← iI_toInt hb, e]; rfl)), iI_toInt ha, iI_toInt hb, iI_toInt]
  have h1 : (a.tdiv b).natAbs ≤ a.natAbs := by rw [Int.natAbs_tdiv]; exact Nat.div_le_self _ _
  obtain ⟨r1, r2⟩ := ha
  by_cases hx : a = -2147483648
  · subst hx
    by_cases b1 : b = 1
    · subst b1
      rw [Int.tdiv_one]
      exact ⟨by decide, by decide⟩
    · have h2 : 2 ≤ b.natAbs := by omega
      have h3 : ∀ q : Int, q.natAbs ≤ 1073741824 → rg q := fun q h => ⟨by omega, by omega⟩
      refine h3 _ ?_
      rw [Int.natAbs_tdiv]
      exact Nat.le_trans (Nat.div_le_div_left h2 (by decide)) (by decide)
  · exact ⟨by omega, by omega⟩
theorem bI_n0 {b : Int} (hb : rg b) (h0 : b ≠ 0) : mm_n0 (iI b) = true := by
  exact decide_eq_true (fun z => h0 ((iI_inj hb ⟨by decide, by decide⟩).mp z))
theorem iI_max {a b : Int} (ha : rg a) (hb : rg b) : mm_max (iI a) (iI b) = iI (max a b) := by
  unfold mm_max
  by_cases h : a < b
  · rw [if_pos ((iI_lt ha hb).mpr h), Int.max_eq_right (by omega)]
  · rw [if_neg (fun z => h ((iI_lt ha hb).mp z)), Int.max_eq_left (by omega)]
theorem iI_min {a b : Int} (ha : rg a) (hb : rg b) : mm_min (iI a) (iI b) = iI (min a b) := by
  unfold mm_min
  by_cases h : b < a
  · rw [if_pos ((iI_lt hb ha).mpr h), Int.min_eq_right (by omega)]
  · rw [if_neg (fun z => h ((iI_lt hb ha).mp z)), Int.min_eq_left (by omega)]
theorem iI_rem {a b : Int} (ha : rg a) (hb : rg b) (h0 : b ≠ 0) (hm : b ≠ -1) : mm_rem (iI a) (iI b) = iI (a.tmod b) := by
  unfold mm_rem
  rw [iI_div ha hb h0 hm, iI_mul, iI_sub]
  congr 1
  have := Int.mul_tdiv_add_tmod a b
  rw [Int.mul_comm b] at this
  omega
theorem li_m1000000 : ((-1000000) : Int32) = iI (-1000000) := by decide
theorem li_m8 : ((-8) : Int32) = iI (-8) := by decide
theorem li_m5 : ((-5) : Int32) = iI (-5) := by decide
theorem li_m1 : ((-1) : Int32) = iI (-1) := by decide
theorem li_0 : (0 : Int32) = iI 0 := by decide
theorem li_1 : (1 : Int32) = iI 1 := by decide
theorem li_2 : (2 : Int32) = iI 2 := by decide
theorem li_3 : (3 : Int32) = iI 3 := by decide
theorem li_4 : (4 : Int32) = iI 4 := by decide
theorem li_5 : (5 : Int32) = iI 5 := by decide
theorem li_6 : (6 : Int32) = iI 6 := by decide
theorem li_7 : (7 : Int32) = iI 7 := by decide
theorem li_8 : (8 : Int32) = iI 8 := by decide
theorem li_9 : (9 : Int32) = iI 9 := by decide
theorem li_10 : (10 : Int32) = iI 10 := by decide
theorem li_11 : (11 : Int32) = iI 11 := by decide
theorem li_12 : (12 : Int32) = iI 12 := by decide
theorem li_13 : (13 : Int32) = iI 13 := by decide
theorem li_14 : (14 : Int32) = iI 14 := by decide
theorem li_15 : (15 : Int32) = iI 15 := by decide
theorem li_16 : (16 : Int32) = iI 16 := by decide
theorem li_17 : (17 : Int32) = iI 17 := by decide
theorem li_18 : (18 : Int32) = iI 18 := by decide
theorem li_19 : (19 : Int32) = iI 19 := by decide
theorem li_20 : (20 : Int32) = iI 20 := by decide
theorem li_21 : (21 : Int32) = iI 21 := by decide
theorem li_22 : (22 : Int32) = iI 22 := by decide
theorem li_23 : (23 : Int32) = iI 23 := by decide
theorem li_24 : (24 : Int32) = iI 24 := by decide
theorem li_25 : (25 : Int32) = iI 25 := by decide
theorem li_26 : (26 : Int32) = iI 26 := by decide
theorem li_27 : (27 : Int32) = iI 27 := by decide
theorem li_28 : (28 : Int32) = iI 28 := by decide
theorem li_29 : (29 : Int32) = iI 29 := by decide
theorem li_30 : (30 : Int32) = iI 30 := by decide
theorem li_31 : (31 : Int32) = iI 31 := by decide
theorem li_32 : (32 : Int32) = iI 32 := by decide
theorem li_42 : (42 : Int32) = iI 42 := by decide
theorem li_43 : (43 : Int32) = iI 43 := by decide
theorem li_46 : (46 : Int32) = iI 46 := by decide
theorem li_47 : (47 : Int32) = iI 47 := by decide
theorem li_48 : (48 : Int32) = iI 48 := by decide
theorem li_49 : (49 : Int32) = iI 49 := by decide
theorem li_52 : (52 : Int32) = iI 52 := by decide
theorem li_57 : (57 : Int32) = iI 57 := by decide
theorem li_59 : (59 : Int32) = iI 59 := by decide
theorem li_60 : (60 : Int32) = iI 60 := by decide
theorem li_64 : (64 : Int32) = iI 64 := by decide
theorem li_89 : (89 : Int32) = iI 89 := by decide
theorem li_94 : (94 : Int32) = iI 94 := by decide
theorem li_97 : (97 : Int32) = iI 97 := by decide
theorem li_99 : (99 : Int32) = iI 99 := by decide
theorem li_100 : (100 : Int32) = iI 100 := by decide
theorem li_108 : (108 : Int32) = iI 108 := by decide
theorem li_112 : (112 : Int32) = iI 112 := by decide
theorem li_120 : (120 : Int32) = iI 120 := by decide
theorem li_122 : (122 : Int32) = iI 122 := by decide
theorem li_150 : (150 : Int32) = iI 150 := by decide
theorem li_255 : (255 : Int32) = iI 255 := by decide
theorem li_300 : (300 : Int32) = iI 300 := by decide
theorem li_450 : (450 : Int32) = iI 450 := by decide
theorem li_500 : (500 : Int32) = iI 500 := by decide
theorem li_671 : (671 : Int32) = iI 671 := by decide
theorem li_890 : (890 : Int32) = iI 890 := by decide
theorem li_1000 : (1000 : Int32) = iI 1000 := by decide
theorem li_1001 : (1001 : Int32) = iI 1001 := by decide
theorem li_1002 : (1002 : Int32) = iI 1002 := by decide
theorem li_1003 : (1003 : Int32) = iI 1003 := by decide
theorem li_1424 : (1424 : Int32) = iI 1424 := by decide
theorem li_12345 : (12345 : Int32) = iI 12345 := by decide
theorem li_32767 : (32767 : Int32) = iI 32767 := by decide
theorem li_500000 : (500000 : Int32) = iI 500000 := by decide
theorem li_1000000 : (1000000 : Int32) = iI 1000000 := by decide
theorem li_1103515245 : (1103515245 : Int32) = iI 1103515245 := by decide
/-! the same, by bounds that stand alone -/
section Qs
variable {a b : Int}
theorem qlt (h1 : -2147483648 ≤ a) (h2 : a < 2147483648) (h3 : -2147483648 ≤ b) (h4 : b < 2147483648) : mm_lt (iI a) (iI b) = decide (a < b) := bI_lt ⟨h1, h2⟩ ⟨h3, h4⟩
theorem qeq (h1 : -2147483648 ≤ a) (h2 : a < 2147483648) (h3 : -2147483648 ≤ b) (h4 : b < 2147483648) : mm_eq (iI a) (iI b) = decide (a = b) := bI_eq ⟨h1, h2⟩ ⟨h3, h4⟩
theorem qmax (h1 : -2147483648 ≤ a) (h2 : a < 2147483648) (h3 : -2147483648 ≤ b) (h4 : b < 2147483648) : mm_max (iI a) (iI b) = iI (max a b) := iI_max ⟨h1, h2⟩ ⟨h3, h4⟩
theorem qmin (h1 : -2147483648 ≤ a) (h2 : a < 2147483648) (h3 : -2147483648 ≤ b) (h4 : b < 2147483648) : mm_min (iI a) (iI b) = iI (min a b) := iI_min ⟨h1, h2⟩ ⟨h3, h4⟩
theorem qdiv (h1 : 0 ≤ a) (h2 : a < 2147483648) (h3 : 0 < b) (h4 : b < 2147483648) : iI a / iI b = iI (a / b) := by
  rw [iI_div ⟨by omega, h2⟩ ⟨by omega, h4⟩ (by omega) (by omega), Int.tdiv_eq_ediv_of_nonneg h1]
theorem qrem (h1 : 0 ≤ a) (h2 : a < 2147483648) (h3 : 0 < b) (h4 : b < 2147483648) : mm_rem (iI a) (iI b) = iI (a % b) := by
  rw [iI_rem ⟨by omega, h2⟩ ⟨by omega, h4⟩ (by omega) (by omega), Int.tmod_eq_emod_of_nonneg h1]
theorem qn0 (h3 : 0 < b) (h4 : b < 2147483648) : mm_n0 (iI b) = true := bI_n0 ⟨by omega, h4⟩ (by omega)
theorem qin {n : Nat} (h0 : 0 ≤ a) (h : a < n) (hn : n < 2147483648) : mm_in (iI a) n = true := iI_in h0 h hn
theorem qlt0 (h1 : 0 ≤ a) (h2 : a < 2147483648) : decide (iI a < iI 0) = false := decide_eq_false (fun z => by have := (iI_lt ⟨by omega, h2⟩ ⟨by decide, by decide⟩).mp z; omega)
end Qs
theorem cond_dec {α : Type} {p : Prop} [i : Decidable p] (x y : α) : cond (decide p) x y = if p then x else y := by
  by_cases c : p
  · rw [decide_eq_true c, if_pos c]; rfl
  · rw [decide_eq_false c, if_neg c]; rfl
