/-! ===== the constructors without loops (printed by mk7n.py) ===== -/
section CT
variable {w : Wd} {O : UInt32 → Nat → Int32} {L : UInt32 → Nat}
theorem wI_p1 (a k : Nat) : mm_wI (TW w O L) a k 1 = TW (oI a (k : Int) 1 w) O L := wI_TW a k 1
theorem wI_m1 (a k : Nat) : mm_wI (TW w O L) a k (-1) = TW (oI a (k : Int) (-1) w) O L := by
  have e : (-1 : Int32) = iI (-1) := by decide
  rw [e]
  exact wI_TW a k (-1)
theorem wI_0 (a k : Nat) : mm_wI (TW w O L) a k 0 = TW (oI a (k : Int) 0 w) O L := wI_TW a k 0
theorem wI_150 (a k : Nat) : mm_wI (TW w O L) a k 150 = TW (oI a (k : Int) 150 w) O L := by
  have e : (150 : Int32) = iI 150 := by decide
  rw [e]
  exact wI_TW a k 150
theorem kd_2 {a : Nat} (z y : Nat) (h : a ≤ w.1.length) : kd (oA2 z y w).1 a = kd w.1 a := by
  unfold kd
  cases a with
  | zero => rfl
  | succ a =>
    rw [ob_s, ob_s]
    show ((w.1 ++ _)[a]?.getD nu).1 = _
    rw [List.getElem?_append_left (by omega)]
theorem bq_0 : Nat.beq 0 0 = true := rfl
theorem nr_m1 : mm_nr 0 (-1) = true := by decide
theorem nr_150 : mm_nr 0 150 = true := by decide
theorem nr_00 : mm_nr 0 0 = true := by decide
theorem nr_01 : mm_nr 0 1 = true := by decide
theorem in_06 : mm_in 0 6 = true := by decide
theorem tN_0 : Int32.toNatClampNeg 0 = 0 := by decide
theorem ng_0 : decide ((0 : Nat) < 0) = false := by decide
theorem bk_0 : Nat.ble 0 100000 = true := by decide
theorem bh_0 : Nat.ble 0 1000 = true := by decide
theorem tN_1 : Int32.toNatClampNeg 1 = 1 := by decide
theorem ng_1 : decide ((1 : Nat) < 0) = false := by decide
theorem bk_1 : Nat.ble 1 100000 = true := by decide
theorem bh_1 : Nat.ble 1 1000 = true := by decide
theorem tN_2 : Int32.toNatClampNeg 2 = 2 := by decide
theorem ng_2 : decide ((2 : Nat) < 0) = false := by decide
theorem bk_2 : Nat.ble 2 100000 = true := by decide
theorem bh_2 : Nat.ble 2 1000 = true := by decide
theorem tN_4 : Int32.toNatClampNeg 4 = 4 := by decide
theorem ng_4 : decide ((4 : Nat) < 0) = false := by decide
theorem bk_4 : Nat.ble 4 100000 = true := by decide
theorem bh_4 : Nat.ble 4 1000 = true := by decide
theorem tN_6 : Int32.toNatClampNeg 6 = 6 := by decide
theorem ng_6 : decide ((6 : Nat) < 0) = false := by decide
theorem bk_6 : Nat.ble 6 100000 = true := by decide
theorem bh_6 : Nat.ble 6 1000 = true := by decide
theorem tN_8 : Int32.toNatClampNeg 8 = 8 := by decide
theorem ng_8 : decide ((8 : Nat) < 0) = false := by decide
theorem bk_8 : Nat.ble 8 100000 = true := by decide
theorem bh_8 : Nat.ble 8 1000 = true := by decide
theorem tN_9 : Int32.toNatClampNeg 9 = 9 := by decide
theorem ng_9 : decide ((9 : Nat) < 0) = false := by decide
theorem bk_9 : Nat.ble 9 100000 = true := by decide
theorem bh_9 : Nat.ble 9 1000 = true := by decide
theorem tN_11 : Int32.toNatClampNeg 11 = 11 := by decide
theorem ng_11 : decide ((11 : Nat) < 0) = false := by decide
theorem bk_11 : Nat.ble 11 100000 = true := by decide
theorem bh_11 : Nat.ble 11 1000 = true := by decide
theorem tN_16 : Int32.toNatClampNeg 16 = 16 := by decide
theorem ng_16 : decide ((16 : Nat) < 0) = false := by decide
theorem bk_16 : Nat.ble 16 100000 = true := by decide
theorem bh_16 : Nat.ble 16 1000 = true := by decide
theorem tN_22 : Int32.toNatClampNeg 22 = 22 := by decide
theorem ng_22 : decide ((22 : Nat) < 0) = false := by decide
theorem bk_22 : Nat.ble 22 100000 = true := by decide
theorem bh_22 : Nat.ble 22 1000 = true := by decide
theorem tN_64 : Int32.toNatClampNeg 64 = 64 := by decide
theorem ng_64 : decide ((64 : Nat) < 0) = false := by decide
theorem bk_64 : Nat.ble 64 100000 = true := by decide
theorem bh_64 : Nat.ble 64 1000 = true := by decide
theorem tN_89 : Int32.toNatClampNeg 89 = 89 := by decide
theorem ng_89 : decide ((89 : Nat) < 0) = false := by decide
theorem bk_89 : Nat.ble 89 100000 = true := by decide
theorem bh_89 : Nat.ble 89 1000 = true := by decide
theorem tN_120 : Int32.toNatClampNeg 120 = 120 := by decide
theorem ng_120 : decide ((120 : Nat) < 0) = false := by decide
theorem bk_120 : Nat.ble 120 100000 = true := by decide
theorem bh_120 : Nat.ble 120 1000 = true := by decide
theorem tN_500 : Int32.toNatClampNeg 500 = 500 := by decide
theorem ng_500 : decide ((500 : Nat) < 0) = false := by decide
theorem bk_500 : Nat.ble 500 100000 = true := by decide
theorem bh_500 : Nat.ble 500 1000 = true := by decide
theorem tN_671 : Int32.toNatClampNeg 671 = 671 := by decide
theorem ng_671 : decide ((671 : Nat) < 0) = false := by decide
theorem bk_671 : Nat.ble 671 100000 = true := by decide
theorem bh_671 : Nat.ble 671 1000 = true := by decide
theorem tN_890 : Int32.toNatClampNeg 890 = 890 := by decide
theorem ng_890 : decide ((890 : Nat) < 0) = false := by decide
theorem bk_890 : Nat.ble 890 100000 = true := by decide
theorem bh_890 : Nat.ble 890 1000 = true := by decide
theorem tN_1424 : Int32.toNatClampNeg 1424 = 1424 := by decide
theorem ng_1424 : decide ((1424 : Nat) < 0) = false := by decide
theorem bk_1424 : Nat.ble 1424 100000 = true := by decide
def wTeam (w : Wd) (a0 : Nat) : Wd := (oI (w.1.length + 6) ((0 : Nat) : Int) (1) (oI (w.1.length + 5) ((0 : Nat) : Int) (1) (oI (w.1.length + 4) ((0 : Nat) : Int) (1) (oI (w.1.length + 3) ((0 : Nat) : Int) (1) (oI a0 ((5 : Nat) : Int) (-1) (oI a0 ((0 : Nat) : Int) (1) (oP a0 12 (w.1.length + 6) (oAl 100 6 (oP a0 11 (w.1.length + 5) (oAl 100 6 (oP a0 10 (w.1.length + 4) (oAl 100 6 (oP a0 9 (w.1.length + 3) (oAl 100 6 (oP a0 8 (w.1.length + 2) (oAl 100 6 (oP a0 7 (w.1.length + 1) (oAl 100 6 w))))))))))))))))))
theorem i_Team (d : Nat) (hd : 0 < d) (a0 : Nat) (h0 : 0 < a0) (h1 : a0 ≤ w.1.length) (hk : kd w.1 a0 = 11) : D_Team_init d (TW w O L) a0 = some (.inl none, TW (wTeam w a0) O L) := by
  have b0 : Nat.blt 0 d = true := Nat.blt_eq.mpr hd
  have b1 : Nat.blt 0 a0 = true := Nat.blt_eq.mpr h0
  rw [eD_Team_init]
  simp (disch := (first | omega | (simp only [ln_A, ln_P, ln_I, ln_2]; omega))) only [b0, b1, hk, kd_2, al_TW, wP_TW, wI_p1, wI_m1, wI_0, wI_150, A2_TW, is_TW, sz_TW, P_TW, n_TW, x_TW, ok_TW, ln_A, ln_P, ln_I, ln_2, kd_A, zz_A, gP_A, kd_P, zz_P, gP_P, kd_I, zz_I, gP_I, if_neg, if_pos, decide_true, bq_0, nr_m1, nr_150, nr_00, nr_01, in_06, reduceIte, and_self, Bool.not_false, Bool.and_self, cond_true, tN_0, ng_0, bk_0, bh_0, tN_1, ng_1, bk_1, bh_1, tN_2, ng_2, bk_2, bh_2, tN_4, ng_4, bk_4, bh_4, tN_6, ng_6, bk_6, bh_6, tN_8, ng_8, bk_8, bh_8, tN_9, ng_9, bk_9, bh_9, tN_11, ng_11, bk_11, bh_11, tN_16, ng_16, bk_16, bh_16, tN_22, ng_22, bk_22, bh_22, tN_64, ng_64, bk_64, bh_64, tN_89, ng_89, bk_89, bh_89, tN_120, ng_120, bk_120, bh_120, tN_500, ng_500, bk_500, bh_500, tN_671, ng_671, bk_671, bh_671, tN_890, ng_890, bk_890, bh_890, tN_1424, ng_1424, bk_1424]
  rfl
def wSide (w : Wd) (a0 : Nat) (a1 : Nat) : Wd := (oP a0 0 a1 (oP a0 3 (w.1.length + 3) (oAl 100 6 (oP a0 2 (w.1.length + 2) (oAl 100 6 (oP a0 1 (w.1.length + 1) (oAl 100 6 w)))))))
theorem i_Side (d : Nat) (hd : 0 < d) (a0 : Nat) (a1 : Nat) (h0 : 0 < a0) (h1 : a0 ≤ w.1.length) (hk : kd w.1 a0 = 9) : D_Side_init d (TW w O L) a0 a1 = some (.inl none, TW (wSide w a0 a1) O L) := by
  have b0 : Nat.blt 0 d = true := Nat.blt_eq.mpr hd
  have b1 : Nat.blt 0 a0 = true := Nat.blt_eq.mpr h0
  rw [eD_Side_init]
  simp (disch := (first | omega | (simp only [ln_A, ln_P, ln_I, ln_2]; omega))) only [b0, b1, hk, kd_2, al_TW, wP_TW, wI_p1, wI_m1, wI_0, wI_150, A2_TW, is_TW, sz_TW, P_TW, n_TW, x_TW, ok_TW, ln_A, ln_P, ln_I, ln_2, kd_A, zz_A, gP_A, kd_P, zz_P, gP_P, kd_I, zz_I, gP_I, if_neg, if_pos, decide_true, bq_0, nr_m1, nr_150, nr_00, nr_01, in_06, reduceIte, and_self, Bool.not_false, Bool.and_self, cond_true, tN_0, ng_0, bk_0, bh_0, tN_1, ng_1, bk_1, bh_1, tN_2, ng_2, bk_2, bh_2, tN_4, ng_4, bk_4, bh_4, tN_6, ng_6, bk_6, bh_6, tN_8, ng_8, bk_8, bh_8, tN_9, ng_9, bk_9, bh_9, tN_11, ng_11, bk_11, bh_11, tN_16, ng_16, bk_16, bh_16, tN_22, ng_22, bk_22, bh_22, tN_64, ng_64, bk_64, bh_64, tN_89, ng_89, bk_89, bh_89, tN_120, ng_120, bk_120, bh_120, tN_500, ng_500, bk_500, bh_500, tN_671, ng_671, bk_671, bh_671, tN_890, ng_890, bk_890, bh_890, tN_1424, ng_1424, bk_1424]
  rfl
def wActs (w : Wd) (a0 : Nat) : Wd := (oP a0 0 (w.1.length + 1) (oA2 16 22 w))
theorem i_Acts (d : Nat) (hd : 0 < d) (a0 : Nat) (h0 : 0 < a0) (h1 : a0 ≤ w.1.length) (hk : kd w.1 a0 = 1) : D_Acts_init d (TW w O L) a0 = some (.inl none, TW (wActs w a0) O L) := by
  have b0 : Nat.blt 0 d = true := Nat.blt_eq.mpr hd
  have b1 : Nat.blt 0 a0 = true := Nat.blt_eq.mpr h0
  rw [eD_Acts_init]
  simp (disch := (first | omega | (simp only [ln_A, ln_P, ln_I, ln_2]; omega))) only [b0, b1, hk, kd_2, al_TW, wP_TW, wI_p1, wI_m1, wI_0, wI_150, A2_TW, is_TW, sz_TW, P_TW, n_TW, x_TW, ok_TW, ln_A, ln_P, ln_I, ln_2, kd_A, zz_A, gP_A, kd_P, zz_P, gP_P, kd_I, zz_I, gP_I, if_neg, if_pos, decide_true, bq_0, nr_m1, nr_150, nr_00, nr_01, in_06, reduceIte, and_self, Bool.not_false, Bool.and_self, cond_true, tN_0, ng_0, bk_0, bh_0, tN_1, ng_1, bk_1, bh_1, tN_2, ng_2, bk_2, bh_2, tN_4, ng_4, bk_4, bh_4, tN_6, ng_6, bk_6, bh_6, tN_8, ng_8, bk_8, bh_8, tN_9, ng_9, bk_9, bh_9, tN_11, ng_11, bk_11, bh_11, tN_16, ng_16, bk_16, bh_16, tN_22, ng_22, bk_22, bh_22, tN_64, ng_64, bk_64, bh_64, tN_89, ng_89, bk_89, bh_89, tN_120, ng_120, bk_120, bh_120, tN_500, ng_500, bk_500, bh_500, tN_671, ng_671, bk_671, bh_671, tN_890, ng_890, bk_890, bh_890, tN_1424, ng_1424, bk_1424]
  rfl
def wGames (w : Wd) (a0 : Nat) (a1 a2 : Nat) : Wd := (oP a0 1 a2 (oP a0 0 a1 (oP a0 2 (w.1.length + 1) (oAl 100 22 w))))
theorem i_Games (d : Nat) (hd : 0 < d) (a0 : Nat) (a1 a2 : Nat) (h0 : 0 < a0) (h1 : a0 ≤ w.1.length) (hk : kd w.1 a0 = 3) : D_Games_init d (TW w O L) a0 a1 a2 = some (.inl none, TW (wGames w a0 a1 a2) O L) := by
  have b0 : Nat.blt 0 d = true := Nat.blt_eq.mpr hd
  have b1 : Nat.blt 0 a0 = true := Nat.blt_eq.mpr h0
  rw [eD_Games_init]
  simp (disch := (first | omega | (simp only [ln_A, ln_P, ln_I, ln_2]; omega))) only [b0, b1, hk, kd_2, al_TW, wP_TW, wI_p1, wI_m1, wI_0, wI_150, A2_TW, is_TW, sz_TW, P_TW, n_TW, x_TW, ok_TW, ln_A, ln_P, ln_I, ln_2, kd_A, zz_A, gP_A, kd_P, zz_P, gP_P, kd_I, zz_I, gP_I, if_neg, if_pos, decide_true, bq_0, nr_m1, nr_150, nr_00, nr_01, in_06, reduceIte, and_self, Bool.not_false, Bool.and_self, cond_true, tN_0, ng_0, bk_0, bh_0, tN_1, ng_1, bk_1, bh_1, tN_2, ng_2, bk_2, bh_2, tN_4, ng_4, bk_4, bh_4, tN_6, ng_6, bk_6, bh_6, tN_8, ng_8, bk_8, bh_8, tN_9, ng_9, bk_9, bh_9, tN_11, ng_11, bk_11, bh_11, tN_16, ng_16, bk_16, bh_16, tN_22, ng_22, bk_22, bh_22, tN_64, ng_64, bk_64, bh_64, tN_89, ng_89, bk_89, bh_89, tN_120, ng_120, bk_120, bh_120, tN_500, ng_500, bk_500, bh_500, tN_671, ng_671, bk_671, bh_671, tN_890, ng_890, bk_890, bh_890, tN_1424, ng_1424, bk_1424]
  rfl
def wGiving (w : Wd) (a0 : Nat) (a1 : Nat) : Wd := (oP a0 0 a1 (oP a0 2 (w.1.length + 2) (oAl 100 4 (oP a0 1 (w.1.length + 1) (oAl 100 4 w)))))
theorem i_Giving (d : Nat) (hd : 0 < d) (a0 : Nat) (a1 : Nat) (h0 : 0 < a0) (h1 : a0 ≤ w.1.length) (hk : kd w.1 a0 = 4) : D_Giving_init d (TW w O L) a0 a1 = some (.inl none, TW (wGiving w a0 a1) O L) := by
  have b0 : Nat.blt 0 d = true := Nat.blt_eq.mpr hd
  have b1 : Nat.blt 0 a0 = true := Nat.blt_eq.mpr h0
  rw [eD_Giving_init]
  simp (disch := (first | omega | (simp only [ln_A, ln_P, ln_I, ln_2]; omega))) only [b0, b1, hk, kd_2, al_TW, wP_TW, wI_p1, wI_m1, wI_0, wI_150, A2_TW, is_TW, sz_TW, P_TW, n_TW, x_TW, ok_TW, ln_A, ln_P, ln_I, ln_2, kd_A, zz_A, gP_A, kd_P, zz_P, gP_P, kd_I, zz_I, gP_I, if_neg, if_pos, decide_true, bq_0, nr_m1, nr_150, nr_00, nr_01, in_06, reduceIte, and_self, Bool.not_false, Bool.and_self, cond_true, tN_0, ng_0, bk_0, bh_0, tN_1, ng_1, bk_1, bh_1, tN_2, ng_2, bk_2, bh_2, tN_4, ng_4, bk_4, bh_4, tN_6, ng_6, bk_6, bh_6, tN_8, ng_8, bk_8, bh_8, tN_9, ng_9, bk_9, bh_9, tN_11, ng_11, bk_11, bh_11, tN_16, ng_16, bk_16, bh_16, tN_22, ng_22, bk_22, bh_22, tN_64, ng_64, bk_64, bh_64, tN_89, ng_89, bk_89, bh_89, tN_120, ng_120, bk_120, bh_120, tN_500, ng_500, bk_500, bh_500, tN_671, ng_671, bk_671, bh_671, tN_890, ng_890, bk_890, bh_890, tN_1424, ng_1424, bk_1424]
  rfl
def wPull (w : Wd) (a0 : Nat) : Wd := (oP a0 2 (w.1.length + 3) (oAl 100 11 (oP a0 1 (w.1.length + 2) (oAl 100 11 (oP a0 0 (w.1.length + 1) (oAl 100 11 w))))))
theorem i_Pull (d : Nat) (hd : 0 < d) (a0 : Nat) (h0 : 0 < a0) (h1 : a0 ≤ w.1.length) (hk : kd w.1 a0 = 5) : D_Pull_init d (TW w O L) a0 = some (.inl none, TW (wPull w a0) O L) := by
  have b0 : Nat.blt 0 d = true := Nat.blt_eq.mpr hd
  have b1 : Nat.blt 0 a0 = true := Nat.blt_eq.mpr h0
  rw [eD_Pull_init]
  simp (disch := (first | omega | (simp only [ln_A, ln_P, ln_I, ln_2]; omega))) only [b0, b1, hk, kd_2, al_TW, wP_TW, wI_p1, wI_m1, wI_0, wI_150, A2_TW, is_TW, sz_TW, P_TW, n_TW, x_TW, ok_TW, ln_A, ln_P, ln_I, ln_2, kd_A, zz_A, gP_A, kd_P, zz_P, gP_P, kd_I, zz_I, gP_I, if_neg, if_pos, decide_true, bq_0, nr_m1, nr_150, nr_00, nr_01, in_06, reduceIte, and_self, Bool.not_false, Bool.and_self, cond_true, tN_0, ng_0, bk_0, bh_0, tN_1, ng_1, bk_1, bh_1, tN_2, ng_2, bk_2, bh_2, tN_4, ng_4, bk_4, bh_4, tN_6, ng_6, bk_6, bh_6, tN_8, ng_8, bk_8, bh_8, tN_9, ng_9, bk_9, bh_9, tN_11, ng_11, bk_11, bh_11, tN_16, ng_16, bk_16, bh_16, tN_22, ng_22, bk_22, bh_22, tN_64, ng_64, bk_64, bh_64, tN_89, ng_89, bk_89, bh_89, tN_120, ng_120, bk_120, bh_120, tN_500, ng_500, bk_500, bh_500, tN_671, ng_671, bk_671, bh_671, tN_890, ng_890, bk_890, bh_890, tN_1424, ng_1424, bk_1424]
  rfl
def wRotation (w : Wd) (a0 : Nat) (a1 : Nat) : Wd := (oP a0 0 a1 (oP a0 4 (w.1.length + 4) (oAl 100 8 (oP a0 3 (w.1.length + 3) (oAl 100 9 (oP a0 2 (w.1.length + 2) (oAl 100 8 (oP a0 1 (w.1.length + 1) (oAl 100 8 w)))))))))
theorem i_Rotation (d : Nat) (hd : 0 < d) (a0 : Nat) (a1 : Nat) (h0 : 0 < a0) (h1 : a0 ≤ w.1.length) (hk : kd w.1 a0 = 8) : D_Rotation_init d (TW w O L) a0 a1 = some (.inl none, TW (wRotation w a0 a1) O L) := by
  have b0 : Nat.blt 0 d = true := Nat.blt_eq.mpr hd
  have b1 : Nat.blt 0 a0 = true := Nat.blt_eq.mpr h0
  rw [eD_Rotation_init]
  simp (disch := (first | omega | (simp only [ln_A, ln_P, ln_I, ln_2]; omega))) only [b0, b1, hk, kd_2, al_TW, wP_TW, wI_p1, wI_m1, wI_0, wI_150, A2_TW, is_TW, sz_TW, P_TW, n_TW, x_TW, ok_TW, ln_A, ln_P, ln_I, ln_2, kd_A, zz_A, gP_A, kd_P, zz_P, gP_P, kd_I, zz_I, gP_I, if_neg, if_pos, decide_true, bq_0, nr_m1, nr_150, nr_00, nr_01, in_06, reduceIte, and_self, Bool.not_false, Bool.and_self, cond_true, tN_0, ng_0, bk_0, bh_0, tN_1, ng_1, bk_1, bh_1, tN_2, ng_2, bk_2, bh_2, tN_4, ng_4, bk_4, bh_4, tN_6, ng_6, bk_6, bh_6, tN_8, ng_8, bk_8, bh_8, tN_9, ng_9, bk_9, bh_9, tN_11, ng_11, bk_11, bh_11, tN_16, ng_16, bk_16, bh_16, tN_22, ng_22, bk_22, bh_22, tN_64, ng_64, bk_64, bh_64, tN_89, ng_89, bk_89, bh_89, tN_120, ng_120, bk_120, bh_120, tN_500, ng_500, bk_500, bh_500, tN_671, ng_671, bk_671, bh_671, tN_890, ng_890, bk_890, bh_890, tN_1424, ng_1424, bk_1424]
  rfl
def wSpeech (w : Wd) (a0 : Nat) : Wd := (oP a0 0 (w.1.length + 1) (oAl 101 64 w))
theorem i_Speech (d : Nat) (hd : 0 < d) (a0 : Nat) (h0 : 0 < a0) (h1 : a0 ≤ w.1.length) (hk : kd w.1 a0 = 10) : D_Speech_init d (TW w O L) a0 = some (.inl none, TW (wSpeech w a0) O L) := by
  have b0 : Nat.blt 0 d = true := Nat.blt_eq.mpr hd
  have b1 : Nat.blt 0 a0 = true := Nat.blt_eq.mpr h0
  rw [eD_Speech_init]
  simp (disch := (first | omega | (simp only [ln_A, ln_P, ln_I, ln_2]; omega))) only [b0, b1, hk, kd_2, al_TW, wP_TW, wI_p1, wI_m1, wI_0, wI_150, A2_TW, is_TW, sz_TW, P_TW, n_TW, x_TW, ok_TW, ln_A, ln_P, ln_I, ln_2, kd_A, zz_A, gP_A, kd_P, zz_P, gP_P, kd_I, zz_I, gP_I, if_neg, if_pos, decide_true, bq_0, nr_m1, nr_150, nr_00, nr_01, in_06, reduceIte, and_self, Bool.not_false, Bool.and_self, cond_true, tN_0, ng_0, bk_0, bh_0, tN_1, ng_1, bk_1, bh_1, tN_2, ng_2, bk_2, bh_2, tN_4, ng_4, bk_4, bh_4, tN_6, ng_6, bk_6, bh_6, tN_8, ng_8, bk_8, bh_8, tN_9, ng_9, bk_9, bh_9, tN_11, ng_11, bk_11, bh_11, tN_16, ng_16, bk_16, bh_16, tN_22, ng_22, bk_22, bh_22, tN_64, ng_64, bk_64, bh_64, tN_89, ng_89, bk_89, bh_89, tN_120, ng_120, bk_120, bh_120, tN_500, ng_500, bk_500, bh_500, tN_671, ng_671, bk_671, bh_671, tN_890, ng_890, bk_890, bh_890, tN_1424, ng_1424, bk_1424]
  rfl
end CT
