/-! ===== the constructors that call others (printed by mk7o.py) ===== -/
section CS
variable {w : Wd} {O : UInt32 → Nat → Int32} {L : UInt32 → Nat}
theorem ln_Team (a0 : Nat) : (wTeam w a0).1.length = w.1.length + 6 := by
  unfold wTeam
  simp only [ln_I, ln_P, ln_A]
theorem kd_Team (a0 : Nat) {b : Nat} (h : b ≤ w.1.length) : kd (wTeam w a0).1 b = kd w.1 b := by
  unfold wTeam
  simp (disch := omega) only [kd_I, kd_P, kd_A, ln_P, ln_A, if_neg]
theorem ln_Side (a0 a1 : Nat) : (wSide w a0 a1).1.length = w.1.length + 3 := by
  unfold wSide
  simp only [ln_I, ln_P, ln_A]
theorem kd_Side (a0 a1 : Nat) {b : Nat} (h : b ≤ w.1.length) : kd (wSide w a0 a1).1 b = kd w.1 b := by
  unfold wSide
  simp (disch := omega) only [kd_I, kd_P, kd_A, ln_P, ln_A, if_neg]
theorem zz_Side (a0 a1 : Nat) {b : Nat} (h : b ≤ w.1.length) : zz (wSide w a0 a1).1 b = zz w.1 b := by
  unfold wSide
  simp (disch := omega) only [zz_I, zz_P, zz_A, ln_P, ln_A, if_neg]
theorem gP_Side (a0 a1 : Nat) {b : Nat} (k : Nat) (h0 : 0 < a0) (h1 : a0 ≤ w.1.length) (h : b ≤ w.1.length) (hn : b ≠ a0) : gP (wSide w a0 a1).1 b k = gP w.1 b k := by
  unfold wSide
  simp (disch := (first | omega | (simp only [ln_A, ln_P]; omega))) only [gP_P, gP_A, ln_P, ln_A, if_neg]
def wRink (w : Wd) (a0 : Nat) : Wd := oI a0 ((4 : Nat) : Int) 150 (oP a0 1 (w.1.length + 8) (wTeam (oAl 11 13 (oP a0 0 (w.1.length + 1) (wTeam (oAl 11 13 w) (w.1.length + 1)))) (w.1.length + 8)))
theorem ln_Rink (a0 : Nat) : (wRink w a0).1.length = w.1.length + 14 := by
  unfold wRink
  simp only [ln_I, ln_P, ln_A, ln_Team]
theorem kd_Rink (a0 : Nat) {b : Nat} (h : b ≤ w.1.length) : kd (wRink w a0).1 b = kd w.1 b := by
  unfold wRink
  simp (disch := (first | omega | (simp only [ln_A, ln_P, ln_Team]; omega))) only [kd_I, kd_P, kd_A, kd_Team, ln_P, ln_A, ln_Team, if_neg]
theorem i_Rink (d : Nat) (hd : 1 < d) (a0 : Nat) (h0 : 0 < a0) (h1 : a0 ≤ w.1.length) (hk : kd w.1 a0 = 7) : D_Rink_init d (TW w O L) a0 = some (.inl none, TW (wRink w a0) O L) := by
  have b0 : Nat.blt 0 d = true := Nat.blt_eq.mpr (by omega)
  have b1 : Nat.blt 0 a0 = true := Nat.blt_eq.mpr h0
  have b2 : ∀ n, Nat.blt 0 (n + 1) = true := fun n => Nat.blt_eq.mpr (by omega)
  have t1 := i_Team (w := oAl 11 13 w) (O := O) (L := L) (d - 1) (by omega) (w.1.length + 1) (by omega) (by rw [ln_A]; omega) (by rw [kd_A, if_pos rfl])
  have l1 : (oP a0 0 (w.1.length + 1) (wTeam (oAl 11 13 w) (w.1.length + 1))).1.length = w.1.length + 7 := by
    simp only [ln_P, ln_Team, ln_A]
  have t2 := i_Team (w := oAl 11 13 (oP a0 0 (w.1.length + 1) (wTeam (oAl 11 13 w) (w.1.length + 1)))) (O := O) (L := L) (d - 1) (by omega) (w.1.length + 8) (by omega) (by rw [ln_A, l1]; omega) (by rw [kd_A, l1, if_pos (by omega)])
  rw [eD_Rink_init]
  simp (disch := (first | omega | (simp only [ln_A, ln_P, ln_I, ln_2, ln_Team, ln_Side, ln_Rink]; omega))) only [b0, b1, b2, cV_ok, t1, t2, kd_Team, ln_Team, hk, kd_2, al_TW, wP_TW, wI_p1, wI_m1, wI_0, wI_150, A2_TW, is_TW, sz_TW, P_TW, n_TW, x_TW, ok_TW, ln_A, ln_P, ln_I, ln_2, kd_A, zz_A, gP_A, kd_P, zz_P, gP_P, kd_I, zz_I, gP_I, if_neg, if_pos, decide_true, bq_0, nr_m1, nr_150, nr_00, nr_01, in_06, reduceIte, and_self, Bool.not_false, Bool.and_self, cond_true, tN_0, ng_0, bk_0, bh_0, tN_1, ng_1, bk_1, bh_1, tN_2, ng_2, bk_2, bh_2, tN_4, ng_4, bk_4, bh_4, tN_6, ng_6, bk_6, bh_6, tN_8, ng_8, bk_8, bh_8, tN_9, ng_9, bk_9, bh_9, tN_11, ng_11, bk_11, bh_11, tN_16, ng_16, bk_16, bh_16, tN_22, ng_22, bk_22, bh_22, tN_64, ng_64, bk_64, bh_64, tN_89, ng_89, bk_89, bh_89, tN_120, ng_120, bk_120, bh_120, tN_500, ng_500, bk_500, bh_500, tN_671, ng_671, bk_671, bh_671, tN_890, ng_890, bk_890, bh_890, tN_1424, ng_1424, bk_1424]
  rfl
def wReader (w : Wd) (a0 : Nat) : Wd := oP a0 3 (w.1.length + 16) (oAl 101 500 (oI a0 ((2 : Nat) : Int) (-1) (oP a0 0 (w.1.length + 1) (wRink (oAl 7 5 w) (w.1.length + 1)))))
theorem i_Reader (d : Nat) (hd : 2 < d) (a0 : Nat) (h0 : 0 < a0) (h1 : a0 ≤ w.1.length) (hk : kd w.1 a0 = 6) : D_Reader_init d (TW w O L) a0 = some (.inl none, TW (wReader w a0) O L) := by
  have b0 : Nat.blt 0 d = true := Nat.blt_eq.mpr (by omega)
  have b1 : Nat.blt 0 a0 = true := Nat.blt_eq.mpr h0
  have b2 : ∀ n, Nat.blt 0 (n + 1) = true := fun n => Nat.blt_eq.mpr (by omega)
  have t1 := i_Rink (w := oAl 7 5 w) (O := O) (L := L) (d - 1) (by omega) (w.1.length + 1) (by omega) (by rw [ln_A]; omega) (by rw [kd_A, if_pos rfl])
  rw [eD_Reader_init]
  simp (disch := (first | omega | (simp only [ln_A, ln_P, ln_I, ln_2, ln_Team, ln_Side, ln_Rink]; omega))) only [b0, b1, b2, cV_ok, t1, kd_Rink, ln_Rink, hk, kd_2, al_TW, wP_TW, wI_p1, wI_m1, wI_0, wI_150, A2_TW, is_TW, sz_TW, P_TW, n_TW, x_TW, ok_TW, ln_A, ln_P, ln_I, ln_2, kd_A, zz_A, gP_A, kd_P, zz_P, gP_P, kd_I, zz_I, gP_I, if_neg, if_pos, decide_true, bq_0, nr_m1, nr_150, nr_00, nr_01, in_06, reduceIte, and_self, Bool.not_false, Bool.and_self, cond_true, tN_0, ng_0, bk_0, bh_0, tN_1, ng_1, bk_1, bh_1, tN_2, ng_2, bk_2, bh_2, tN_4, ng_4, bk_4, bh_4, tN_6, ng_6, bk_6, bh_6, tN_8, ng_8, bk_8, bh_8, tN_9, ng_9, bk_9, bh_9, tN_11, ng_11, bk_11, bh_11, tN_16, ng_16, bk_16, bh_16, tN_22, ng_22, bk_22, bh_22, tN_64, ng_64, bk_64, bh_64, tN_89, ng_89, bk_89, bh_89, tN_120, ng_120, bk_120, bh_120, tN_500, ng_500, bk_500, bh_500, tN_671, ng_671, bk_671, bh_671, tN_890, ng_890, bk_890, bh_890, tN_1424, ng_1424, bk_1424]
  rfl
/-- what stands while Ahead's rows are made -/
def AhF (w : Wd) : Prop := kd w.1 67 = 2 ∧ gP w.1 67 1 = 68 ∧ gP w.1 67 2 = 69 ∧ kd w.1 2 = 7 ∧ gP w.1 2 0 = 3 ∧ gP w.1 2 1 = 10 ∧ (kd w.1 68 = 103 ∧ zz w.1 68 = 9) ∧ (kd w.1 69 = 103 ∧ zz w.1 69 = 9) ∧ 71 ≤ w.1.length
def wAh1 (w : Wd) (i : Nat) : Wd := oP 68 i (w.1.length + 1) (wSide (oAl 9 7 w) (w.1.length + 1) 3)
def wAh (w : Wd) (i : Nat) : Wd := oP 69 i (w.1.length + 5) (wSide (oAl 9 7 (wAh1 w i)) (w.1.length + 5) 10)
theorem ah_fin : ∀ i : Fin 9, mm_lt (nI i.val) 9 = true ∧ Int32.toNatClampNeg (nI i.val) = i.val ∧ nI i.val + 1 = nI (i.val + 1) ∧ mm_in (nI i.val) 9 = true := by decide
theorem ah_step (d : Nat) (hd : 1 < d) (i : Nat) (hi : i < 9) (h : AhF w) : L_Ahead_init_45 d (TW w O L) 67 2 (nI i) = L_Ahead_init_45 d (TW (wAh w i) O L) 67 2 (nI (i + 1)) ∧ AhF (wAh w i) := by
  obtain ⟨f1, f2, f3, f4, f5, f6, ⟨f7, f8⟩, ⟨f9, f10⟩, f11⟩ := h
  obtain ⟨e1, e2, e3, e4⟩ := ah_fin ⟨i, hi⟩
  simp only at e1 e2 e3 e4
  have b0 : Nat.blt 0 d = true := Nat.blt_eq.mpr (by omega)
  have b2 : ∀ n, Nat.blt 0 (n + 1) = true := fun n => Nat.blt_eq.mpr (by omega)
  have l1 : (wAh1 w i).1.length = w.1.length + 4 := by
    unfold wAh1
    simp only [ln_P, ln_Side, ln_A]
  have t1 := i_Side (w := oAl 9 7 w) (O := O) (L := L) (d - 1) (by omega) (w.1.length + 1) 3 (by omega) (by rw [ln_A]; omega) (by rw [kd_A, if_pos rfl])
  have t2 := i_Side (w := oAl 9 7 (wAh1 w i)) (O := O) (L := L) (d - 1) (by omega) (w.1.length + 5) 10 (by omega) (by rw [ln_A, l1]; omega) (by rw [kd_A, l1, if_pos (by omega)])
  have kA : ∀ b, b ≤ w.1.length → kd (wAh1 w i).1 b = kd w.1 b ∧ zz (wAh1 w i).1 b = zz w.1 b := by
    intro b hb
    unfold wAh1
    constructor
    · simp (disch := (first | omega | (simp only [ln_A, ln_P, ln_I, ln_2, ln_Team, ln_Side, ln_Rink]; omega))) only [kd_P, kd_Side, kd_A, ln_A, if_neg]
    · simp (disch := (first | omega | (simp only [ln_A, ln_P, ln_I, ln_2, ln_Team, ln_Side, ln_Rink]; omega))) only [zz_P, zz_Side, zz_A, ln_A, if_neg]
  have gA : ∀ b k, b ≤ w.1.length → b ≠ 68 → gP (wAh1 w i).1 b k = gP w.1 b k := by
    intro b k hb hn
    unfold wAh1
    simp (disch := (first | omega | (simp only [ln_A, ln_P, ln_I, ln_2, ln_Team, ln_Side, ln_Rink]; omega))) only [gP_P, gP_Side, gP_A, ln_A, ln_Side, if_neg]
  have l2 : (wAh w i).1.length = w.1.length + 8 := by
    unfold wAh
    simp only [ln_P, ln_Side, ln_A, l1]
  have kB : ∀ b, b ≤ w.1.length → kd (wAh w i).1 b = kd w.1 b ∧ zz (wAh w i).1 b = zz w.1 b := by
    intro b hb
    unfold wAh
    have hb2 : b ≤ (oAl 9 7 (wAh1 w i)).1.length := by rw [ln_A, l1]; omega
    constructor
    · rw [kd_P, kd_Side _ _ hb2, kd_A, l1, if_neg (by omega), (kA b hb).1]
    · rw [zz_P, zz_Side _ _ hb2, zz_A, l1, if_neg (by omega), (kA b hb).2]
  have gB : ∀ b k, b ≤ w.1.length → b ≠ 68 → b ≠ 69 → gP (wAh w i).1 b k = gP w.1 b k := by
    intro b k hb hn hm
    unfold wAh
    have hb2 : b ≤ (oAl 9 7 (wAh1 w i)).1.length := by rw [ln_A, l1]; omega
    rw [gP_P _ _ _ _ (by omega) (by rw [ln_Side, ln_A, l1]; omega), if_neg (by omega), gP_Side _ _ _ (by omega) (by rw [ln_A, l1]; omega) hb2 (by omega), gP_A, l1, if_neg (by omega), gA b k hb hn]
  refine ⟨?_, ?_⟩
  · have m1 : mm_al (TW w O L) 9 7 = TW (oAl 9 7 w) O L := al_TW 9 7
    have k1 : ∀ b, b ≤ w.1.length + 1 → kd (wSide (oAl 9 7 w) (w.1.length + 1) 3).1 b = kd (oAl 9 7 w).1 b := fun b hb => kd_Side _ _ (by rw [ln_A]; exact hb)
    have z1 : ∀ b, b ≤ w.1.length + 1 → zz (wSide (oAl 9 7 w) (w.1.length + 1) 3).1 b = zz (oAl 9 7 w).1 b := fun b hb => zz_Side _ _ (by rw [ln_A]; exact hb)
    have s1 : (wSide (oAl 9 7 w) (w.1.length + 1) 3).1.length = w.1.length + 4 := by simp only [ln_Side, ln_A]
    have m2 : mm_wP (TW (wSide (oAl 9 7 w) (w.1.length + 1) 3) O L) 68 i (w.1.length + 1) = TW (wAh1 w i) O L := wP_TW _ _ (by omega) (by rw [s1]; omega)
    have m3 : mm_al (TW (wAh1 w i) O L) 9 7 = TW (oAl 9 7 (wAh1 w i)) O L := al_TW 9 7
    have k2 : ∀ b, b ≤ w.1.length + 5 → kd (wSide (oAl 9 7 (wAh1 w i)) (w.1.length + 5) 10).1 b = kd (oAl 9 7 (wAh1 w i)).1 b := fun b hb => kd_Side _ _ (by rw [ln_A, l1]; omega)
    have z2 : ∀ b, b ≤ w.1.length + 5 → zz (wSide (oAl 9 7 (wAh1 w i)) (w.1.length + 5) 10).1 b = zz (oAl 9 7 (wAh1 w i)).1 b := fun b hb => zz_Side _ _ (by rw [ln_A, l1]; omega)
    have m4 : mm_wP (TW (wSide (oAl 9 7 (wAh1 w i)) (w.1.length + 5) 10) O L) 69 i (w.1.length + 5) = TW (wAh w i) O L := wP_TW _ _ (by omega) (by rw [ln_Side, ln_A, l1]; omega)
    have a67 := (kA 67 (by omega)).1
    have a2 := (kA 2 (by omega)).1
    have a69 := kA 69 (by omega)
    have g67 := gA 67 2 (by omega) (by decide)
    have g2 := gA 2 1 (by omega) (by decide)
    rw [eL_Ahead_init_45]
    simp (disch := omega) only [e1, e2, e3, e4, b0, b2, f1, f2, f3, f4, f5, f6, f7, f8, f9, f10, n_TW, x_TW, is_TW, sz_TW, P_TW, ok_TW, m1, t1, m2, m3, t2, m4, k1, z1, k2, z2, s1, l1, a67, a2, a69.1, a69.2, g67, g2, kd_A, zz_A, gP_A, if_neg, if_pos, cV_ok, reduceIte, decide_true, bq_0, Bool.and_self, cond_true]
  · refine ⟨(kB 67 (by omega)).1.trans f1, (gB 67 1 (by omega) (by decide) (by decide)).trans f2, (gB 67 2 (by omega) (by decide) (by decide)).trans f3, (kB 2 (by omega)).1.trans f4, (gB 2 0 (by omega) (by decide) (by decide)).trans f5, (gB 2 1 (by omega) (by decide) (by decide)).trans f6, ⟨(kB 68 (by omega)).1.trans f7, (kB 68 (by omega)).2.trans f8⟩, ⟨(kB 69 (by omega)).1.trans f9, (kB 69 (by omega)).2.trans f10⟩, by rw [l2]; omega⟩
def wAhs : Nat → Nat → Wd → Wd
  | 0, _, w => w
  | m + 1, i, w => wAhs m (i + 1) (wAh w i)
theorem ah_loop (d : Nat) (hd : 1 < d) : ∀ (m i : Nat) (w : Wd), m + i = 9 → AhF w → L_Ahead_init_45 d (TW w O L) 67 2 (nI i) = L_Ahead_init_45 d (TW (wAhs m i w) O L) 67 2 (nI 9) ∧ AhF (wAhs m i w)
  | 0, i, w, hm, h => by
    have : i = 9 := by omega
    subst this
    exact ⟨rfl, h⟩
  | m + 1, i, w, hm, h => by
    have s := ah_step (O := O) (L := L) d hd i (by omega) h
    have r := ah_loop d hd m (i + 1) (wAh w i) (by omega) s.2
    exact ⟨s.1.trans r.1, r.2⟩
def wAhd0 (w : Wd) : Wd := oP 67 0 2 (oP 67 4 71 (oAl 100 9 (oP 67 3 70 (oAl 100 9 (oP 67 2 69 (oAl 103 9 (oP 67 1 68 (oAl 103 9 w))))))))
def wAhead (w : Wd) : Wd := oI 67 ((9 : Nat) : Int) (-1) (oP 67 6 68 (oP 67 5 69 (wAhs 9 0 (wAhd0 w))))
theorem i_Ahead (d : Nat) (hd : 1 < d) (hl : w.1.length = 67) (f1 : kd w.1 67 = 2) (f4 : kd w.1 2 = 7) (f5 : gP w.1 2 0 = 3) (f6 : gP w.1 2 1 = 10) : D_Ahead_init d (TW w O L) 67 2 = some (.inl none, TW (wAhead w) O L) := by
  have b0 : Nat.blt 0 d = true := Nat.blt_eq.mpr (by omega)
  have b1 : Nat.blt 0 67 = true := by decide
  have hF : AhF (wAhd0 w) := by
    unfold wAhd0
    refine ⟨?_, ?_, ?_, ?_, ?_, ?_, ⟨?_, ?_⟩, ⟨?_, ?_⟩, ?_⟩
    all_goals simp (disch := (first | omega | (simp only [ln_A, ln_P]; omega))) only [kd_P, kd_A, zz_P, zz_A, gP_P, gP_A, ln_P, ln_A, hl, if_neg, if_pos, and_self, reduceIte, f1, f4, f5, f6]
    omega
  obtain ⟨r1, r2⟩ := ah_loop (O := O) (L := L) d hd 9 0 (wAhd0 w) rfl hF
  have st : D_Ahead_init d (TW w O L) 67 2 = L_Ahead_init_45 d (TW (wAhd0 w) O L) 67 2 (nI 0) := by
    rw [eD_Ahead_init]
    simp (disch := (first | omega | (simp only [ln_A, ln_P, ln_I, ln_2, ln_Team, ln_Side, ln_Rink]; omega))) only [b0, b1, hl, f1, kd_2, al_TW, wP_TW, wI_p1, wI_m1, wI_0, wI_150, A2_TW, is_TW, sz_TW, P_TW, n_TW, x_TW, ok_TW, ln_A, ln_P, ln_I, ln_2, kd_A, zz_A, gP_A, kd_P, zz_P, gP_P, kd_I, zz_I, gP_I, if_neg, if_pos, decide_true, bq_0, nr_m1, nr_150, nr_00, nr_01, in_06, reduceIte, and_self, Bool.not_false, Bool.and_self, cond_true, tN_0, ng_0, bk_0, bh_0, tN_1, ng_1, bk_1, bh_1, tN_2, ng_2, bk_2, bh_2, tN_4, ng_4, bk_4, bh_4, tN_6, ng_6, bk_6, bh_6, tN_8, ng_8, bk_8, bh_8, tN_9, ng_9, bk_9, bh_9, tN_11, ng_11, bk_11, bh_11, tN_16, ng_16, bk_16, bh_16, tN_22, ng_22, bk_22, bh_22, tN_64, ng_64, bk_64, bh_64, tN_89, ng_89, bk_89, bh_89, tN_120, ng_120, bk_120, bh_120, tN_500, ng_500, bk_500, bh_500, tN_671, ng_671, bk_671, bh_671, tN_890, ng_890, bk_890, bh_890, tN_1424, ng_1424, bk_1424]
    rfl
  rw [st, r1]
  obtain ⟨g1, g2, g3, -, -, -, -, -, g9⟩ := r2
  have l9 : mm_lt (nI 9) 9 = false := by decide
  have p1 : mm_wP (TW (wAhs 9 0 (wAhd0 w)) O L) 67 5 69 = TW (oP 67 5 69 (wAhs 9 0 (wAhd0 w))) O L := wP_TW _ _ (by omega) (by omega)
  have p2 : mm_wP (TW (oP 67 5 69 (wAhs 9 0 (wAhd0 w))) O L) 67 6 68 = TW (oP 67 6 68 (oP 67 5 69 (wAhs 9 0 (wAhd0 w)))) O L := wP_TW _ _ (by omega) (by rw [ln_P]; omega)
  have p3 : gP (oP 67 5 69 (wAhs 9 0 (wAhd0 w))).1 67 1 = 68 := by
    rw [gP_P _ _ _ _ (by omega) (by omega), if_neg (by omega)]
    exact g2
  rw [eL_Ahead_init_45]
  simp only [l9, cond_false, g1, g2, g3, is_TW, P_TW, p1, p2, p3, kd_P, nr_m1, wI_m1, decide_true, Bool.and_self, cond_true]
  rfl
end CS
