/-! ===== the class's constructor (printed by mk7p.py) ===== -/
section CL
variable {O : UInt32 → Nat → Int32} {L : UInt32 → Nat}
def wl0 : Wd := oAl 12 13 ([], fun _ _ => 0, 0)
def wu1 : Wd := oAl 7 5 wl0
def wl1 : Wd := wRink wu1 2
theorem lu1 : wu1.1.length = 2 := by decide +kernel
theorem ll1 : wl1.1.length = 16 := by decide +kernel
theorem ka1 : kd wu1.1 2 = 7 := by decide +kernel
theorem kb1 : kd wu1.1 1 = 12 := by decide +kernel
theorem kc1 : kd wl1.1 1 = 12 := by decide +kernel
def wu2 : Wd := oAl 7 5 (oP 1 0 2 wl1)
def wl2 : Wd := wRink wu2 17
theorem lu2 : wu2.1.length = 17 := by decide +kernel
theorem ll2 : wl2.1.length = 31 := by decide +kernel
theorem ka2 : kd wu2.1 17 = 7 := by decide +kernel
theorem kb2 : kd wu2.1 1 = 12 := by decide +kernel
theorem kc2 : kd wl2.1 1 = 12 := by decide +kernel
def wu3 : Wd := oAl 6 12 (oP 1 1 17 wl2)
def wl3 : Wd := wReader wu3 32
theorem lu3 : wu3.1.length = 32 := by decide +kernel
theorem ll3 : wl3.1.length = 48 := by decide +kernel
theorem ka3 : kd wu3.1 32 = 6 := by decide +kernel
theorem kb3 : kd wu3.1 1 = 12 := by decide +kernel
theorem kc3 : kd wl3.1 1 = 12 := by decide +kernel
def wu4 : Wd := oAl 1 3 (oP 1 2 32 wl3)
def wl4 : Wd := wActs wu4 49
theorem lu4 : wu4.1.length = 49 := by decide +kernel
theorem ll4 : wl4.1.length = 66 := by decide +kernel
theorem ka4 : kd wu4.1 49 = 1 := by decide +kernel
theorem kb4 : kd wu4.1 1 = 12 := by decide +kernel
theorem kc4 : kd wl4.1 1 = 12 := by decide +kernel
def wu5 : Wd := oAl 2 10 (oP 1 3 49 wl4)
def wl5 : Wd := wAhead wu5
theorem lu5 : wu5.1.length = 67 := by decide +kernel
theorem ll5 : wl5.1.length = 143 := by decide +kernel
theorem ka5 : kd wu5.1 67 = 2 := by decide +kernel
theorem kb5 : kd wu5.1 1 = 12 := by decide +kernel
theorem kc5 : kd wl5.1 1 = 12 := by decide +kernel
theorem pa5 : kd wu5.1 2 = 7 ∧ gP wu5.1 2 0 = 3 ∧ gP wu5.1 2 1 = 10 := by decide +kernel
theorem pb5 : gP wu5.1 1 0 = 2 := by decide +kernel
def wu6 : Wd := oAl 8 6 (oP 1 4 67 wl5)
def wl6 : Wd := wRotation wu6 144 67
theorem lu6 : wu6.1.length = 144 := by decide +kernel
theorem ll6 : wl6.1.length = 148 := by decide +kernel
theorem ka6 : kd wu6.1 144 = 8 := by decide +kernel
theorem kb6 : kd wu6.1 1 = 12 := by decide +kernel
theorem kc6 : kd wl6.1 1 = 12 := by decide +kernel
theorem pc6 : gP wu6.1 1 4 = 67 := by decide +kernel
def wu7 : Wd := oAl 4 4 (oP 1 5 144 wl6)
def wl7 : Wd := wGiving wu7 149 2
theorem lu7 : wu7.1.length = 149 := by decide +kernel
theorem ll7 : wl7.1.length = 151 := by decide +kernel
theorem ka7 : kd wu7.1 149 = 4 := by decide +kernel
theorem kb7 : kd wu7.1 1 = 12 := by decide +kernel
theorem kc7 : kd wl7.1 1 = 12 := by decide +kernel
theorem pb7 : gP wu7.1 1 0 = 2 := by decide +kernel
def wu8 : Wd := oAl 5 3 (oP 1 6 149 wl7)
def wl8 : Wd := wPull wu8 152
theorem lu8 : wu8.1.length = 152 := by decide +kernel
theorem ll8 : wl8.1.length = 155 := by decide +kernel
theorem ka8 : kd wu8.1 152 = 5 := by decide +kernel
theorem kb8 : kd wu8.1 1 = 12 := by decide +kernel
theorem kc8 : kd wl8.1 1 = 12 := by decide +kernel
def wu9 : Wd := oAl 3 6 (oP 1 7 152 wl8)
def wl9 : Wd := wGames wu9 156 2 67
theorem lu9 : wu9.1.length = 156 := by decide +kernel
theorem ll9 : wl9.1.length = 157 := by decide +kernel
theorem ka9 : kd wu9.1 156 = 3 := by decide +kernel
theorem kb9 : kd wu9.1 1 = 12 := by decide +kernel
theorem kc9 : kd wl9.1 1 = 12 := by decide +kernel
theorem pb9 : gP wu9.1 1 0 = 2 := by decide +kernel
theorem pc9 : gP wu9.1 1 4 = 67 := by decide +kernel
def wu10 : Wd := oAl 10 2 (oP 1 8 156 wl9)
def wl10 : Wd := wSpeech wu10 158
theorem lu10 : wu10.1.length = 158 := by decide +kernel
theorem ll10 : wl10.1.length = 159 := by decide +kernel
theorem ka10 : kd wu10.1 158 = 10 := by decide +kernel
theorem kb10 : kd wu10.1 1 = 12 := by decide +kernel
theorem kc10 : kd wl10.1 1 = 12 := by decide +kernel
def wl11 : Wd := oI 1 ((12 : Nat) : Int) (-1) (oI 1 ((11 : Nat) : Int) 0 (oP 1 10 160 (oAl 100 16 (oP 1 9 158 wl10))))
theorem lk0 : kd wl0.1 1 = 12 ∧ wl0.1.length = 1 := by decide +kernel
theorem lk11 : kd (oAl 100 16 (oP 1 9 158 wl10)).1 1 = 12 ∧ (oAl 100 16 (oP 1 9 158 wl10)).1.length = 160 := by decide +kernel
theorem i_LC (d : Nat) (hd : 5 < d) : D_LC_init d (TW wl0 O L) 1 = some (.inl none, TW wl11 O L) := by
  have b0 : Nat.blt 0 d = true := Nat.blt_eq.mpr (by omega)
  have b1 : ∀ n, Nat.blt 0 (n + 1) = true := fun n => Nat.blt_eq.mpr (by omega)
  have r1 : mm_al (TW wl0 O L) 7 5 = TW wu1 O L := al_TW _ _
  have t1 : D_Rink_init (d - 1) (TW wu1 O L) 2 = some (.inl none, TW wl1 O L) := i_Rink (d - 1) (by omega) 2 (by omega) (by rw [lu1]; omega) ka1
  have q2 : mm_wP (TW wl1 O L) 1 0 2 = TW (oP 1 0 2 wl1) O L := wP_TW _ _ (by omega) (by rw [ll1]; omega)
  have r2 : mm_al (TW (oP 1 0 2 wl1) O L) 7 5 = TW wu2 O L := al_TW _ _
  have t2 : D_Rink_init (d - 1) (TW wu2 O L) 17 = some (.inl none, TW wl2 O L) := i_Rink (d - 1) (by omega) 17 (by omega) (by rw [lu2]; omega) ka2
  have q3 : mm_wP (TW wl2 O L) 1 1 17 = TW (oP 1 1 17 wl2) O L := wP_TW _ _ (by omega) (by rw [ll2]; omega)
  have r3 : mm_al (TW (oP 1 1 17 wl2) O L) 6 12 = TW wu3 O L := al_TW _ _
  have t3 : D_Reader_init (d - 1) (TW wu3 O L) 32 = some (.inl none, TW wl3 O L) := i_Reader (d - 1) (by omega) 32 (by omega) (by rw [lu3]; omega) ka3
  have q4 : mm_wP (TW wl3 O L) 1 2 32 = TW (oP 1 2 32 wl3) O L := wP_TW _ _ (by omega) (by rw [ll3]; omega)
  have r4 : mm_al (TW (oP 1 2 32 wl3) O L) 1 3 = TW wu4 O L := al_TW _ _
  have t4 : D_Acts_init (d - 1) (TW wu4 O L) 49 = some (.inl none, TW wl4 O L) := i_Acts (d - 1) (by omega) 49 (by omega) (by rw [lu4]; omega) ka4
  have q5 : mm_wP (TW wl4 O L) 1 3 49 = TW (oP 1 3 49 wl4) O L := wP_TW _ _ (by omega) (by rw [ll4]; omega)
  have r5 : mm_al (TW (oP 1 3 49 wl4) O L) 2 10 = TW wu5 O L := al_TW _ _
  have t5 : D_Ahead_init (d - 1) (TW wu5 O L) 67 2 = some (.inl none, TW wl5 O L) := i_Ahead (d - 1) (by omega) lu5 ka5 pa5.1 pa5.2.1 pa5.2.2
  have q6 : mm_wP (TW wl5 O L) 1 4 67 = TW (oP 1 4 67 wl5) O L := wP_TW _ _ (by omega) (by rw [ll5]; omega)
  have r6 : mm_al (TW (oP 1 4 67 wl5) O L) 8 6 = TW wu6 O L := al_TW _ _
  have t6 : D_Rotation_init (d - 1) (TW wu6 O L) 144 67 = some (.inl none, TW wl6 O L) := i_Rotation (d - 1) (by omega) 144 67 (by omega) (by rw [lu6]; omega) ka6
  have q7 : mm_wP (TW wl6 O L) 1 5 144 = TW (oP 1 5 144 wl6) O L := wP_TW _ _ (by omega) (by rw [ll6]; omega)
  have r7 : mm_al (TW (oP 1 5 144 wl6) O L) 4 4 = TW wu7 O L := al_TW _ _
  have t7 : D_Giving_init (d - 1) (TW wu7 O L) 149 2 = some (.inl none, TW wl7 O L) := i_Giving (d - 1) (by omega) 149 2 (by omega) (by rw [lu7]; omega) ka7
  have q8 : mm_wP (TW wl7 O L) 1 6 149 = TW (oP 1 6 149 wl7) O L := wP_TW _ _ (by omega) (by rw [ll7]; omega)
  have r8 : mm_al (TW (oP 1 6 149 wl7) O L) 5 3 = TW wu8 O L := al_TW _ _
  have t8 : D_Pull_init (d - 1) (TW wu8 O L) 152 = some (.inl none, TW wl8 O L) := i_Pull (d - 1) (by omega) 152 (by omega) (by rw [lu8]; omega) ka8
  have q9 : mm_wP (TW wl8 O L) 1 7 152 = TW (oP 1 7 152 wl8) O L := wP_TW _ _ (by omega) (by rw [ll8]; omega)
  have r9 : mm_al (TW (oP 1 7 152 wl8) O L) 3 6 = TW wu9 O L := al_TW _ _
  have t9 : D_Games_init (d - 1) (TW wu9 O L) 156 2 67 = some (.inl none, TW wl9 O L) := i_Games (d - 1) (by omega) 156 2 67 (by omega) (by rw [lu9]; omega) ka9
  have q10 : mm_wP (TW wl9 O L) 1 8 156 = TW (oP 1 8 156 wl9) O L := wP_TW _ _ (by omega) (by rw [ll9]; omega)
  have r10 : mm_al (TW (oP 1 8 156 wl9) O L) 10 2 = TW wu10 O L := al_TW _ _
  have t10 : D_Speech_init (d - 1) (TW wu10 O L) 158 = some (.inl none, TW wl10 O L) := i_Speech (d - 1) (by omega) 158 (by omega) (by rw [lu10]; omega) ka10
  have q11 : mm_wP (TW wl10 O L) 1 9 158 = TW (oP 1 9 158 wl10) O L := wP_TW _ _ (by omega) (by rw [ll10]; omega)
  have q12 : mm_wP (TW (oAl 100 16 (oP 1 9 158 wl10)) O L) 1 10 160 = TW (oP 1 10 160 (oAl 100 16 (oP 1 9 158 wl10))) O L := wP_TW _ _ (by omega) (by rw [lk11.2]; omega)
  rw [eD_LC_init]
  simp only [b0, b1, cV_ok, lk0.1, lk0.2, lk11.1, lk11.2, q11, q12, r1, t1, ll1, kb1, kc1, q2, r2, t2, ll2, kb2, kc2, q3, r3, t3, ll3, kb3, kc3, q4, r4, t4, ll4, kb4, kc4, q5, r5, t5, ll5, kb5, kc5, pb5, q6, r6, t6, ll6, kb6, kc6, pc6, q7, r7, t7, ll7, kb7, kc7, pb7, q8, r8, t8, ll8, kb8, kc8, q9, r9, t9, ll9, kb9, kc9, pb9, pc9, q10, r10, t10, ll10, kb10, kc10, al_TW, is_TW, P_TW, n_TW, x_TW, kd_P, kd_I, wI_0, wI_m1, nr_00, nr_m1, decide_true, bq_0, tN_16, ng_16, bk_16, Nat.reduceAdd, Bool.not_false, Bool.and_self, cond_true]
  rfl
end CL
