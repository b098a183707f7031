/-! ===== the places behind the two constructors (printed by skgen.py) ===== -/
def sh_L : List (Nat × Nat) := [(0, 0), (12, 13), (7, 5), (11, 13), (100, 6), (100, 6), (100, 6), (100, 6), (100, 6), (100, 6), (11, 13), (100, 6), (100, 6), (100, 6), (100, 6), (100, 6), (100, 6), (7, 5), (11, 13), (100, 6), (100, 6), (100, 6), (100, 6), (100, 6), (100, 6), (11, 13), (100, 6), (100, 6), (100, 6), (100, 6), (100, 6), (100, 6), (6, 12), (7, 5), (11, 13), (100, 6), (100, 6), (100, 6), (100, 6), (100, 6), (100, 6), (11, 13), (100, 6), (100, 6), (100, 6), (100, 6), (100, 6), (100, 6), (101, 500), (1, 3), (104, 16), (100, 22), (100, 22), (100, 22), (100, 22), (100, 22), (100, 22), (100, 22), (100, 22), (100, 22), (100, 22), (100, 22), (100, 22), (100, 22), (100, 22), (100, 22), (100, 22), (2, 10), (103, 9), (103, 9), (100, 9), (100, 9), (9, 7), (100, 6), (100, 6), (100, 6), (9, 7), (100, 6), (100, 6), (100, 6), (9, 7), (100, 6), (100, 6), (100, 6), (9, 7), (100, 6), (100, 6), (100, 6), (9, 7), (100, 6), (100, 6), (100, 6), (9, 7), (100, 6), (100, 6), (100, 6), (9, 7), (100, 6), (100, 6), (100, 6), (9, 7), (100, 6), (100, 6), (100, 6), (9, 7), (100, 6), (100, 6), (100, 6), (9, 7), (100, 6), (100, 6), (100, 6), (9, 7), (100, 6), (100, 6), (100, 6), (9, 7), (100, 6), (100, 6), (100, 6), (9, 7), (100, 6), (100, 6), (100, 6), (9, 7), (100, 6), (100, 6), (100, 6), (9, 7), (100, 6), (100, 6), (100, 6), (9, 7), (100, 6), (100, 6), (100, 6), (9, 7), (100, 6), (100, 6), (100, 6), (9, 7), (100, 6), (100, 6), (100, 6), (8, 6), (100, 8), (100, 8), (100, 9), (100, 8), (4, 4), (100, 4), (100, 4), (5, 3), (100, 11), (100, 11), (100, 11), (3, 6), (100, 22), (10, 2), (101, 64), (100, 16), (13, 42), (100, 890), (100, 89), (100, 1424), (100, 89), (101, 500), (100, 8), (100, 8), (100, 8), (100, 4), (100, 4), (100, 16), (100, 16), (100, 16), (100, 671), (100, 11), (100, 2), (101, 120), (102, 1)]
def pt_L : List (List Nat) := [[], [2, 17, 32, 49, 67, 144, 149, 152, 156, 158, 160], [3, 10], [0, 0, 0, 0, 0, 0, 0, 4, 5, 6, 7, 8, 9], [], [], [], [], [], [], [0, 0, 0, 0, 0, 0, 0, 11, 12, 13, 14, 15, 16], [], [], [], [], [], [], [18, 25], [0, 0, 0, 0, 0, 0, 0, 19, 20, 21, 22, 23, 24], [], [], [], [], [], [], [0, 0, 0, 0, 0, 0, 0, 26, 27, 28, 29, 30, 31], [], [], [], [], [], [], [33, 0, 0, 48], [34, 41], [0, 0, 0, 0, 0, 0, 0, 35, 36, 37, 38, 39, 40], [], [], [], [], [], [], [0, 0, 0, 0, 0, 0, 0, 42, 43, 44, 45, 46, 47], [], [], [], [], [], [], [], [50], [51, 52, 53, 54, 55, 56, 57, 58, 59, 60, 61, 62, 63, 64, 65, 66], [], [], [], [], [], [], [], [], [], [], [], [], [], [], [], [], [2, 68, 69, 70, 71, 69, 68], [72, 80, 88, 96, 104, 112, 120, 128, 136], [76, 84, 92, 100, 108, 116, 124, 132, 140], [], [], [3, 73, 74, 75], [], [], [], [10, 77, 78, 79], [], [], [], [3, 81, 82, 83], [], [], [], [10, 85, 86, 87], [], [], [], [3, 89, 90, 91], [], [], [], [10, 93, 94, 95], [], [], [], [3, 97, 98, 99], [], [], [], [10, 101, 102, 103], [], [], [], [3, 105, 106, 107], [], [], [], [10, 109, 110, 111], [], [], [], [3, 113, 114, 115], [], [], [], [10, 117, 118, 119], [], [], [], [3, 121, 122, 123], [], [], [], [10, 125, 126, 127], [], [], [], [3, 129, 130, 131], [], [], [], [10, 133, 134, 135], [], [], [], [3, 137, 138, 139], [], [], [], [10, 141, 142, 143], [], [], [], [67, 145, 146, 147, 148], [], [], [], [], [2, 150, 151], [], [], [153, 154, 155], [], [], [], [2, 67, 157], [], [159], [], [], [0, 162, 163, 164, 165, 0, 0, 166, 0, 0, 0, 0, 0, 0, 0, 0, 0, 0, 0, 0, 0, 167, 168, 169, 0, 0, 170, 171, 172, 173, 174, 0, 175, 176, 0, 0, 0, 177, 0, 0, 178], [], [], [], [], [], [], [], [], [], [], [], [], [], [], [], [], [], []]
def SH (a : Nat) : Nat × Nat := sh_L.getD a (0, 0)
def PT (a k : Nat) : Nat := (pt_L.getD a []).getD k 0
/-- kinds and sizes of all places, and references that never change (all but Ahead's two) -/
def SK (h : mm_M) : Prop := mm_S h = SH ∧ ∀ a k, ¬ (a = 67 ∧ (k = 5 ∨ k = 6)) → mm_P h a k = PT a k
theorem SK_is {h : mm_M} (hs : SK h) (a t : Nat) : mm_is h a t = decide ((SH a).1 = t) := by unfold mm_is; rw [hs.1]
theorem SK_sz {h : mm_M} (hs : SK h) (a : Nat) : mm_sz h a = (SH a).2 := by unfold mm_sz; rw [hs.1]
theorem SK_wI {h : mm_M} {a k : Nat} {x : Int32} (hs : SK h) : SK (mm_wI h a k x) := hs
theorem SK_wJ {h : mm_M} {a k : Nat} {x : Int64} (hs : SK h) : SK (mm_wJ h a k x) := hs
theorem SK_cp {h : mm_M} {a b sp dp n : Nat} (hs : SK h) : SK (mm_cp h a sp b dp n) := hs
theorem SK_th {h : mm_M} (hs : SK h) : SK (mm_th h) := hs
/-! memory behind a write -/
theorem wI_I (h : mm_M) (a k : Nat) (x : Int32) (b j : Nat) : mm_I (mm_wI h a k x) b j = if b = a ∧ j = k then x else mm_I h b j := rfl
theorem wI_J (h : mm_M) (a k : Nat) (x : Int32) : mm_J (mm_wI h a k x) = mm_J h := rfl
theorem wI_P (h : mm_M) (a k : Nat) (x : Int32) : mm_P (mm_wI h a k x) = mm_P h := rfl
theorem wI_S (h : mm_M) (a k : Nat) (x : Int32) : mm_S (mm_wI h a k x) = mm_S h := rfl
theorem wI_is (h : mm_M) (a k : Nat) (x : Int32) (b t : Nat) : mm_is (mm_wI h a k x) b t = mm_is h b t := rfl
theorem wI_sz (h : mm_M) (a k : Nat) (x : Int32) (b : Nat) : mm_sz (mm_wI h a k x) b = mm_sz h b := rfl
theorem wI_ar (h : mm_M) (a k : Nat) (x : Int32) (b : Nat) : mm_ar (mm_wI h a k x) b = mm_ar h b := rfl
theorem wI_O (h : mm_M) (a k : Nat) (x : Int32) : mm_O (mm_wI h a k x) = mm_O h := rfl
theorem wI_L (h : mm_M) (a k : Nat) (x : Int32) : mm_L (mm_wI h a k x) = mm_L h := rfl
theorem wI_n (h : mm_M) (a k : Nat) (x : Int32) : mm_n (mm_wI h a k x) = mm_n h := rfl
theorem wI_x (h : mm_M) (a k : Nat) (x : Int32) : mm_x (mm_wI h a k x) = mm_x h := rfl
theorem wI_s (h : mm_M) (a k : Nat) (x : Int32) : mm_s (mm_wI h a k x) = mm_s h := rfl
/-! calls that have come back -/
theorem cI_ok (v : Int32) (h : mm_M) (k : Int32 → mm_M → Option am_R) (x : Nat → mm_M → Option am_R) : am_cI (some (.inl (some (.int v)), h)) k x = k v h := rfl
theorem cR_ok (v : Nat) (h : mm_M) (k : Nat → mm_M → Option am_R) (x : Nat → mm_M → Option am_R) : am_cR (some (.inl (some (.ref v)), h)) k x = k v h := rfl
theorem cJ_ok (v : Int64) (h : mm_M) (k : Int64 → mm_M → Option am_R) (x : Nat → mm_M → Option am_R) : am_cJ (some (.inl (some (.long v)), h)) k x = k v h := rfl
theorem cV_ok (h : mm_M) (k : mm_M → Option am_R) (x : Nat → mm_M → Option am_R) : am_cV (some (.inl none, h)) k x = k h := rfl
theorem cI_th (e : Nat) (h : mm_M) (k : Int32 → mm_M → Option am_R) (x : Nat → mm_M → Option am_R) : am_cI (some (.inr e, h)) k x = x e h := rfl
theorem cR_th (e : Nat) (h : mm_M) (k : Nat → mm_M → Option am_R) (x : Nat → mm_M → Option am_R) : am_cR (some (.inr e, h)) k x = x e h := rfl
theorem cV_th (e : Nat) (h : mm_M) (k : mm_M → Option am_R) (x : Nat → mm_M → Option am_R) : am_cV (some (.inr e, h)) k x = x e h := rfl
theorem bl_0 {d : Nat} (h : 0 < d) : Nat.blt 0 d = true := Nat.ble_eq.mpr h
theorem nr_0 (x : Int32) : mm_nr 0 x = true := rfl
theorem nr_10 : mm_nr 1 0 = true := by decide
theorem nr_11 : mm_nr 1 1 = true := by decide
/-- a truth value as an int -/
def bo (b : Bool) : Int32 := cond b 1 0
theorem bo_nr (b : Bool) : mm_nr 1 (bo b) = true := by cases b <;> decide
theorem bo_0 (b : Bool) : mm_eq (bo b) 0 = !b := by cases b <;> decide
theorem bo_t : (1 : Int32) = bo true := rfl
theorem bo_f : (0 : Int32) = bo false := rfl
theorem ki_1 {h : mm_M} (hs : SK h) : mm_is h 1 12 = true := by rw [SK_is hs]; rfl
theorem kp_1_0 {h : mm_M} (hs : SK h) : mm_P h 1 0 = 2 := by rw [hs.2 _ _ (by decide)]; rfl
theorem kp_1_1 {h : mm_M} (hs : SK h) : mm_P h 1 1 = 17 := by rw [hs.2 _ _ (by decide)]; rfl
theorem kp_1_2 {h : mm_M} (hs : SK h) : mm_P h 1 2 = 32 := by rw [hs.2 _ _ (by decide)]; rfl
theorem kp_1_3 {h : mm_M} (hs : SK h) : mm_P h 1 3 = 49 := by rw [hs.2 _ _ (by decide)]; rfl
theorem kp_1_4 {h : mm_M} (hs : SK h) : mm_P h 1 4 = 67 := by rw [hs.2 _ _ (by decide)]; rfl
theorem kp_1_5 {h : mm_M} (hs : SK h) : mm_P h 1 5 = 144 := by rw [hs.2 _ _ (by decide)]; rfl
theorem kp_1_6 {h : mm_M} (hs : SK h) : mm_P h 1 6 = 149 := by rw [hs.2 _ _ (by decide)]; rfl
theorem kp_1_7 {h : mm_M} (hs : SK h) : mm_P h 1 7 = 152 := by rw [hs.2 _ _ (by decide)]; rfl
theorem kp_1_8 {h : mm_M} (hs : SK h) : mm_P h 1 8 = 156 := by rw [hs.2 _ _ (by decide)]; rfl
theorem kp_1_9 {h : mm_M} (hs : SK h) : mm_P h 1 9 = 158 := by rw [hs.2 _ _ (by decide)]; rfl
theorem kp_1_10 {h : mm_M} (hs : SK h) : mm_P h 1 10 = 160 := by rw [hs.2 _ _ (by decide)]; rfl
theorem ki_2 {h : mm_M} (hs : SK h) : mm_is h 2 7 = true := by rw [SK_is hs]; rfl
theorem kp_2_0 {h : mm_M} (hs : SK h) : mm_P h 2 0 = 3 := by rw [hs.2 _ _ (by decide)]; rfl
theorem kp_2_1 {h : mm_M} (hs : SK h) : mm_P h 2 1 = 10 := by rw [hs.2 _ _ (by decide)]; rfl
theorem ki_17 {h : mm_M} (hs : SK h) : mm_is h 17 7 = true := by rw [SK_is hs]; rfl
theorem kp_17_0 {h : mm_M} (hs : SK h) : mm_P h 17 0 = 18 := by rw [hs.2 _ _ (by decide)]; rfl
theorem kp_17_1 {h : mm_M} (hs : SK h) : mm_P h 17 1 = 25 := by rw [hs.2 _ _ (by decide)]; rfl
theorem ki_32 {h : mm_M} (hs : SK h) : mm_is h 32 6 = true := by rw [SK_is hs]; rfl
theorem kp_32_0 {h : mm_M} (hs : SK h) : mm_P h 32 0 = 33 := by rw [hs.2 _ _ (by decide)]; rfl
theorem kp_32_3 {h : mm_M} (hs : SK h) : mm_P h 32 3 = 48 := by rw [hs.2 _ _ (by decide)]; rfl
theorem ki_33 {h : mm_M} (hs : SK h) : mm_is h 33 7 = true := by rw [SK_is hs]; rfl
theorem kp_33_0 {h : mm_M} (hs : SK h) : mm_P h 33 0 = 34 := by rw [hs.2 _ _ (by decide)]; rfl
theorem kp_33_1 {h : mm_M} (hs : SK h) : mm_P h 33 1 = 41 := by rw [hs.2 _ _ (by decide)]; rfl
theorem ki_48 {h : mm_M} (hs : SK h) : mm_is h 48 101 = true := by rw [SK_is hs]; rfl
theorem kz_48 {h : mm_M} (hs : SK h) : mm_sz h 48 = 500 := by rw [SK_sz hs]; rfl
theorem ki_49 {h : mm_M} (hs : SK h) : mm_is h 49 1 = true := by rw [SK_is hs]; rfl
theorem kp_49_0 {h : mm_M} (hs : SK h) : mm_P h 49 0 = 50 := by rw [hs.2 _ _ (by decide)]; rfl
theorem ki_50 {h : mm_M} (hs : SK h) : mm_is h 50 104 = true := by rw [SK_is hs]; rfl
theorem kz_50 {h : mm_M} (hs : SK h) : mm_sz h 50 = 16 := by rw [SK_sz hs]; rfl
theorem ki_67 {h : mm_M} (hs : SK h) : mm_is h 67 2 = true := by rw [SK_is hs]; rfl
theorem kp_67_0 {h : mm_M} (hs : SK h) : mm_P h 67 0 = 2 := by rw [hs.2 _ _ (by decide)]; rfl
theorem kp_67_1 {h : mm_M} (hs : SK h) : mm_P h 67 1 = 68 := by rw [hs.2 _ _ (by decide)]; rfl
theorem kp_67_2 {h : mm_M} (hs : SK h) : mm_P h 67 2 = 69 := by rw [hs.2 _ _ (by decide)]; rfl
theorem kp_67_3 {h : mm_M} (hs : SK h) : mm_P h 67 3 = 70 := by rw [hs.2 _ _ (by decide)]; rfl
theorem kp_67_4 {h : mm_M} (hs : SK h) : mm_P h 67 4 = 71 := by rw [hs.2 _ _ (by decide)]; rfl
theorem ki_68 {h : mm_M} (hs : SK h) : mm_is h 68 103 = true := by rw [SK_is hs]; rfl
theorem kz_68 {h : mm_M} (hs : SK h) : mm_sz h 68 = 9 := by rw [SK_sz hs]; rfl
theorem ki_69 {h : mm_M} (hs : SK h) : mm_is h 69 103 = true := by rw [SK_is hs]; rfl
theorem kz_69 {h : mm_M} (hs : SK h) : mm_sz h 69 = 9 := by rw [SK_sz hs]; rfl
theorem ki_70 {h : mm_M} (hs : SK h) : mm_is h 70 100 = true := by rw [SK_is hs]; rfl
theorem kz_70 {h : mm_M} (hs : SK h) : mm_sz h 70 = 9 := by rw [SK_sz hs]; rfl
theorem ki_71 {h : mm_M} (hs : SK h) : mm_is h 71 100 = true := by rw [SK_is hs]; rfl
theorem kz_71 {h : mm_M} (hs : SK h) : mm_sz h 71 = 9 := by rw [SK_sz hs]; rfl
theorem ki_144 {h : mm_M} (hs : SK h) : mm_is h 144 8 = true := by rw [SK_is hs]; rfl
theorem kp_144_0 {h : mm_M} (hs : SK h) : mm_P h 144 0 = 67 := by rw [hs.2 _ _ (by decide)]; rfl
theorem kp_144_1 {h : mm_M} (hs : SK h) : mm_P h 144 1 = 145 := by rw [hs.2 _ _ (by decide)]; rfl
theorem kp_144_2 {h : mm_M} (hs : SK h) : mm_P h 144 2 = 146 := by rw [hs.2 _ _ (by decide)]; rfl
theorem kp_144_3 {h : mm_M} (hs : SK h) : mm_P h 144 3 = 147 := by rw [hs.2 _ _ (by decide)]; rfl
theorem kp_144_4 {h : mm_M} (hs : SK h) : mm_P h 144 4 = 148 := by rw [hs.2 _ _ (by decide)]; rfl
theorem ki_145 {h : mm_M} (hs : SK h) : mm_is h 145 100 = true := by rw [SK_is hs]; rfl
theorem kz_145 {h : mm_M} (hs : SK h) : mm_sz h 145 = 8 := by rw [SK_sz hs]; rfl
theorem ki_146 {h : mm_M} (hs : SK h) : mm_is h 146 100 = true := by rw [SK_is hs]; rfl
theorem kz_146 {h : mm_M} (hs : SK h) : mm_sz h 146 = 8 := by rw [SK_sz hs]; rfl
theorem ki_147 {h : mm_M} (hs : SK h) : mm_is h 147 100 = true := by rw [SK_is hs]; rfl
theorem kz_147 {h : mm_M} (hs : SK h) : mm_sz h 147 = 9 := by rw [SK_sz hs]; rfl
theorem ki_148 {h : mm_M} (hs : SK h) : mm_is h 148 100 = true := by rw [SK_is hs]; rfl
theorem kz_148 {h : mm_M} (hs : SK h) : mm_sz h 148 = 8 := by rw [SK_sz hs]; rfl
theorem ki_149 {h : mm_M} (hs : SK h) : mm_is h 149 4 = true := by rw [SK_is hs]; rfl
theorem kp_149_0 {h : mm_M} (hs : SK h) : mm_P h 149 0 = 2 := by rw [hs.2 _ _ (by decide)]; rfl
theorem kp_149_1 {h : mm_M} (hs : SK h) : mm_P h 149 1 = 150 := by rw [hs.2 _ _ (by decide)]; rfl
theorem kp_149_2 {h : mm_M} (hs : SK h) : mm_P h 149 2 = 151 := by rw [hs.2 _ _ (by decide)]; rfl
theorem ki_150 {h : mm_M} (hs : SK h) : mm_is h 150 100 = true := by rw [SK_is hs]; rfl
theorem kz_150 {h : mm_M} (hs : SK h) : mm_sz h 150 = 4 := by rw [SK_sz hs]; rfl
theorem ki_151 {h : mm_M} (hs : SK h) : mm_is h 151 100 = true := by rw [SK_is hs]; rfl
theorem kz_151 {h : mm_M} (hs : SK h) : mm_sz h 151 = 4 := by rw [SK_sz hs]; rfl
theorem ki_152 {h : mm_M} (hs : SK h) : mm_is h 152 5 = true := by rw [SK_is hs]; rfl
theorem kp_152_0 {h : mm_M} (hs : SK h) : mm_P h 152 0 = 153 := by rw [hs.2 _ _ (by decide)]; rfl
theorem kp_152_1 {h : mm_M} (hs : SK h) : mm_P h 152 1 = 154 := by rw [hs.2 _ _ (by decide)]; rfl
theorem kp_152_2 {h : mm_M} (hs : SK h) : mm_P h 152 2 = 155 := by rw [hs.2 _ _ (by decide)]; rfl
theorem ki_153 {h : mm_M} (hs : SK h) : mm_is h 153 100 = true := by rw [SK_is hs]; rfl
theorem kz_153 {h : mm_M} (hs : SK h) : mm_sz h 153 = 11 := by rw [SK_sz hs]; rfl
theorem ki_154 {h : mm_M} (hs : SK h) : mm_is h 154 100 = true := by rw [SK_is hs]; rfl
theorem kz_154 {h : mm_M} (hs : SK h) : mm_sz h 154 = 11 := by rw [SK_sz hs]; rfl
theorem ki_155 {h : mm_M} (hs : SK h) : mm_is h 155 100 = true := by rw [SK_is hs]; rfl
theorem kz_155 {h : mm_M} (hs : SK h) : mm_sz h 155 = 11 := by rw [SK_sz hs]; rfl
theorem ki_156 {h : mm_M} (hs : SK h) : mm_is h 156 3 = true := by rw [SK_is hs]; rfl
theorem kp_156_0 {h : mm_M} (hs : SK h) : mm_P h 156 0 = 2 := by rw [hs.2 _ _ (by decide)]; rfl
theorem kp_156_1 {h : mm_M} (hs : SK h) : mm_P h 156 1 = 67 := by rw [hs.2 _ _ (by decide)]; rfl
theorem kp_156_2 {h : mm_M} (hs : SK h) : mm_P h 156 2 = 157 := by rw [hs.2 _ _ (by decide)]; rfl
theorem ki_157 {h : mm_M} (hs : SK h) : mm_is h 157 100 = true := by rw [SK_is hs]; rfl
theorem kz_157 {h : mm_M} (hs : SK h) : mm_sz h 157 = 22 := by rw [SK_sz hs]; rfl
theorem ki_158 {h : mm_M} (hs : SK h) : mm_is h 158 10 = true := by rw [SK_is hs]; rfl
theorem kp_158_0 {h : mm_M} (hs : SK h) : mm_P h 158 0 = 159 := by rw [hs.2 _ _ (by decide)]; rfl
theorem ki_159 {h : mm_M} (hs : SK h) : mm_is h 159 101 = true := by rw [SK_is hs]; rfl
theorem kz_159 {h : mm_M} (hs : SK h) : mm_sz h 159 = 64 := by rw [SK_sz hs]; rfl
theorem ki_160 {h : mm_M} (hs : SK h) : mm_is h 160 100 = true := by rw [SK_is hs]; rfl
theorem kz_160 {h : mm_M} (hs : SK h) : mm_sz h 160 = 16 := by rw [SK_sz hs]; rfl
theorem ki_161 {h : mm_M} (hs : SK h) : mm_is h 161 13 = true := by rw [SK_is hs]; rfl
theorem kp_161_1 {h : mm_M} (hs : SK h) : mm_P h 161 1 = 162 := by rw [hs.2 _ _ (by decide)]; rfl
theorem kp_161_2 {h : mm_M} (hs : SK h) : mm_P h 161 2 = 163 := by rw [hs.2 _ _ (by decide)]; rfl
theorem kp_161_3 {h : mm_M} (hs : SK h) : mm_P h 161 3 = 164 := by rw [hs.2 _ _ (by decide)]; rfl
theorem kp_161_4 {h : mm_M} (hs : SK h) : mm_P h 161 4 = 165 := by rw [hs.2 _ _ (by decide)]; rfl
theorem kp_161_7 {h : mm_M} (hs : SK h) : mm_P h 161 7 = 166 := by rw [hs.2 _ _ (by decide)]; rfl
theorem kp_161_21 {h : mm_M} (hs : SK h) : mm_P h 161 21 = 167 := by rw [hs.2 _ _ (by decide)]; rfl
theorem kp_161_22 {h : mm_M} (hs : SK h) : mm_P h 161 22 = 168 := by rw [hs.2 _ _ (by decide)]; rfl
theorem kp_161_23 {h : mm_M} (hs : SK h) : mm_P h 161 23 = 169 := by rw [hs.2 _ _ (by decide)]; rfl
theorem kp_161_26 {h : mm_M} (hs : SK h) : mm_P h 161 26 = 170 := by rw [hs.2 _ _ (by decide)]; rfl
theorem kp_161_27 {h : mm_M} (hs : SK h) : mm_P h 161 27 = 171 := by rw [hs.2 _ _ (by decide)]; rfl
theorem kp_161_28 {h : mm_M} (hs : SK h) : mm_P h 161 28 = 172 := by rw [hs.2 _ _ (by decide)]; rfl
theorem kp_161_29 {h : mm_M} (hs : SK h) : mm_P h 161 29 = 173 := by rw [hs.2 _ _ (by decide)]; rfl
theorem kp_161_30 {h : mm_M} (hs : SK h) : mm_P h 161 30 = 174 := by rw [hs.2 _ _ (by decide)]; rfl
theorem kp_161_32 {h : mm_M} (hs : SK h) : mm_P h 161 32 = 175 := by rw [hs.2 _ _ (by decide)]; rfl
theorem kp_161_33 {h : mm_M} (hs : SK h) : mm_P h 161 33 = 176 := by rw [hs.2 _ _ (by decide)]; rfl
theorem kp_161_37 {h : mm_M} (hs : SK h) : mm_P h 161 37 = 177 := by rw [hs.2 _ _ (by decide)]; rfl
theorem kp_161_40 {h : mm_M} (hs : SK h) : mm_P h 161 40 = 178 := by rw [hs.2 _ _ (by decide)]; rfl
theorem ki_162 {h : mm_M} (hs : SK h) : mm_is h 162 100 = true := by rw [SK_is hs]; rfl
theorem kz_162 {h : mm_M} (hs : SK h) : mm_sz h 162 = 890 := by rw [SK_sz hs]; rfl
theorem ki_163 {h : mm_M} (hs : SK h) : mm_is h 163 100 = true := by rw [SK_is hs]; rfl
theorem kz_163 {h : mm_M} (hs : SK h) : mm_sz h 163 = 89 := by rw [SK_sz hs]; rfl
theorem ki_164 {h : mm_M} (hs : SK h) : mm_is h 164 100 = true := by rw [SK_is hs]; rfl
theorem kz_164 {h : mm_M} (hs : SK h) : mm_sz h 164 = 1424 := by rw [SK_sz hs]; rfl
theorem ki_165 {h : mm_M} (hs : SK h) : mm_is h 165 100 = true := by rw [SK_is hs]; rfl
theorem kz_165 {h : mm_M} (hs : SK h) : mm_sz h 165 = 89 := by rw [SK_sz hs]; rfl
theorem ki_166 {h : mm_M} (hs : SK h) : mm_is h 166 101 = true := by rw [SK_is hs]; rfl
theorem kz_166 {h : mm_M} (hs : SK h) : mm_sz h 166 = 500 := by rw [SK_sz hs]; rfl
theorem ki_167 {h : mm_M} (hs : SK h) : mm_is h 167 100 = true := by rw [SK_is hs]; rfl
theorem kz_167 {h : mm_M} (hs : SK h) : mm_sz h 167 = 8 := by rw [SK_sz hs]; rfl
theorem ki_168 {h : mm_M} (hs : SK h) : mm_is h 168 100 = true := by rw [SK_is hs]; rfl
theorem kz_168 {h : mm_M} (hs : SK h) : mm_sz h 168 = 8 := by rw [SK_sz hs]; rfl
theorem ki_169 {h : mm_M} (hs : SK h) : mm_is h 169 100 = true := by rw [SK_is hs]; rfl
theorem kz_169 {h : mm_M} (hs : SK h) : mm_sz h 169 = 8 := by rw [SK_sz hs]; rfl
theorem ki_170 {h : mm_M} (hs : SK h) : mm_is h 170 100 = true := by rw [SK_is hs]; rfl
theorem kz_170 {h : mm_M} (hs : SK h) : mm_sz h 170 = 4 := by rw [SK_sz hs]; rfl
theorem ki_171 {h : mm_M} (hs : SK h) : mm_is h 171 100 = true := by rw [SK_is hs]; rfl
theorem kz_171 {h : mm_M} (hs : SK h) : mm_sz h 171 = 4 := by rw [SK_sz hs]; rfl
theorem ki_172 {h : mm_M} (hs : SK h) : mm_is h 172 100 = true := by rw [SK_is hs]; rfl
theorem kz_172 {h : mm_M} (hs : SK h) : mm_sz h 172 = 16 := by rw [SK_sz hs]; rfl
theorem ki_173 {h : mm_M} (hs : SK h) : mm_is h 173 100 = true := by rw [SK_is hs]; rfl
theorem kz_173 {h : mm_M} (hs : SK h) : mm_sz h 173 = 16 := by rw [SK_sz hs]; rfl
theorem ki_174 {h : mm_M} (hs : SK h) : mm_is h 174 100 = true := by rw [SK_is hs]; rfl
theorem kz_174 {h : mm_M} (hs : SK h) : mm_sz h 174 = 16 := by rw [SK_sz hs]; rfl
theorem ki_175 {h : mm_M} (hs : SK h) : mm_is h 175 100 = true := by rw [SK_is hs]; rfl
theorem kz_175 {h : mm_M} (hs : SK h) : mm_sz h 175 = 671 := by rw [SK_sz hs]; rfl
theorem ki_176 {h : mm_M} (hs : SK h) : mm_is h 176 100 = true := by rw [SK_is hs]; rfl
theorem kz_176 {h : mm_M} (hs : SK h) : mm_sz h 176 = 11 := by rw [SK_sz hs]; rfl
theorem ki_177 {h : mm_M} (hs : SK h) : mm_is h 177 100 = true := by rw [SK_is hs]; rfl
theorem kz_177 {h : mm_M} (hs : SK h) : mm_sz h 177 = 2 := by rw [SK_sz hs]; rfl
theorem ki_178 {h : mm_M} (hs : SK h) : mm_is h 178 101 = true := by rw [SK_is hs]; rfl
theorem kz_178 {h : mm_M} (hs : SK h) : mm_sz h 178 = 120 := by rw [SK_sz hs]; rfl
theorem ki_179 {h : mm_M} (hs : SK h) : mm_is h 179 102 = true := by rw [SK_is hs]; rfl
theorem kz_179 {h : mm_M} (hs : SK h) : mm_sz h 179 = 1 := by rw [SK_sz hs]; rfl
