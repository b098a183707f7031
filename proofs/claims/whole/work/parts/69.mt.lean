/-! ===== rows kept in order: meetings, who is most rested ===== -/
theorem iI_nat (n : Nat) : iI (n : Int) = nI n := Int32.ofInt_eq_ofNat
theorem iI_bv (v : Int) : (iI v).toBitVec.toNat = (v % 4294967296).toNat := by
  show (BitVec.ofInt 32 v).toNat = _
  rw [BitVec.toNat_ofInt]
  rfl
theorem sh_r {v : Int} {s : Int32} {k : Nat} (hs : (s.toBitVec.smod 32).toNat = k) (h : -2147483648 ≤ v) (h' : v < 2147483648) (hk : rg (v / (2 ^ k : Nat))) : iI v >>> s = iI (v / (2 ^ k : Nat)) := by
  apply Int32.toInt_inj.mp
  rw [pk_shr _ _ k hs, iI_toInt ⟨h, h'⟩, iI_toInt hk, Int.shiftRight_eq_div_pow]
theorem sr6 {v : Int} (h : -2147483648 ≤ v) (h' : v < 2147483648) : iI v >>> (iI 6 &&& iI 31) = iI (v / 64) := sh_r (k := 6) (by decide) h h' ⟨by show -2147483648 ≤ v / 64; omega, by show v / 64 < 2147483648; omega⟩
theorem sr3 {v : Int} (h : -2147483648 ≤ v) (h' : v < 2147483648) : iI v >>> (iI 3 &&& iI 31) = iI (v / 8) := sh_r (k := 3) (by decide) h h' ⟨by show -2147483648 ≤ v / 8; omega, by show v / 8 < 2147483648; omega⟩
theorem an7 (v : Int) : iI v &&& iI 7 = iI (v % 8) := by
  rw [pk_and (iI v) 3 (by decide), iI_bv, ← iI_nat]
  congr 1
  show (((v % 4294967296).toNat % 8 : Nat) : Int) = v % 8
  omega
theorem sl10 {v : Int} (h : 0 ≤ v) (h' : v ≤ 15) : iI v <<< (iI 10 &&& iI 31) = iI (v * 1024) := by
  obtain ⟨n, rfl⟩ := Int.eq_ofNat_of_zero_le h
  rw [iI_nat, pk_shlN _ 10 (by decide) (by omega), ← iI_nat]
  congr 1
theorem sl3 {v : Int} (h : 0 ≤ v) (h' : v ≤ 99) : iI v <<< (iI 3 &&& iI 31) = iI (v * 8) := by
  obtain ⟨n, rfl⟩ := Int.eq_ofNat_of_zero_le h
  rw [iI_nat, pk_shlN _ 3 (by decide) (by omega), ← iI_nat]
  congr 1
def insF : Nat → (Int → Int) → Int → (Int → Int)
  | 0, K, key => up K 0 key
  | n + 1, K, key => if key < K n then insF n (up K ((n : Int) + 1) (K n)) key else up K ((n : Int) + 1) key
theorem insF_s (n : Nat) (K : Int → Int) (key : Int) : insF (n + 1) K key = if key < K n then insF n (up K ((n : Int) + 1) (K n)) key else up K ((n : Int) + 1) key := rfl
theorem insF_gt : ∀ (n : Nat) (K : Int → Int) (key j : Int), (n : Int) < j → insF n K key j = K j
  | 0, K, key, j, h => up_ne (by omega)
  | n + 1, K, key, j, h => by
    unfold insF
    split
    · rw [insF_gt n _ key j (by omega), up_ne (by omega)]
    · rw [up_ne (by omega)]
theorem insF_cg : ∀ (n : Nat) (K K' : Int → Int) (key : Int), (∀ j : Int, 0 ≤ j → j < (n : Int) → K j = K' j) → ∀ j : Int, 0 ≤ j → j ≤ (n : Int) → insF n K key j = insF n K' key j
  | 0, K, K', key, h, j, h0, h1 => by
    have e : j = 0 := by omega
    subst e
    unfold insF
    rw [up_eq, up_eq]
  | n + 1, K, K', key, h, j, h0, h1 => by
    unfold insF
    rw [h n (by omega) (by omega)]
    split
    · by_cases e : j ≤ (n : Int)
      · exact insF_cg n _ _ key (fun i i0 i1 => by
          rw [up_ne (by omega), up_ne (by omega)]
          exact h i i0 (by omega)) j h0 e
      · have ej : j = (n : Int) + 1 := by omega
        rw [insF_gt n _ key j (by omega), insF_gt n _ key j (by omega), ej, up_eq, up_eq]
    · by_cases e : j = (n : Int) + 1
      · rw [e, up_eq, up_eq]
      · rw [up_ne e, up_ne e]; exact h j h0 (by omega)
theorem insF_all (P : Int → Prop) : ∀ (n : Nat) (K : Int → Int) (key : Int), P key → (∀ j : Int, 0 ≤ j → j < (n : Int) → P (K j)) → ∀ j : Int, 0 ≤ j → j ≤ (n : Int) → P (insF n K key j)
  | 0, K, key, hk, h, j, h0, h1 => by
    have e : j = 0 := by omega
    subst e
    unfold insF
    rw [up_eq]; exact hk
  | n + 1, K, key, hk, h, j, h0, h1 => by
    unfold insF
    split
    · by_cases e : j ≤ (n : Int)
      · exact insF_all P n _ key hk (fun i i0 i1 => by
          rw [up_ne (by omega)]
          exact h i i0 (by omega)) j h0 e
      · have ej : j = (n : Int) + 1 := by omega
        rw [insF_gt n _ key j (by omega), ej, up_eq]
        exact h n (by omega) (by omega)
    · by_cases e : j = (n : Int) + 1
      · rw [e, up_eq]; exact hk
      · rw [up_ne e]; exact h j h0 (by omega)
/-! counting -/
def cnt (K : Int → Int) : Nat → Int → Int
  | 0, _ => 0
  | n + 1, c => cnt K n c + if K n < c then 1 else 0
theorem cnt_s (K : Int → Int) (n : Nat) (c : Int) : cnt K (n + 1) c = cnt K n c + if K n < c then 1 else 0 := rfl
theorem cnt_cg : ∀ (n : Nat) (K K' : Int → Int) (c : Int), (∀ j : Int, 0 ≤ j → j < (n : Int) → K j = K' j) → cnt K n c = cnt K' n c
  | 0, _, _, _, _ => rfl
  | n + 1, K, K', c, h => by
    rw [cnt_s, cnt_s, cnt_cg n K K' c (fun j a b => h j a (by omega)), h n (by omega) (by omega)]
theorem cnt_ins : ∀ (n : Nat) (K : Int → Int) (key c : Int), cnt (insF n K key) (n + 1) c = cnt K n c + if key < c then 1 else 0
  | 0, K, key, c => by
    rw [cnt_s]
    show 0 + (if up K 0 key 0 < c then (1 : Int) else 0) = 0 + _
    rw [up_eq]
  | n + 1, K, key, c => by
    rw [cnt_s, cnt_s K n c]
    unfold insF
    by_cases q : key < K n
    · rw [if_pos q, cnt_ins n _ key c, insF_gt n _ key _ (by omega), show ((n + 1 : Nat) : Int) = (n : Int) + 1 by omega, up_eq, cnt_cg n _ K c (fun j a b => up_ne (by omega))]
      omega
    · rw [if_neg q, cnt_cg (n + 1) _ K c (fun j a b => up_ne (by omega)), show ((n + 1 : Nat) : Int) = (n : Int) + 1 by omega, up_eq, cnt_s]
theorem cnt_full : ∀ (n : Nat) (K : Int → Int) (c : Int), (∀ j : Int, 0 ≤ j → j < (n : Int) → K j < c) → cnt K n c = n
  | 0, _, _, _ => rfl
  | n + 1, K, c, h => by
    rw [cnt_s, cnt_full n K c (fun j a b => h j a (by omega)), if_pos (h n (by omega) (by omega))]
    omega
def asc (K : Int → Int) (n : Nat) : Prop := ∀ i j : Int, 0 ≤ i → i < j → j < (n : Int) → K i < K j
theorem asc_ins : ∀ (n : Nat) (K : Int → Int) (key : Int), asc K n → (∀ j : Int, 0 ≤ j → j < (n : Int) → K j ≠ key) → asc (insF n K key) (n + 1)
  | 0, K, key, _, _ => fun i j a b c => by omega
  | n + 1, K, key, h, hn => by
    intro i j i0 ij jn
    unfold insF
    by_cases q : key < K n
    · rw [if_pos q]
      have as : asc (up K ((n : Int) + 1) (K n)) n := fun a b a0 ab bn => by
        rw [up_ne (by omega), up_ne (by omega)]
        exact h a b a0 ab (by omega)
      have nn : ∀ j : Int, 0 ≤ j → j < (n : Int) → up K ((n : Int) + 1) (K n) j ≠ key := fun a a0 an => by
        rw [up_ne (by omega)]
        exact hn a a0 (by omega)
      by_cases e : j ≤ (n : Int)
      · exact asc_ins n _ key as nn i j i0 ij (by omega)
      · have lt := insF_all (fun z => z < K n) n (up K ((n : Int) + 1) (K n)) key q (fun a a0 an => by
          show up K ((n : Int) + 1) (K n) a < K n
          rw [up_ne (by omega)]
          exact h a n a0 (by omega) (by omega)) i i0 (by omega)
        have ej : j = (n : Int) + 1 := by omega
        rw [insF_gt n _ key j (by omega), ej, up_eq]
        exact lt
    · rw [if_neg q]
      have ne := hn n (by omega) (by omega)
      by_cases e : j = (n : Int) + 1
      · rw [up_ne (by omega), e, up_eq]
        by_cases e2 : i = n
        · rw [e2]; omega
        · have := h i n i0 (by omega) (by omega)
          omega
      · rw [up_ne (by omega), up_ne e]
        exact h i j i0 ij (by omega)
theorem cnt_asc : ∀ (n : Nat) (K : Int → Int), asc K n → ∀ k : Int, 0 ≤ k → k < (n : Int) → cnt K n (K k) = k
  | 0, _, _, k, a, b => by omega
  | n + 1, K, h, k, a, b => by
    rw [cnt_s]
    by_cases e : k = n
    · rw [e, cnt_full n K _ (fun j j0 j1 => h j n j0 j1 (by omega)), if_neg (by omega)]
      omega
    · have := h k n a (by omega) (by omega)
      rw [cnt_asc n K (fun i j i0 ij jn => h i j i0 ij (by omega)) k a (by omega), if_neg (by omega)]
      omega
theorem cnt_mono : ∀ (n : Nat) (K : Int → Int) (c c' : Int), c ≤ c' → cnt K n c ≤ cnt K n c'
  | 0, _, _, _, _ => Int.le_refl _
  | n + 1, K, c, c', h => by
    rw [cnt_s, cnt_s]
    have := cnt_mono n K c c' h
    by_cases e : K n < c
    · rw [if_pos e, if_pos (by omega)]; omega
    · rw [if_neg e]
      split <;> omega
theorem cnt_lt : ∀ (n : Nat) (K : Int → Int) (c c' u : Int), c < c' → 0 ≤ u → u < (n : Int) → K u = c → cnt K n c < cnt K n c'
  | 0, _, _, _, _, _, a, b, _ => by omega
  | n + 1, K, c, c', u, h, a, b, e => by
    rw [cnt_s, cnt_s]
    by_cases q : u = n
    · subst q
      have := cnt_mono n K c c' (by omega)
      rw [if_neg (by omega), if_pos (by omega)]
      omega
    · have := cnt_lt n K c c' u h a (by omega) e
      by_cases z : K n < c
      · rw [if_pos z, if_pos (by omega)]; omega
      · rw [if_neg z]
        split <;> omega
theorem uA_up {A : Am} {p : Nat} {i v : Int} : uA A p i v p = up (A p) i v := by
  funext j
  by_cases c : j = i
  · rw [c, uA_eq, up_eq]
  · rw [uA_k _ c, up_ne c]
/-! ===== who is most rested ===== -/
def cd (σ : Rw) (t u : Int) : Int := (15 - uf σ t u 5) * 1024 + (99 - pw σ t u 0) * 8 + u
def rsS (σ : Rw) (t : Int) : Nat → (Int → Int)
  | 0 => fun _ => 0
  | n + 1 => insF n (rsS σ t n) (cd σ t n)
def spRested (σ : Rw) (t k : Int) : Int ⊕ Nat := if (t = 0 ∨ t = 1) ∧ (0 ≤ k ∧ k < un σ t) then .inl (rsS σ t (un σ t).toNat k % 8) else .inr 2
theorem cd_rg {σ : Rw} {t u : Int} (hw : wT σ t) (u0 : 0 ≤ u) (u1 : u < un σ t) : 0 ≤ cd σ t u ∧ cd σ t u ≤ 20000 ∧ cd σ t u % 8 = u := by
  have w6 := un_6 hw
  have p := pw_rg hw u0 u1 (w := 0) (.inl rfl)
  obtain ⟨-, -, b2, -, -, b5⟩ := hw.2.2.2.2.2.2.2 u u0 u1
  unfold cd
  omega
theorem rsS_cnt (σ : Rw) (t c : Int) : ∀ n : Nat, cnt (rsS σ t n) n c = cnt (cd σ t) n c
  | 0 => rfl
  | n + 1 => by
    unfold rsS
    rw [cnt_ins, rsS_cnt σ t c n]
    rfl
theorem rsS_el {σ : Rw} {t : Int} : ∀ (n : Nat) (j : Int), 0 ≤ j → j < (n : Int) → ∃ u, 0 ≤ u ∧ u < (n : Int) ∧ rsS σ t n j = cd σ t u
  | 0, j, a, b => by omega
  | n + 1, j, a, b => by
    unfold rsS
    refine insF_all (fun z => ∃ u, 0 ≤ u ∧ u < ((n + 1 : Nat) : Int) ∧ z = cd σ t u) n _ _ ⟨n, by omega, by omega, rfl⟩ (fun i i0 i1 => ?_) j a (by omega)
    obtain ⟨u, u0, u1, e⟩ := rsS_el (σ := σ) (t := t) n i i0 i1
    exact ⟨u, u0, by omega, e⟩
theorem rsS_asc {σ : Rw} {t : Int} (hw : wT σ t) : ∀ n : Nat, (n : Int) ≤ un σ t → asc (rsS σ t n) n
  | 0, _ => fun i j a b c => by omega
  | n + 1, h => by
    unfold rsS
    refine asc_ins n _ _ (rsS_asc hw n (by omega)) (fun j j0 j1 e => ?_)
    obtain ⟨u, u0, u1, e'⟩ := rsS_el (σ := σ) (t := t) n j j0 j1
    have a := cd_rg hw u0 (by omega)
    have b := cd_rg (u := (n : Int)) hw (by omega) (by omega)
    rw [e'] at e
    omega
/-- the k-th most rested -/
theorem rs_kth {σ : Rw} {t k : Int} (hw : wT σ t) (k0 : 0 ≤ k) (k1 : k < un σ t) : (0 ≤ rsS σ t (un σ t).toNat k % 8 ∧ rsS σ t (un σ t).toNat k % 8 < un σ t) ∧ ∀ u, 0 ≤ u → u < un σ t → (cnt (cd σ t) (un σ t).toNat (cd σ t u) = k ↔ u = rsS σ t (un σ t).toNat k % 8) := by
  have w6 := un_6 hw
  have hn : (((un σ t).toNat : Nat) : Int) = un σ t := by omega
  obtain ⟨v, v0, v1, e⟩ := rsS_el (σ := σ) (t := t) (un σ t).toNat k k0 (by omega)
  have c := cnt_asc _ _ (rsS_asc hw (un σ t).toNat (by omega)) k k0 (by omega)
  have a := cd_rg hw v0 (by omega)
  rw [e, rsS_cnt] at c
  rw [e, a.2.2]
  refine ⟨⟨v0, by omega⟩, fun u u0 u1 => ⟨fun q => ?_, fun q => by rw [q]; exact c⟩⟩
  have b := cd_rg hw u0 u1
  by_cases z : cd σ t u < cd σ t v
  · have := cnt_lt (un σ t).toNat (cd σ t) _ _ u z u0 (by omega) rfl
    omega
  · by_cases z' : cd σ t v < cd σ t u
    · have := cnt_lt (un σ t).toNat (cd σ t) _ _ v z' v0 (by omega) rfl
      omega
    · omega
section RS
variable {A : Am} {E : En} {S : St} {σ : Rw} {t u x y k w i : Int}
theorem on16 : Int32.ofNat 16 = iI 16 := by decide
theorem c_insertL (d : Nat) {key : Int} (y0 : -100000 ≤ key) (y1 : key ≤ 100000) : ∀ (n : Nat) (A : Am), n < 16 → (∀ j, 0 ≤ j → j < (n : Int) → -100000 ≤ A 160 j ∧ A 160 j ≤ 100000) → ∃ A', L_LC_insert_13 d (MM A E) 160 (iI key) (iI (n : Int)) = some (.inl none, MM A' E) ∧ A' 160 = insF n (A 160) key ∧ ∀ p, p ≠ 160 → A' p = A p := by
  intro n
  induction n with
  | zero =>
    intro A hn h
    refine ⟨uA A 160 0 key, ?_, ?_, fun p hp => uA_P hp⟩
    · rw [eL_LC_insert_13]
      simp (disch := omega) only [cond_true, cond_false, Bool.and_self, Bool.and_true, Bool.true_and, Bool.and_false, Bool.false_and, Bool.not_true, Bool.not_false, Bool.or_true, Bool.true_or, Bool.or_false, Bool.false_or, cond_dec, cI_ok, cR_ok, cV_ok, cJ_ok, bo_nr, bo_0, bo_i0, nr_0, nr_10, nr_11, nr_i0, nr_i1, bl_0, iI_add, iI_sub, iI_mul, iI_neg, qlt, qeq, qmax, qmin, qdiv, qrem, qn0, qin, I_0, w_0, I_1, w_1, I_2, w_2, I_3, w_3, I_4, w_4, I_5, w_5, I_6, w_6, I_7, w_7, I_8, w_8, I_9, w_9, I_10, w_10, I_11, w_11, I_12, w_12, I_13, w_13, I_14, w_14, I_15, w_15, I_16, w_16, I_17, w_17, I_18, w_18, I_19, w_19, I_20, w_20, I_21, w_21, I_22, w_22, I_23, w_23, I_24, w_24, I_25, w_25, I_26, w_26, I_27, w_27, I_28, w_28, I_29, w_29, I_30, w_30, I_31, w_31, I_32, w_32, I_33, w_33, I_34, w_34, I_35, w_35, I_36, w_36, I_37, w_37, I_38, w_38, I_39, w_39, I_40, w_40, I_41, w_41, I_at, w_at, th_MM, J_MM, wJ_MM, P_F, P_G, fA_in, fA_k, fA_p, fA_P, uA_P, cA_P, uA_eq, uA_k, uA_p, cA_in, cA_k, cA_p, cp_at, cp_le, qlt0, nr_ib, Nat.not_lt_zero, decide_false, ki_1, kp_1_0, kp_1_1, kp_1_2, kp_1_3, kp_1_4, kp_1_5, kp_1_6, kp_1_7, kp_1_8, kp_1_9, kp_1_10, ki_2, kp_2_0, kp_2_1, ki_17, kp_17_0, kp_17_1, ki_32, kp_32_0, kp_32_3, ki_33, kp_33_0, kp_33_1, ki_48, kz_48, ki_49, kp_49_0, ki_50, kz_50, krr_50, ki_67, kp_67_0, kp_67_1, kp_67_2, kp_67_3, kp_67_4, ki_68, kz_68, krr_68, ki_69, kz_69, krr_69, ki_70, kz_70, ki_71, kz_71, ki_144, kp_144_0, kp_144_1, kp_144_2, kp_144_3, kp_144_4, ki_145, kz_145, ki_146, kz_146, ki_147, kz_147, ki_148, kz_148, ki_149, kp_149_0, kp_149_1, kp_149_2, ki_150, kz_150, ki_151, kz_151, ki_152, kp_152_0, kp_152_1, kp_152_2, ki_153, kz_153, ki_154, kz_154, ki_155, kz_155, ki_156, kp_156_0, kp_156_1, kp_156_2, ki_157, kz_157, ki_158, kp_158_0, ki_159, kz_159, ki_160, kz_160, ki_161, kp_161_1, kp_161_2, kp_161_3, kp_161_4, kp_161_7, kp_161_21, kp_161_22, kp_161_23, kp_161_26, kp_161_27, kp_161_28, kp_161_29, kp_161_30, kp_161_32, kp_161_33, kp_161_37, kp_161_40, ki_162, kz_162, ki_163, kz_163, ki_164, kz_164, ki_165, kz_165, ki_166, kz_166, ki_167, kz_167, ki_168, kz_168, ki_169, kz_169, ki_170, kz_170, ki_171, kz_171, ki_172, kz_172, ki_173, kz_173, ki_174, kz_174, ki_175, kz_175, ki_176, kz_176, ki_177, kz_177, ki_178, kz_178, ki_179, kz_179, li_m1000000, li_m8, li_m5, li_m1, li_0, li_1, li_2, li_3, li_4, li_5, li_6, li_7, li_8, li_9, li_10, li_11, li_12, li_13, li_14, li_15, li_16, li_17, li_18, li_19, li_20, li_21, li_22, li_23, li_24, li_25, li_26, li_27, li_28, li_29, li_30, li_31, li_32, li_42, li_43, li_46, li_47, li_48, li_49, li_52, li_57, li_59, li_60, li_64, li_89, li_94, li_97, li_99, li_100, li_108, li_112, li_120, li_122, li_150, li_255, li_300, li_450, li_500, li_671, li_890, li_1000, li_1001, li_1002, li_1003, li_1424, li_12345, li_32767, li_500000, li_1000000, li_1103515245, Int.reduceEq, Int.reduceLT, Int.reduceLE, reduceIte, Int.reduceAdd, Int.reduceSub, Int.reduceMul, Nat.reduceAdd, Nat.reduceMul, Int.cast_ofNat_Int]
    · exact uA_up
  | succ n ih =>
    intro A hn h
    have hn1 : ((n + 1 : Nat) : Int) = (n : Int) + 1 := by omega
    have g := h n (by omega) (by omega)
    by_cases c : key < A 160 n
    · obtain ⟨A', x1, x2, x3⟩ := ih (uA A 160 ((n : Int) + 1) (A 160 n)) (by omega) (fun j a b => by rw [uA_k _ (by omega)]; exact h j a (by omega))
      refine ⟨A', ?_, ?_, fun p hp => by rw [x3 p hp, uA_P hp]⟩
      · rw [eL_LC_insert_13, hn1]
        simp (disch := omega) only [cond_true, cond_false, Bool.and_self, Bool.and_true, Bool.true_and, Bool.and_false, Bool.false_and, Bool.not_true, Bool.not_false, Bool.or_true, Bool.true_or, Bool.or_false, Bool.false_or, cond_dec, cI_ok, cR_ok, cV_ok, cJ_ok, bo_nr, bo_0, bo_i0, nr_0, nr_10, nr_11, nr_i0, nr_i1, bl_0, iI_add, iI_sub, iI_mul, iI_neg, qlt, qeq, qmax, qmin, qdiv, qrem, qn0, qin, I_0, w_0, I_1, w_1, I_2, w_2, I_3, w_3, I_4, w_4, I_5, w_5, I_6, w_6, I_7, w_7, I_8, w_8, I_9, w_9, I_10, w_10, I_11, w_11, I_12, w_12, I_13, w_13, I_14, w_14, I_15, w_15, I_16, w_16, I_17, w_17, I_18, w_18, I_19, w_19, I_20, w_20, I_21, w_21, I_22, w_22, I_23, w_23, I_24, w_24, I_25, w_25, I_26, w_26, I_27, w_27, I_28, w_28, I_29, w_29, I_30, w_30, I_31, w_31, I_32, w_32, I_33, w_33, I_34, w_34, I_35, w_35, I_36, w_36, I_37, w_37, I_38, w_38, I_39, w_39, I_40, w_40, I_41, w_41, I_at, w_at, th_MM, J_MM, wJ_MM, P_F, P_G, fA_in, fA_k, fA_p, fA_P, uA_P, cA_P, uA_eq, uA_k, uA_p, cA_in, cA_k, cA_p, cp_at, cp_le, qlt0, nr_ib, Nat.not_lt_zero, decide_false, ki_1, kp_1_0, kp_1_1, kp_1_2, kp_1_3, kp_1_4, kp_1_5, kp_1_6, kp_1_7, kp_1_8, kp_1_9, kp_1_10, ki_2, kp_2_0, kp_2_1, ki_17, kp_17_0, kp_17_1, ki_32, kp_32_0, kp_32_3, ki_33, kp_33_0, kp_33_1, ki_48, kz_48, ki_49, kp_49_0, ki_50, kz_50, krr_50, ki_67, kp_67_0, kp_67_1, kp_67_2, kp_67_3, kp_67_4, ki_68, kz_68, krr_68, ki_69, kz_69, krr_69, ki_70, kz_70, ki_71, kz_71, ki_144, kp_144_0, kp_144_1, kp_144_2, kp_144_3, kp_144_4, ki_145, kz_145, ki_146, kz_146, ki_147, kz_147, ki_148, kz_148, ki_149, kp_149_0, kp_149_1, kp_149_2, ki_150, kz_150, ki_151, kz_151, ki_152, kp_152_0, kp_152_1, kp_152_2, ki_153, kz_153, ki_154, kz_154, ki_155, kz_155, ki_156, kp_156_0, kp_156_1, kp_156_2, ki_157, kz_157, ki_158, kp_158_0, ki_159, kz_159, ki_160, kz_160, ki_161, kp_161_1, kp_161_2, kp_161_3, kp_161_4, kp_161_7, kp_161_21, kp_161_22, kp_161_23, kp_161_26, kp_161_27, kp_161_28, kp_161_29, kp_161_30, kp_161_32, kp_161_33, kp_161_37, kp_161_40, ki_162, kz_162, ki_163, kz_163, ki_164, kz_164, ki_165, kz_165, ki_166, kz_166, ki_167, kz_167, ki_168, kz_168, ki_169, kz_169, ki_170, kz_170, ki_171, kz_171, ki_172, kz_172, ki_173, kz_173, ki_174, kz_174, ki_175, kz_175, ki_176, kz_176, ki_177, kz_177, ki_178, kz_178, ki_179, kz_179, li_m1000000, li_m8, li_m5, li_m1, li_0, li_1, li_2, li_3, li_4, li_5, li_6, li_7, li_8, li_9, li_10, li_11, li_12, li_13, li_14, li_15, li_16, li_17, li_18, li_19, li_20, li_21, li_22, li_23, li_24, li_25, li_26, li_27, li_28, li_29, li_30, li_31, li_32, li_42, li_43, li_46, li_47, li_48, li_49, li_52, li_57, li_59, li_60, li_64, li_89, li_94, li_97, li_99, li_100, li_108, li_112, li_120, li_122, li_150, li_255, li_300, li_450, li_500, li_671, li_890, li_1000, li_1001, li_1002, li_1003, li_1424, li_12345, li_32767, li_500000, li_1000000, li_1103515245, Int.reduceEq, Int.reduceLT, Int.reduceLE, reduceIte, Int.reduceAdd, Int.reduceSub, Int.reduceMul, Nat.reduceAdd, Nat.reduceMul, Int.add_sub_cancel, show (n : Int) + 1 + -1 = n by omega]
        rw [if_pos (by omega), if_pos c]
        exact x1
      · rw [x2, insF_s, if_pos c, uA_up]
    · refine ⟨uA A 160 ((n : Int) + 1) key, ?_, ?_, fun p hp => uA_P hp⟩
      · rw [eL_LC_insert_13, hn1]
        simp (disch := omega) only [cond_true, cond_false, Bool.and_self, Bool.and_true, Bool.true_and, Bool.and_false, Bool.false_and, Bool.not_true, Bool.not_false, Bool.or_true, Bool.true_or, Bool.or_false, Bool.false_or, cond_dec, cI_ok, cR_ok, cV_ok, cJ_ok, bo_nr, bo_0, bo_i0, nr_0, nr_10, nr_11, nr_i0, nr_i1, bl_0, iI_add, iI_sub, iI_mul, iI_neg, qlt, qeq, qmax, qmin, qdiv, qrem, qn0, qin, I_0, w_0, I_1, w_1, I_2, w_2, I_3, w_3, I_4, w_4, I_5, w_5, I_6, w_6, I_7, w_7, I_8, w_8, I_9, w_9, I_10, w_10, I_11, w_11, I_12, w_12, I_13, w_13, I_14, w_14, I_15, w_15, I_16, w_16, I_17, w_17, I_18, w_18, I_19, w_19, I_20, w_20, I_21, w_21, I_22, w_22, I_23, w_23, I_24, w_24, I_25, w_25, I_26, w_26, I_27, w_27, I_28, w_28, I_29, w_29, I_30, w_30, I_31, w_31, I_32, w_32, I_33, w_33, I_34, w_34, I_35, w_35, I_36, w_36, I_37, w_37, I_38, w_38, I_39, w_39, I_40, w_40, I_41, w_41, I_at, w_at, th_MM, J_MM, wJ_MM, P_F, P_G, fA_in, fA_k, fA_p, fA_P, uA_P, cA_P, uA_eq, uA_k, uA_p, cA_in, cA_k, cA_p, cp_at, cp_le, qlt0, nr_ib, Nat.not_lt_zero, decide_false, ki_1, kp_1_0, kp_1_1, kp_1_2, kp_1_3, kp_1_4, kp_1_5, kp_1_6, kp_1_7, kp_1_8, kp_1_9, kp_1_10, ki_2, kp_2_0, kp_2_1, ki_17, kp_17_0, kp_17_1, ki_32, kp_32_0, kp_32_3, ki_33, kp_33_0, kp_33_1, ki_48, kz_48, ki_49, kp_49_0, ki_50, kz_50, krr_50, ki_67, kp_67_0, kp_67_1, kp_67_2, kp_67_3, kp_67_4, ki_68, kz_68, krr_68, ki_69, kz_69, krr_69, ki_70, kz_70, ki_71, kz_71, ki_144, kp_144_0, kp_144_1, kp_144_2, kp_144_3, kp_144_4, ki_145, kz_145, ki_146, kz_146, ki_147, kz_147, ki_148, kz_148, ki_149, kp_149_0, kp_149_1, kp_149_2, ki_150, kz_150, ki_151, kz_151, ki_152, kp_152_0, kp_152_1, kp_152_2, ki_153, kz_153, ki_154, kz_154, ki_155, kz_155, ki_156, kp_156_0, kp_156_1, kp_156_2, ki_157, kz_157, ki_158, kp_158_0, ki_159, kz_159, ki_160, kz_160, ki_161, kp_161_1, kp_161_2, kp_161_3, kp_161_4, kp_161_7, kp_161_21, kp_161_22, kp_161_23, kp_161_26, kp_161_27, kp_161_28, kp_161_29, kp_161_30, kp_161_32, kp_161_33, kp_161_37, kp_161_40, ki_162, kz_162, ki_163, kz_163, ki_164, kz_164, ki_165, kz_165, ki_166, kz_166, ki_167, kz_167, ki_168, kz_168, ki_169, kz_169, ki_170, kz_170, ki_171, kz_171, ki_172, kz_172, ki_173, kz_173, ki_174, kz_174, ki_175, kz_175, ki_176, kz_176, ki_177, kz_177, ki_178, kz_178, ki_179, kz_179, li_m1000000, li_m8, li_m5, li_m1, li_0, li_1, li_2, li_3, li_4, li_5, li_6, li_7, li_8, li_9, li_10, li_11, li_12, li_13, li_14, li_15, li_16, li_17, li_18, li_19, li_20, li_21, li_22, li_23, li_24, li_25, li_26, li_27, li_28, li_29, li_30, li_31, li_32, li_42, li_43, li_46, li_47, li_48, li_49, li_52, li_57, li_59, li_60, li_64, li_89, li_94, li_97, li_99, li_100, li_108, li_112, li_120, li_122, li_150, li_255, li_300, li_450, li_500, li_671, li_890, li_1000, li_1001, li_1002, li_1003, li_1424, li_12345, li_32767, li_500000, li_1000000, li_1103515245, Int.reduceEq, Int.reduceLT, Int.reduceLE, reduceIte, Int.reduceAdd, Int.reduceSub, Int.reduceMul, Nat.reduceAdd, Nat.reduceMul, Int.add_sub_cancel]
        rw [if_pos (by omega), if_neg c]
      · unfold insF
        rw [if_neg c, uA_up]
theorem c_insert (d : Nat) {key : Int} (y0 : -100000 ≤ key) (y1 : key ≤ 100000) {n : Nat} {nn : Int} (hnn : nn = (n : Int)) (hn : n < 16) (h : ∀ j, 0 ≤ j → j < (n : Int) → -100000 ≤ A 160 j ∧ A 160 j ≤ 100000) : ∃ A', D_LC_insert d (MM A E) 160 (iI nn) (iI key) = some (.inl none, MM A' E) ∧ A' 160 = insF n (A 160) key ∧ ∀ p, p ≠ 160 → A' p = A p := by
  obtain ⟨A', x1, x2⟩ := c_insertL (E := E) d y0 y1 n A hn h
  refine ⟨A', ?_, x2⟩
  subst hnn
  rw [eD_LC_insert]
  simp (disch := omega) only [cond_true, cond_false, Bool.and_self, Bool.and_true, Bool.true_and, Bool.and_false, Bool.false_and, Bool.not_true, Bool.not_false, Bool.or_true, Bool.true_or, Bool.or_false, Bool.false_or, cond_dec, cI_ok, cR_ok, cV_ok, cJ_ok, bo_nr, bo_0, bo_i0, nr_0, nr_10, nr_11, nr_i0, nr_i1, bl_0, iI_add, iI_sub, iI_mul, iI_neg, qlt, qeq, qmax, qmin, qdiv, qrem, qn0, qin, I_0, w_0, I_1, w_1, I_2, w_2, I_3, w_3, I_4, w_4, I_5, w_5, I_6, w_6, I_7, w_7, I_8, w_8, I_9, w_9, I_10, w_10, I_11, w_11, I_12, w_12, I_13, w_13, I_14, w_14, I_15, w_15, I_16, w_16, I_17, w_17, I_18, w_18, I_19, w_19, I_20, w_20, I_21, w_21, I_22, w_22, I_23, w_23, I_24, w_24, I_25, w_25, I_26, w_26, I_27, w_27, I_28, w_28, I_29, w_29, I_30, w_30, I_31, w_31, I_32, w_32, I_33, w_33, I_34, w_34, I_35, w_35, I_36, w_36, I_37, w_37, I_38, w_38, I_39, w_39, I_40, w_40, I_41, w_41, I_at, w_at, th_MM, J_MM, wJ_MM, P_F, P_G, fA_in, fA_k, fA_p, fA_P, uA_P, cA_P, uA_eq, uA_k, uA_p, cA_in, cA_k, cA_p, cp_at, cp_le, qlt0, nr_ib, Nat.not_lt_zero, decide_false, ki_1, kp_1_0, kp_1_1, kp_1_2, kp_1_3, kp_1_4, kp_1_5, kp_1_6, kp_1_7, kp_1_8, kp_1_9, kp_1_10, ki_2, kp_2_0, kp_2_1, ki_17, kp_17_0, kp_17_1, ki_32, kp_32_0, kp_32_3, ki_33, kp_33_0, kp_33_1, ki_48, kz_48, ki_49, kp_49_0, ki_50, kz_50, krr_50, ki_67, kp_67_0, kp_67_1, kp_67_2, kp_67_3, kp_67_4, ki_68, kz_68, krr_68, ki_69, kz_69, krr_69, ki_70, kz_70, ki_71, kz_71, ki_144, kp_144_0, kp_144_1, kp_144_2, kp_144_3, kp_144_4, ki_145, kz_145, ki_146, kz_146, ki_147, kz_147, ki_148, kz_148, ki_149, kp_149_0, kp_149_1, kp_149_2, ki_150, kz_150, ki_151, kz_151, ki_152, kp_152_0, kp_152_1, kp_152_2, ki_153, kz_153, ki_154, kz_154, ki_155, kz_155, ki_156, kp_156_0, kp_156_1, kp_156_2, ki_157, kz_157, ki_158, kp_158_0, ki_159, kz_159, ki_160, kz_160, ki_161, kp_161_1, kp_161_2, kp_161_3, kp_161_4, kp_161_7, kp_161_21, kp_161_22, kp_161_23, kp_161_26, kp_161_27, kp_161_28, kp_161_29, kp_161_30, kp_161_32, kp_161_33, kp_161_37, kp_161_40, ki_162, kz_162, ki_163, kz_163, ki_164, kz_164, ki_165, kz_165, ki_166, kz_166, ki_167, kz_167, ki_168, kz_168, ki_169, kz_169, ki_170, kz_170, ki_171, kz_171, ki_172, kz_172, ki_173, kz_173, ki_174, kz_174, ki_175, kz_175, ki_176, kz_176, ki_177, kz_177, ki_178, kz_178, ki_179, kz_179, li_m1000000, li_m8, li_m5, li_m1, li_0, li_1, li_2, li_3, li_4, li_5, li_6, li_7, li_8, li_9, li_10, li_11, li_12, li_13, li_14, li_15, li_16, li_17, li_18, li_19, li_20, li_21, li_22, li_23, li_24, li_25, li_26, li_27, li_28, li_29, li_30, li_31, li_32, li_42, li_43, li_46, li_47, li_48, li_49, li_52, li_57, li_59, li_60, li_64, li_89, li_94, li_97, li_99, li_100, li_108, li_112, li_120, li_122, li_150, li_255, li_300, li_450, li_500, li_671, li_890, li_1000, li_1001, li_1002, li_1003, li_1424, li_12345, li_32767, li_500000, li_1000000, li_1103515245, Int.reduceEq, Int.reduceLT, Int.reduceLE, reduceIte, Int.reduceAdd, Int.reduceSub, Int.reduceMul, Nat.reduceAdd, Nat.reduceMul, kar_160, on16]
  rw [if_neg (by omega), if_pos (by omega)]
  exact x1
theorem c_rested (d : Nat) (hd : 20 < d) (hs : WS S) (h : CI A S) (t0 : -2147483648 ≤ t) (t1 : t < 2147483648) (k0 : -2147483648 ≤ k) (k1 : k < 2147483648) : ∃ A' E', D_LC_rested d (MM A E) 1 (iI t) (iI k) = some (oR (spRested (sR S) t k), MM A' E') ∧ FrC A A' ∧ EE E E' := by
  have hf := hs.1
  unfold spRested
  by_cases ht : t = 0 ∨ t = 1
  · have hT : TM (tR 2 t) := TM_t (.inl rfl)
    have tv : 3 ≤ tR 2 t ∧ tR 2 t ≤ 10 := by unfold tR; split <;> omega
    have tA := RinkAt_t h.1 ht
    have hw := WF_t hf ht
    have b0 := un_6 hw
    have x1 := c_ex1 (A := A) (E := E) (d - 1) (by omega) ht
    have x2 := t_has (E := E) (d - 1) hT tA.1 hw k0 k1
    by_cases c : 0 ≤ k ∧ k < un (sR S) t
    · rw [if_pos ⟨ht, c⟩]
      rw [decide_eq_true c] at x2
      have loop : ∀ (m n : Nat) (A : Am), (m : Int) + n = un (sR S) t → TeamAt A (tR 2 t) (sR S) t → (∀ j, 0 ≤ j → j < (n : Int) → A 160 j = rsS (sR S) t n j) → ∃ A', L_LC_rested_25 d (MM A E) 1 (iI k) (tR 2 t) (iI (n : Int)) = some (.inl (some (.int (iI (rsS (sR S) t (un (sR S) t).toNat k % 8)))), MM A' E) ∧ ∀ p, p ≠ 160 → A' p = A p := by
        intro m
        induction m with
        | zero =>
          intro n A hm tA hk
          have tu := t_units (E := E) (d - 1) hT tA.1
          have en : (un (sR S) t).toNat = n := by omega
          obtain ⟨v, v0, v1, e⟩ := rsS_el (σ := sR S) (t := t) n k c.1 (by omega)
          have a := cd_rg hw v0 (by omega)
          have g := hk k c.1 (by omega)
          refine ⟨A, ?_, fun _ _ => rfl⟩
          rw [eL_LC_rested_25]
          simp (disch := omega) only [cond_true, cond_false, Bool.and_self, Bool.and_true, Bool.true_and, Bool.and_false, Bool.false_and, Bool.not_true, Bool.not_false, Bool.or_true, Bool.true_or, Bool.or_false, Bool.false_or, cond_dec, cI_ok, cR_ok, cV_ok, cJ_ok, bo_nr, bo_0, bo_i0, nr_0, nr_10, nr_11, nr_i0, nr_i1, bl_0, iI_add, iI_sub, iI_mul, iI_neg, qlt, qeq, qmax, qmin, qdiv, qrem, qn0, qin, I_0, w_0, I_1, w_1, I_2, w_2, I_3, w_3, I_4, w_4, I_5, w_5, I_6, w_6, I_7, w_7, I_8, w_8, I_9, w_9, I_10, w_10, I_11, w_11, I_12, w_12, I_13, w_13, I_14, w_14, I_15, w_15, I_16, w_16, I_17, w_17, I_18, w_18, I_19, w_19, I_20, w_20, I_21, w_21, I_22, w_22, I_23, w_23, I_24, w_24, I_25, w_25, I_26, w_26, I_27, w_27, I_28, w_28, I_29, w_29, I_30, w_30, I_31, w_31, I_32, w_32, I_33, w_33, I_34, w_34, I_35, w_35, I_36, w_36, I_37, w_37, I_38, w_38, I_39, w_39, I_40, w_40, I_41, w_41, I_at, w_at, th_MM, J_MM, wJ_MM, P_F, P_G, fA_in, fA_k, fA_p, fA_P, uA_P, cA_P, uA_eq, uA_k, uA_p, cA_in, cA_k, cA_p, cp_at, cp_le, qlt0, nr_ib, Nat.not_lt_zero, decide_false, ki_1, kp_1_0, kp_1_1, kp_1_2, kp_1_3, kp_1_4, kp_1_5, kp_1_6, kp_1_7, kp_1_8, kp_1_9, kp_1_10, ki_2, kp_2_0, kp_2_1, ki_17, kp_17_0, kp_17_1, ki_32, kp_32_0, kp_32_3, ki_33, kp_33_0, kp_33_1, ki_48, kz_48, ki_49, kp_49_0, ki_50, kz_50, krr_50, ki_67, kp_67_0, kp_67_1, kp_67_2, kp_67_3, kp_67_4, ki_68, kz_68, krr_68, ki_69, kz_69, krr_69, ki_70, kz_70, ki_71, kz_71, ki_144, kp_144_0, kp_144_1, kp_144_2, kp_144_3, kp_144_4, ki_145, kz_145, ki_146, kz_146, ki_147, kz_147, ki_148, kz_148, ki_149, kp_149_0, kp_149_1, kp_149_2, ki_150, kz_150, ki_151, kz_151, ki_152, kp_152_0, kp_152_1, kp_152_2, ki_153, kz_153, ki_154, kz_154, ki_155, kz_155, ki_156, kp_156_0, kp_156_1, kp_156_2, ki_157, kz_157, ki_158, kp_158_0, ki_159, kz_159, ki_160, kz_160, ki_161, kp_161_1, kp_161_2, kp_161_3, kp_161_4, kp_161_7, kp_161_21, kp_161_22, kp_161_23, kp_161_26, kp_161_27, kp_161_28, kp_161_29, kp_161_30, kp_161_32, kp_161_33, kp_161_37, kp_161_40, ki_162, kz_162, ki_163, kz_163, ki_164, kz_164, ki_165, kz_165, ki_166, kz_166, ki_167, kz_167, ki_168, kz_168, ki_169, kz_169, ki_170, kz_170, ki_171, kz_171, ki_172, kz_172, ki_173, kz_173, ki_174, kz_174, ki_175, kz_175, ki_176, kz_176, ki_177, kz_177, ki_178, kz_178, ki_179, kz_179, li_m1000000, li_m8, li_m5, li_m1, li_0, li_1, li_2, li_3, li_4, li_5, li_6, li_7, li_8, li_9, li_10, li_11, li_12, li_13, li_14, li_15, li_16, li_17, li_18, li_19, li_20, li_21, li_22, li_23, li_24, li_25, li_26, li_27, li_28, li_29, li_30, li_31, li_32, li_42, li_43, li_46, li_47, li_48, li_49, li_52, li_57, li_59, li_60, li_64, li_89, li_94, li_97, li_99, li_100, li_108, li_112, li_120, li_122, li_150, li_255, li_300, li_450, li_500, li_671, li_890, li_1000, li_1001, li_1002, li_1003, li_1424, li_12345, li_32767, li_500000, li_1000000, li_1103515245, Int.reduceEq, Int.reduceLT, Int.reduceLE, reduceIte, Int.reduceAdd, Int.reduceSub, Int.reduceMul, Nat.reduceAdd, Nat.reduceMul, is_T hT, tu, g, an7]
          rw [if_neg (by omega), en]
        | succ m ih =>
          intro n A hm tA hk
          have tu := t_units (E := E) (d - 1) hT tA.1
          have tp := t_power (E := E) (u := (n : Int)) (d - 1) hT tA hw (by omega) (by omega) (w := 0) (q := tR 2 t + 1) (.inl ⟨rfl, rfl⟩)
          have gl := tA.2.2.2.2.2 n (by omega) (by omega)
          have pr := pw_rg (u := (n : Int)) hw (by omega) (by omega) (w := 0) (.inl rfl)
          obtain ⟨-, -, b2, -, -, b5⟩ := hw.2.2.2.2.2.2.2 n (by omega) (by omega)
          have cr := cd_rg (u := (n : Int)) hw (by omega) (by omega)
          obtain ⟨A1, y1, y2, y3⟩ := c_insert (E := E) (A := A) (d - 1) (key := cd (sR S) t n) (by omega) (by omega) (n := n) rfl (by omega) (fun j j0 j1 => by
            rw [hk j j0 j1]
            obtain ⟨v, v0, v1, e⟩ := rsS_el (σ := sR S) (t := t) n j j0 j1
            have := cd_rg hw v0 (by omega)
            omega)
          obtain ⟨A', z1, z2⟩ := ih (n + 1) A1 (by omega) (TeamAt_fr tA (fun p _ _ => y3 p (by omega))) (fun j j0 j1 => by
            rw [y2]
            exact insF_cg n _ _ _ hk j j0 (by omega))
          refine ⟨A', ?_, fun p hp => by rw [z2 p hp, y3 p hp]⟩
          rw [show ((n + 1 : Nat) : Int) = (n : Int) + 1 by omega] at z1
          unfold cd at y1
          rw [eL_LC_rested_25]
          simp (disch := omega) only [cond_true, cond_false, Bool.and_self, Bool.and_true, Bool.true_and, Bool.and_false, Bool.false_and, Bool.not_true, Bool.not_false, Bool.or_true, Bool.true_or, Bool.or_false, Bool.false_or, cond_dec, cI_ok, cR_ok, cV_ok, cJ_ok, bo_nr, bo_0, bo_i0, nr_0, nr_10, nr_11, nr_i0, nr_i1, bl_0, iI_add, iI_sub, iI_mul, iI_neg, qlt, qeq, qmax, qmin, qdiv, qrem, qn0, qin, I_0, w_0, I_1, w_1, I_2, w_2, I_3, w_3, I_4, w_4, I_5, w_5, I_6, w_6, I_7, w_7, I_8, w_8, I_9, w_9, I_10, w_10, I_11, w_11, I_12, w_12, I_13, w_13, I_14, w_14, I_15, w_15, I_16, w_16, I_17, w_17, I_18, w_18, I_19, w_19, I_20, w_20, I_21, w_21, I_22, w_22, I_23, w_23, I_24, w_24, I_25, w_25, I_26, w_26, I_27, w_27, I_28, w_28, I_29, w_29, I_30, w_30, I_31, w_31, I_32, w_32, I_33, w_33, I_34, w_34, I_35, w_35, I_36, w_36, I_37, w_37, I_38, w_38, I_39, w_39, I_40, w_40, I_41, w_41, I_at, w_at, th_MM, J_MM, wJ_MM, P_F, P_G, fA_in, fA_k, fA_p, fA_P, uA_P, cA_P, uA_eq, uA_k, uA_p, cA_in, cA_k, cA_p, cp_at, cp_le, qlt0, nr_ib, Nat.not_lt_zero, decide_false, ki_1, kp_1_0, kp_1_1, kp_1_2, kp_1_3, kp_1_4, kp_1_5, kp_1_6, kp_1_7, kp_1_8, kp_1_9, kp_1_10, ki_2, kp_2_0, kp_2_1, ki_17, kp_17_0, kp_17_1, ki_32, kp_32_0, kp_32_3, ki_33, kp_33_0, kp_33_1, ki_48, kz_48, ki_49, kp_49_0, ki_50, kz_50, krr_50, ki_67, kp_67_0, kp_67_1, kp_67_2, kp_67_3, kp_67_4, ki_68, kz_68, krr_68, ki_69, kz_69, krr_69, ki_70, kz_70, ki_71, kz_71, ki_144, kp_144_0, kp_144_1, kp_144_2, kp_144_3, kp_144_4, ki_145, kz_145, ki_146, kz_146, ki_147, kz_147, ki_148, kz_148, ki_149, kp_149_0, kp_149_1, kp_149_2, ki_150, kz_150, ki_151, kz_151, ki_152, kp_152_0, kp_152_1, kp_152_2, ki_153, kz_153, ki_154, kz_154, ki_155, kz_155, ki_156, kp_156_0, kp_156_1, kp_156_2, ki_157, kz_157, ki_158, kp_158_0, ki_159, kz_159, ki_160, kz_160, ki_161, kp_161_1, kp_161_2, kp_161_3, kp_161_4, kp_161_7, kp_161_21, kp_161_22, kp_161_23, kp_161_26, kp_161_27, kp_161_28, kp_161_29, kp_161_30, kp_161_32, kp_161_33, kp_161_37, kp_161_40, ki_162, kz_162, ki_163, kz_163, ki_164, kz_164, ki_165, kz_165, ki_166, kz_166, ki_167, kz_167, ki_168, kz_168, ki_169, kz_169, ki_170, kz_170, ki_171, kz_171, ki_172, kz_172, ki_173, kz_173, ki_174, kz_174, ki_175, kz_175, ki_176, kz_176, ki_177, kz_177, ki_178, kz_178, ki_179, kz_179, li_m1000000, li_m8, li_m5, li_m1, li_0, li_1, li_2, li_3, li_4, li_5, li_6, li_7, li_8, li_9, li_10, li_11, li_12, li_13, li_14, li_15, li_16, li_17, li_18, li_19, li_20, li_21, li_22, li_23, li_24, li_25, li_26, li_27, li_28, li_29, li_30, li_31, li_32, li_42, li_43, li_46, li_47, li_48, li_49, li_52, li_57, li_59, li_60, li_64, li_89, li_94, li_97, li_99, li_100, li_108, li_112, li_120, li_122, li_150, li_255, li_300, li_450, li_500, li_671, li_890, li_1000, li_1001, li_1002, li_1003, li_1424, li_12345, li_32767, li_500000, li_1000000, li_1103515245, Int.reduceEq, Int.reduceLT, Int.reduceLE, reduceIte, Int.reduceAdd, Int.reduceSub, Int.reduceMul, Nat.reduceAdd, Nat.reduceMul, is_T hT, is_T1 hT, sz_T1 hT, P_T1 hT, is_T2 hT, sz_T2 hT, P_T2 hT, is_T3 hT, sz_T3 hT, P_T3 hT, is_T4 hT, sz_T4 hT, P_T4 hT, is_T5 hT, sz_T5 hT, P_T5 hT, is_T6 hT, sz_T6 hT, P_T6 hT, tu, tp, gl, sl10, sl3, y1]
          rw [if_pos (by omega)]
          exact z1
      obtain ⟨A', z1, z2⟩ := loop (un (sR S) t).toNat 0 A (by omega) tA (fun j a b => by omega)
      refine ⟨A', E, ?_, fun p hp => z2 p (by omega), EE_refl E⟩
      have z1' : L_LC_rested_25 d (MM A E) 1 (iI k) (tR 2 t) (iI 0) = _ := z1
      rw [eD_LC_rested]
      simp (disch := omega) only [cond_true, cond_false, Bool.and_self, Bool.and_true, Bool.true_and, Bool.and_false, Bool.false_and, Bool.not_true, Bool.not_false, Bool.or_true, Bool.true_or, Bool.or_false, Bool.false_or, cond_dec, cI_ok, cR_ok, cV_ok, cJ_ok, bo_nr, bo_0, bo_i0, nr_0, nr_10, nr_11, nr_i0, nr_i1, bl_0, iI_add, iI_sub, iI_mul, iI_neg, qlt, qeq, qmax, qmin, qdiv, qrem, qn0, qin, I_0, w_0, I_1, w_1, I_2, w_2, I_3, w_3, I_4, w_4, I_5, w_5, I_6, w_6, I_7, w_7, I_8, w_8, I_9, w_9, I_10, w_10, I_11, w_11, I_12, w_12, I_13, w_13, I_14, w_14, I_15, w_15, I_16, w_16, I_17, w_17, I_18, w_18, I_19, w_19, I_20, w_20, I_21, w_21, I_22, w_22, I_23, w_23, I_24, w_24, I_25, w_25, I_26, w_26, I_27, w_27, I_28, w_28, I_29, w_29, I_30, w_30, I_31, w_31, I_32, w_32, I_33, w_33, I_34, w_34, I_35, w_35, I_36, w_36, I_37, w_37, I_38, w_38, I_39, w_39, I_40, w_40, I_41, w_41, I_at, w_at, th_MM, J_MM, wJ_MM, P_F, P_G, fA_in, fA_k, fA_p, fA_P, uA_P, cA_P, uA_eq, uA_k, uA_p, cA_in, cA_k, cA_p, cp_at, cp_le, qlt0, nr_ib, Nat.not_lt_zero, decide_false, ki_1, kp_1_0, kp_1_1, kp_1_2, kp_1_3, kp_1_4, kp_1_5, kp_1_6, kp_1_7, kp_1_8, kp_1_9, kp_1_10, ki_2, kp_2_0, kp_2_1, ki_17, kp_17_0, kp_17_1, ki_32, kp_32_0, kp_32_3, ki_33, kp_33_0, kp_33_1, ki_48, kz_48, ki_49, kp_49_0, ki_50, kz_50, krr_50, ki_67, kp_67_0, kp_67_1, kp_67_2, kp_67_3, kp_67_4, ki_68, kz_68, krr_68, ki_69, kz_69, krr_69, ki_70, kz_70, ki_71, kz_71, ki_144, kp_144_0, kp_144_1, kp_144_2, kp_144_3, kp_144_4, ki_145, kz_145, ki_146, kz_146, ki_147, kz_147, ki_148, kz_148, ki_149, kp_149_0, kp_149_1, kp_149_2, ki_150, kz_150, ki_151, kz_151, ki_152, kp_152_0, kp_152_1, kp_152_2, ki_153, kz_153, ki_154, kz_154, ki_155, kz_155, ki_156, kp_156_0, kp_156_1, kp_156_2, ki_157, kz_157, ki_158, kp_158_0, ki_159, kz_159, ki_160, kz_160, ki_161, kp_161_1, kp_161_2, kp_161_3, kp_161_4, kp_161_7, kp_161_21, kp_161_22, kp_161_23, kp_161_26, kp_161_27, kp_161_28, kp_161_29, kp_161_30, kp_161_32, kp_161_33, kp_161_37, kp_161_40, ki_162, kz_162, ki_163, kz_163, ki_164, kz_164, ki_165, kz_165, ki_166, kz_166, ki_167, kz_167, ki_168, kz_168, ki_169, kz_169, ki_170, kz_170, ki_171, kz_171, ki_172, kz_172, ki_173, kz_173, ki_174, kz_174, ki_175, kz_175, ki_176, kz_176, ki_177, kz_177, ki_178, kz_178, ki_179, kz_179, li_m1000000, li_m8, li_m5, li_m1, li_0, li_1, li_2, li_3, li_4, li_5, li_6, li_7, li_8, li_9, li_10, li_11, li_12, li_13, li_14, li_15, li_16, li_17, li_18, li_19, li_20, li_21, li_22, li_23, li_24, li_25, li_26, li_27, li_28, li_29, li_30, li_31, li_32, li_42, li_43, li_46, li_47, li_48, li_49, li_52, li_57, li_59, li_60, li_64, li_89, li_94, li_97, li_99, li_100, li_108, li_112, li_120, li_122, li_150, li_255, li_300, li_450, li_500, li_671, li_890, li_1000, li_1001, li_1002, li_1003, li_1424, li_12345, li_32767, li_500000, li_1000000, li_1103515245, Int.reduceEq, Int.reduceLT, Int.reduceLE, reduceIte, Int.reduceAdd, Int.reduceSub, Int.reduceMul, Nat.reduceAdd, Nat.reduceMul, x1, is_T hT, x2, z1']
      rfl
    · refine ⟨A, thE E, ?_, FrC_refl A, EE_th E⟩
      rw [if_neg (fun z => c z.2)]
      rw [decide_eq_false c] at x2
      rw [eD_LC_rested]
      simp (disch := omega) only [cond_true, cond_false, Bool.and_self, Bool.and_true, Bool.true_and, Bool.and_false, Bool.false_and, Bool.not_true, Bool.not_false, Bool.or_true, Bool.true_or, Bool.or_false, Bool.false_or, cond_dec, cI_ok, cR_ok, cV_ok, cJ_ok, bo_nr, bo_0, bo_i0, nr_0, nr_10, nr_11, nr_i0, nr_i1, bl_0, iI_add, iI_sub, iI_mul, iI_neg, qlt, qeq, qmax, qmin, qdiv, qrem, qn0, qin, I_0, w_0, I_1, w_1, I_2, w_2, I_3, w_3, I_4, w_4, I_5, w_5, I_6, w_6, I_7, w_7, I_8, w_8, I_9, w_9, I_10, w_10, I_11, w_11, I_12, w_12, I_13, w_13, I_14, w_14, I_15, w_15, I_16, w_16, I_17, w_17, I_18, w_18, I_19, w_19, I_20, w_20, I_21, w_21, I_22, w_22, I_23, w_23, I_24, w_24, I_25, w_25, I_26, w_26, I_27, w_27, I_28, w_28, I_29, w_29, I_30, w_30, I_31, w_31, I_32, w_32, I_33, w_33, I_34, w_34, I_35, w_35, I_36, w_36, I_37, w_37, I_38, w_38, I_39, w_39, I_40, w_40, I_41, w_41, I_at, w_at, th_MM, J_MM, wJ_MM, P_F, P_G, fA_in, fA_k, fA_p, fA_P, uA_P, cA_P, uA_eq, uA_k, uA_p, cA_in, cA_k, cA_p, cp_at, cp_le, qlt0, nr_ib, Nat.not_lt_zero, decide_false, ki_1, kp_1_0, kp_1_1, kp_1_2, kp_1_3, kp_1_4, kp_1_5, kp_1_6, kp_1_7, kp_1_8, kp_1_9, kp_1_10, ki_2, kp_2_0, kp_2_1, ki_17, kp_17_0, kp_17_1, ki_32, kp_32_0, kp_32_3, ki_33, kp_33_0, kp_33_1, ki_48, kz_48, ki_49, kp_49_0, ki_50, kz_50, krr_50, ki_67, kp_67_0, kp_67_1, kp_67_2, kp_67_3, kp_67_4, ki_68, kz_68, krr_68, ki_69, kz_69, krr_69, ki_70, kz_70, ki_71, kz_71, ki_144, kp_144_0, kp_144_1, kp_144_2, kp_144_3, kp_144_4, ki_145, kz_145, ki_146, kz_146, ki_147, kz_147, ki_148, kz_148, ki_149, kp_149_0, kp_149_1, kp_149_2, ki_150, kz_150, ki_151, kz_151, ki_152, kp_152_0, kp_152_1, kp_152_2, ki_153, kz_153, ki_154, kz_154, ki_155, kz_155, ki_156, kp_156_0, kp_156_1, kp_156_2, ki_157, kz_157, ki_158, kp_158_0, ki_159, kz_159, ki_160, kz_160, ki_161, kp_161_1, kp_161_2, kp_161_3, kp_161_4, kp_161_7, kp_161_21, kp_161_22, kp_161_23, kp_161_26, kp_161_27, kp_161_28, kp_161_29, kp_161_30, kp_161_32, kp_161_33, kp_161_37, kp_161_40, ki_162, kz_162, ki_163, kz_163, ki_164, kz_164, ki_165, kz_165, ki_166, kz_166, ki_167, kz_167, ki_168, kz_168, ki_169, kz_169, ki_170, kz_170, ki_171, kz_171, ki_172, kz_172, ki_173, kz_173, ki_174, kz_174, ki_175, kz_175, ki_176, kz_176, ki_177, kz_177, ki_178, kz_178, ki_179, kz_179, li_m1000000, li_m8, li_m5, li_m1, li_0, li_1, li_2, li_3, li_4, li_5, li_6, li_7, li_8, li_9, li_10, li_11, li_12, li_13, li_14, li_15, li_16, li_17, li_18, li_19, li_20, li_21, li_22, li_23, li_24, li_25, li_26, li_27, li_28, li_29, li_30, li_31, li_32, li_42, li_43, li_46, li_47, li_48, li_49, li_52, li_57, li_59, li_60, li_64, li_89, li_94, li_97, li_99, li_100, li_108, li_112, li_120, li_122, li_150, li_255, li_300, li_450, li_500, li_671, li_890, li_1000, li_1001, li_1002, li_1003, li_1424, li_12345, li_32767, li_500000, li_1000000, li_1103515245, Int.reduceEq, Int.reduceLT, Int.reduceLE, reduceIte, Int.reduceAdd, Int.reduceSub, Int.reduceMul, Nat.reduceAdd, Nat.reduceMul, cI_th, cR_th, cV_th, xT_th, bl_10, x1, is_T hT, x2]
      rfl
  · refine ⟨A, thE E, ?_, FrC_refl A, EE_th E⟩
    have x1 := c_ex0 (A := A) (E := E) (d - 1) (by omega) t0 t1 ht
    rw [if_neg (fun z => ht z.1), eD_LC_rested]
    simp (disch := omega) only [cond_true, cond_false, Bool.and_self, Bool.and_true, Bool.true_and, Bool.and_false, Bool.false_and, Bool.not_true, Bool.not_false, Bool.or_true, Bool.true_or, Bool.or_false, Bool.false_or, cond_dec, cI_ok, cR_ok, cV_ok, cJ_ok, bo_nr, bo_0, bo_i0, nr_0, nr_10, nr_11, nr_i0, nr_i1, bl_0, iI_add, iI_sub, iI_mul, iI_neg, qlt, qeq, qmax, qmin, qdiv, qrem, qn0, qin, I_0, w_0, I_1, w_1, I_2, w_2, I_3, w_3, I_4, w_4, I_5, w_5, I_6, w_6, I_7, w_7, I_8, w_8, I_9, w_9, I_10, w_10, I_11, w_11, I_12, w_12, I_13, w_13, I_14, w_14, I_15, w_15, I_16, w_16, I_17, w_17, I_18, w_18, I_19, w_19, I_20, w_20, I_21, w_21, I_22, w_22, I_23, w_23, I_24, w_24, I_25, w_25, I_26, w_26, I_27, w_27, I_28, w_28, I_29, w_29, I_30, w_30, I_31, w_31, I_32, w_32, I_33, w_33, I_34, w_34, I_35, w_35, I_36, w_36, I_37, w_37, I_38, w_38, I_39, w_39, I_40, w_40, I_41, w_41, I_at, w_at, th_MM, J_MM, wJ_MM, P_F, P_G, fA_in, fA_k, fA_p, fA_P, uA_P, cA_P, uA_eq, uA_k, uA_p, cA_in, cA_k, cA_p, cp_at, cp_le, qlt0, nr_ib, Nat.not_lt_zero, decide_false, ki_1, kp_1_0, kp_1_1, kp_1_2, kp_1_3, kp_1_4, kp_1_5, kp_1_6, kp_1_7, kp_1_8, kp_1_9, kp_1_10, ki_2, kp_2_0, kp_2_1, ki_17, kp_17_0, kp_17_1, ki_32, kp_32_0, kp_32_3, ki_33, kp_33_0, kp_33_1, ki_48, kz_48, ki_49, kp_49_0, ki_50, kz_50, krr_50, ki_67, kp_67_0, kp_67_1, kp_67_2, kp_67_3, kp_67_4, ki_68, kz_68, krr_68, ki_69, kz_69, krr_69, ki_70, kz_70, ki_71, kz_71, ki_144, kp_144_0, kp_144_1, kp_144_2, kp_144_3, kp_144_4, ki_145, kz_145, ki_146, kz_146, ki_147, kz_147, ki_148, kz_148, ki_149, kp_149_0, kp_149_1, kp_149_2, ki_150, kz_150, ki_151, kz_151, ki_152, kp_152_0, kp_152_1, kp_152_2, ki_153, kz_153, ki_154, kz_154, ki_155, kz_155, ki_156, kp_156_0, kp_156_1, kp_156_2, ki_157, kz_157, ki_158, kp_158_0, ki_159, kz_159, ki_160, kz_160, ki_161, kp_161_1, kp_161_2, kp_161_3, kp_161_4, kp_161_7, kp_161_21, kp_161_22, kp_161_23, kp_161_26, kp_161_27, kp_161_28, kp_161_29, kp_161_30, kp_161_32, kp_161_33, kp_161_37, kp_161_40, ki_162, kz_162, ki_163, kz_163, ki_164, kz_164, ki_165, kz_165, ki_166, kz_166, ki_167, kz_167, ki_168, kz_168, ki_169, kz_169, ki_170, kz_170, ki_171, kz_171, ki_172, kz_172, ki_173, kz_173, ki_174, kz_174, ki_175, kz_175, ki_176, kz_176, ki_177, kz_177, ki_178, kz_178, ki_179, kz_179, li_m1000000, li_m8, li_m5, li_m1, li_0, li_1, li_2, li_3, li_4, li_5, li_6, li_7, li_8, li_9, li_10, li_11, li_12, li_13, li_14, li_15, li_16, li_17, li_18, li_19, li_20, li_21, li_22, li_23, li_24, li_25, li_26, li_27, li_28, li_29, li_30, li_31, li_32, li_42, li_43, li_46, li_47, li_48, li_49, li_52, li_57, li_59, li_60, li_64, li_89, li_94, li_97, li_99, li_100, li_108, li_112, li_120, li_122, li_150, li_255, li_300, li_450, li_500, li_671, li_890, li_1000, li_1001, li_1002, li_1003, li_1424, li_12345, li_32767, li_500000, li_1000000, li_1103515245, Int.reduceEq, Int.reduceLT, Int.reduceLE, reduceIte, Int.reduceAdd, Int.reduceSub, Int.reduceMul, Nat.reduceAdd, Nat.reduceMul, cI_th, cR_th, cV_th, xT_th, bl_10, x1]
    rfl
theorem m_moreRested (d : Nat) (hd : 3 < d) (hr : RowAt A 0 σ) (hf : WF σ) (ht : t = 0 ∨ t = 1) (u0 : 0 ≤ u) (u1 : u < un σ t) (x0 : 0 ≤ x) (x1 : x < un σ t) : D_Md_isMoreRested d (MM A E) 161 (iI t) (iI u) (iI x) = some (.inl (some (.int (bo (decide (cd σ t u < cd σ t x))))), MM A E) := by
  have hw := WF_t hf ht
  have w6 := un_6 hw
  have a1 := m_ofUnit (E := E) (u := u) (d - 1) (by omega) hr (by decide) (by decide) ht u0 (by omega) (w := 5) (by decide) (by decide)
  have a2 := m_ofUnit (E := E) (u := x) (d - 1) (by omega) hr (by decide) (by decide) ht x0 (by omega) (w := 5) (by decide) (by decide)
  have a3 := m_power (E := E) (u := u) (d - 1) (by omega) hr hf (by decide) (by decide) ht u0 u1 (w := 0) (.inl rfl)
  have a4 := m_power (E := E) (u := x) (d - 1) (by omega) hr hf (by decide) (by decide) ht x0 x1 (w := 0) (.inl rfl)
  have p1 := pw_rg hw u0 u1 (w := 0) (.inl rfl)
  have p2 := pw_rg hw x0 x1 (w := 0) (.inl rfl)
  obtain ⟨-, -, b2, -, -, b5⟩ := hw.2.2.2.2.2.2.2 u u0 u1
  obtain ⟨-, -, c2, -, -, c5⟩ := hw.2.2.2.2.2.2.2 x x0 x1
  rw [eD_Md_isMoreRested]
  simp (disch := omega) only [cond_true, cond_false, Bool.and_self, Bool.and_true, Bool.true_and, Bool.and_false, Bool.false_and, Bool.not_true, Bool.not_false, Bool.or_true, Bool.true_or, Bool.or_false, Bool.false_or, cond_dec, cI_ok, cR_ok, cV_ok, cJ_ok, bo_nr, bo_0, bo_i0, nr_0, nr_10, nr_11, nr_i0, nr_i1, bl_0, iI_add, iI_sub, iI_mul, iI_neg, qlt, qeq, qmax, qmin, qdiv, qrem, qn0, qin, I_0, w_0, I_1, w_1, I_2, w_2, I_3, w_3, I_4, w_4, I_5, w_5, I_6, w_6, I_7, w_7, I_8, w_8, I_9, w_9, I_10, w_10, I_11, w_11, I_12, w_12, I_13, w_13, I_14, w_14, I_15, w_15, I_16, w_16, I_17, w_17, I_18, w_18, I_19, w_19, I_20, w_20, I_21, w_21, I_22, w_22, I_23, w_23, I_24, w_24, I_25, w_25, I_26, w_26, I_27, w_27, I_28, w_28, I_29, w_29, I_30, w_30, I_31, w_31, I_32, w_32, I_33, w_33, I_34, w_34, I_35, w_35, I_36, w_36, I_37, w_37, I_38, w_38, I_39, w_39, I_40, w_40, I_41, w_41, I_at, w_at, th_MM, J_MM, wJ_MM, P_F, P_G, fA_in, fA_k, fA_p, fA_P, uA_P, cA_P, uA_eq, uA_k, uA_p, cA_in, cA_k, cA_p, cp_at, cp_le, qlt0, nr_ib, Nat.not_lt_zero, decide_false, ki_1, kp_1_0, kp_1_1, kp_1_2, kp_1_3, kp_1_4, kp_1_5, kp_1_6, kp_1_7, kp_1_8, kp_1_9, kp_1_10, ki_2, kp_2_0, kp_2_1, ki_17, kp_17_0, kp_17_1, ki_32, kp_32_0, kp_32_3, ki_33, kp_33_0, kp_33_1, ki_48, kz_48, ki_49, kp_49_0, ki_50, kz_50, krr_50, ki_67, kp_67_0, kp_67_1, kp_67_2, kp_67_3, kp_67_4, ki_68, kz_68, krr_68, ki_69, kz_69, krr_69, ki_70, kz_70, ki_71, kz_71, ki_144, kp_144_0, kp_144_1, kp_144_2, kp_144_3, kp_144_4, ki_145, kz_145, ki_146, kz_146, ki_147, kz_147, ki_148, kz_148, ki_149, kp_149_0, kp_149_1, kp_149_2, ki_150, kz_150, ki_151, kz_151, ki_152, kp_152_0, kp_152_1, kp_152_2, ki_153, kz_153, ki_154, kz_154, ki_155, kz_155, ki_156, kp_156_0, kp_156_1, kp_156_2, ki_157, kz_157, ki_158, kp_158_0, ki_159, kz_159, ki_160, kz_160, ki_161, kp_161_1, kp_161_2, kp_161_3, kp_161_4, kp_161_7, kp_161_21, kp_161_22, kp_161_23, kp_161_26, kp_161_27, kp_161_28, kp_161_29, kp_161_30, kp_161_32, kp_161_33, kp_161_37, kp_161_40, ki_162, kz_162, ki_163, kz_163, ki_164, kz_164, ki_165, kz_165, ki_166, kz_166, ki_167, kz_167, ki_168, kz_168, ki_169, kz_169, ki_170, kz_170, ki_171, kz_171, ki_172, kz_172, ki_173, kz_173, ki_174, kz_174, ki_175, kz_175, ki_176, kz_176, ki_177, kz_177, ki_178, kz_178, ki_179, kz_179, li_m1000000, li_m8, li_m5, li_m1, li_0, li_1, li_2, li_3, li_4, li_5, li_6, li_7, li_8, li_9, li_10, li_11, li_12, li_13, li_14, li_15, li_16, li_17, li_18, li_19, li_20, li_21, li_22, li_23, li_24, li_25, li_26, li_27, li_28, li_29, li_30, li_31, li_32, li_42, li_43, li_46, li_47, li_48, li_49, li_52, li_57, li_59, li_60, li_64, li_89, li_94, li_97, li_99, li_100, li_108, li_112, li_120, li_122, li_150, li_255, li_300, li_450, li_500, li_671, li_890, li_1000, li_1001, li_1002, li_1003, li_1424, li_12345, li_32767, li_500000, li_1000000, li_1103515245, Int.reduceEq, Int.reduceLT, Int.reduceLE, reduceIte, Int.reduceAdd, Int.reduceSub, Int.reduceMul, Nat.reduceAdd, Nat.reduceMul, a1, a2, a3, a4]
  unfold cd
  by_cases q1 : uf σ t u 5 - uf σ t x 5 = 0
  · rw [if_pos q1]
    by_cases q2 : pw σ t u 0 - pw σ t x 0 = 0
    · rw [if_pos q2]
      by_cases q3 : u < x
      · rw [if_pos q3, decide_eq_true (by omega)]; rfl
      · rw [if_neg q3, decide_eq_false (by omega)]; rfl
    · rw [if_neg q2]
      by_cases q3 : 0 < pw σ t u 0 - pw σ t x 0
      · rw [if_pos q3, decide_eq_true (by omega)]; rfl
      · rw [if_neg q3, decide_eq_false (by omega)]; rfl
  · rw [if_neg q1]
    by_cases q3 : 0 < uf σ t u 5 - uf σ t x 5
    · rw [if_pos q3, decide_eq_true (by omega)]; rfl
    · rw [if_neg q3, decide_eq_false (by omega)]; rfl
theorem cnt_rg : ∀ (n : Nat) (K : Int → Int) (c : Int), 0 ≤ cnt K n c ∧ cnt K n c ≤ n
  | 0, _, _ => ⟨Int.le_refl _, Int.le_refl _⟩
  | n + 1, K, c => by
    have := cnt_rg n K c
    unfold cnt
    split <;> omega
theorem m_rested (d : Nat) (hd : 20 < d) (hs : WS S) (h : MI A S) (t0 : -2147483648 ≤ t) (t1 : t < 2147483648) (k0 : -2147483648 ≤ k) (k1 : k < 2147483648) : MQa (D_Md_rested d (MM A E) 161 (iI t) (iI k)) A E 1 (spRested (sR S) t k) := by
  have hf := hs.1
  have hr : RowAt (uA A 161 0 0) 0 (sR S) := Row0 h.1
  have z0 : uA A 161 0 0 161 0 = 0 := uA_eq _ _ _
  have f1 : FrM A (uA A 161 0 0) := FrM_u (by decide)
  have mt := m_isUnit (E := E) (d - 1) (by omega) hr hf t0 t1 k0 k1
  generalize hB : uA A 161 0 0 = B at *
  unfold spRested
  by_cases c : (t = 0 ∨ t = 1) ∧ (0 ≤ k ∧ k < un (sR S) t)
  · rw [if_pos c]
    rw [decide_eq_true c] at mt
    have ht := c.1
    have hw := WF_t hf ht
    have w6 := un_6 hw
    obtain ⟨r1, r2⟩ := rs_kth hw c.2.1 c.2.2
    have mu := m_units (E := E) (d - 1) (by omega) hr (by decide) (by decide) ht
    have inner : ∀ (m o : Nat) (u : Int), (m : Int) + o = un (sR S) t → 0 ≤ u → u < un (sR S) t → L_Md_rested_39 d (MM B E) 161 (iI t) (iI k) (iI u) (iI (cnt (cd (sR S) t) o (cd (sR S) t u))) (iI (o : Int)) = if cnt (cd (sR S) t) (un (sR S) t).toNat (cd (sR S) t u) = k then some (.inl (some (.int (iI u))), MM B E) else L_Md_rested_23 d (MM B E) 161 (iI t) (iI k) (iI (u + 1)) := by
      intro m
      induction m with
      | zero =>
        intro o u hm u0 u1
        have cg := cnt_rg o (cd (sR S) t) (cd (sR S) t u)
        rw [eL_Md_rested_39]
        simp (disch := omega) only [cond_true, cond_false, Bool.and_self, Bool.and_true, Bool.true_and, Bool.and_false, Bool.false_and, Bool.not_true, Bool.not_false, Bool.or_true, Bool.true_or, Bool.or_false, Bool.false_or, cond_dec, cI_ok, cR_ok, cV_ok, cJ_ok, bo_nr, bo_0, bo_i0, nr_0, nr_10, nr_11, nr_i0, nr_i1, bl_0, iI_add, iI_sub, iI_mul, iI_neg, qlt, qeq, qmax, qmin, qdiv, qrem, qn0, qin, I_0, w_0, I_1, w_1, I_2, w_2, I_3, w_3, I_4, w_4, I_5, w_5, I_6, w_6, I_7, w_7, I_8, w_8, I_9, w_9, I_10, w_10, I_11, w_11, I_12, w_12, I_13, w_13, I_14, w_14, I_15, w_15, I_16, w_16, I_17, w_17, I_18, w_18, I_19, w_19, I_20, w_20, I_21, w_21, I_22, w_22, I_23, w_23, I_24, w_24, I_25, w_25, I_26, w_26, I_27, w_27, I_28, w_28, I_29, w_29, I_30, w_30, I_31, w_31, I_32, w_32, I_33, w_33, I_34, w_34, I_35, w_35, I_36, w_36, I_37, w_37, I_38, w_38, I_39, w_39, I_40, w_40, I_41, w_41, I_at, w_at, th_MM, J_MM, wJ_MM, P_F, P_G, fA_in, fA_k, fA_p, fA_P, uA_P, cA_P, uA_eq, uA_k, uA_p, cA_in, cA_k, cA_p, cp_at, cp_le, qlt0, nr_ib, Nat.not_lt_zero, decide_false, ki_1, kp_1_0, kp_1_1, kp_1_2, kp_1_3, kp_1_4, kp_1_5, kp_1_6, kp_1_7, kp_1_8, kp_1_9, kp_1_10, ki_2, kp_2_0, kp_2_1, ki_17, kp_17_0, kp_17_1, ki_32, kp_32_0, kp_32_3, ki_33, kp_33_0, kp_33_1, ki_48, kz_48, ki_49, kp_49_0, ki_50, kz_50, krr_50, ki_67, kp_67_0, kp_67_1, kp_67_2, kp_67_3, kp_67_4, ki_68, kz_68, krr_68, ki_69, kz_69, krr_69, ki_70, kz_70, ki_71, kz_71, ki_144, kp_144_0, kp_144_1, kp_144_2, kp_144_3, kp_144_4, ki_145, kz_145, ki_146, kz_146, ki_147, kz_147, ki_148, kz_148, ki_149, kp_149_0, kp_149_1, kp_149_2, ki_150, kz_150, ki_151, kz_151, ki_152, kp_152_0, kp_152_1, kp_152_2, ki_153, kz_153, ki_154, kz_154, ki_155, kz_155, ki_156, kp_156_0, kp_156_1, kp_156_2, ki_157, kz_157, ki_158, kp_158_0, ki_159, kz_159, ki_160, kz_160, ki_161, kp_161_1, kp_161_2, kp_161_3, kp_161_4, kp_161_7, kp_161_21, kp_161_22, kp_161_23, kp_161_26, kp_161_27, kp_161_28, kp_161_29, kp_161_30, kp_161_32, kp_161_33, kp_161_37, kp_161_40, ki_162, kz_162, ki_163, kz_163, ki_164, kz_164, ki_165, kz_165, ki_166, kz_166, ki_167, kz_167, ki_168, kz_168, ki_169, kz_169, ki_170, kz_170, ki_171, kz_171, ki_172, kz_172, ki_173, kz_173, ki_174, kz_174, ki_175, kz_175, ki_176, kz_176, ki_177, kz_177, ki_178, kz_178, ki_179, kz_179, li_m1000000, li_m8, li_m5, li_m1, li_0, li_1, li_2, li_3, li_4, li_5, li_6, li_7, li_8, li_9, li_10, li_11, li_12, li_13, li_14, li_15, li_16, li_17, li_18, li_19, li_20, li_21, li_22, li_23, li_24, li_25, li_26, li_27, li_28, li_29, li_30, li_31, li_32, li_42, li_43, li_46, li_47, li_48, li_49, li_52, li_57, li_59, li_60, li_64, li_89, li_94, li_97, li_99, li_100, li_108, li_112, li_120, li_122, li_150, li_255, li_300, li_450, li_500, li_671, li_890, li_1000, li_1001, li_1002, li_1003, li_1424, li_12345, li_32767, li_500000, li_1000000, li_1103515245, Int.reduceEq, Int.reduceLT, Int.reduceLE, reduceIte, Int.reduceAdd, Int.reduceSub, Int.reduceMul, Nat.reduceAdd, Nat.reduceMul, mu]
        rw [if_neg (by omega), show (un (sR S) t).toNat = o by omega]
      | succ m ih =>
        intro o u hm u0 u1
        have cg := cnt_rg o (cd (sR S) t) (cd (sR S) t u)
        have mr := m_moreRested (E := E) (u := (o : Int)) (x := u) (d - 1) (by omega) hr hf ht (by omega) (by omega) u0 u1
        have nx := ih (o + 1) u (by omega) u0 u1
        have e2 : cnt (cd (sR S) t) (o + 1) (cd (sR S) t u) = cnt (cd (sR S) t) o (cd (sR S) t u) + if cd (sR S) t o < cd (sR S) t u then 1 else 0 := rfl
        rw [e2, show ((o + 1 : Nat) : Int) = (o : Int) + 1 by omega] at nx
        rw [eL_Md_rested_39]
        simp (disch := omega) only [cond_true, cond_false, Bool.and_self, Bool.and_true, Bool.true_and, Bool.and_false, Bool.false_and, Bool.not_true, Bool.not_false, Bool.or_true, Bool.true_or, Bool.or_false, Bool.false_or, cond_dec, cI_ok, cR_ok, cV_ok, cJ_ok, bo_nr, bo_0, bo_i0, nr_0, nr_10, nr_11, nr_i0, nr_i1, bl_0, iI_add, iI_sub, iI_mul, iI_neg, qlt, qeq, qmax, qmin, qdiv, qrem, qn0, qin, I_0, w_0, I_1, w_1, I_2, w_2, I_3, w_3, I_4, w_4, I_5, w_5, I_6, w_6, I_7, w_7, I_8, w_8, I_9, w_9, I_10, w_10, I_11, w_11, I_12, w_12, I_13, w_13, I_14, w_14, I_15, w_15, I_16, w_16, I_17, w_17, I_18, w_18, I_19, w_19, I_20, w_20, I_21, w_21, I_22, w_22, I_23, w_23, I_24, w_24, I_25, w_25, I_26, w_26, I_27, w_27, I_28, w_28, I_29, w_29, I_30, w_30, I_31, w_31, I_32, w_32, I_33, w_33, I_34, w_34, I_35, w_35, I_36, w_36, I_37, w_37, I_38, w_38, I_39, w_39, I_40, w_40, I_41, w_41, I_at, w_at, th_MM, J_MM, wJ_MM, P_F, P_G, fA_in, fA_k, fA_p, fA_P, uA_P, cA_P, uA_eq, uA_k, uA_p, cA_in, cA_k, cA_p, cp_at, cp_le, qlt0, nr_ib, Nat.not_lt_zero, decide_false, ki_1, kp_1_0, kp_1_1, kp_1_2, kp_1_3, kp_1_4, kp_1_5, kp_1_6, kp_1_7, kp_1_8, kp_1_9, kp_1_10, ki_2, kp_2_0, kp_2_1, ki_17, kp_17_0, kp_17_1, ki_32, kp_32_0, kp_32_3, ki_33, kp_33_0, kp_33_1, ki_48, kz_48, ki_49, kp_49_0, ki_50, kz_50, krr_50, ki_67, kp_67_0, kp_67_1, kp_67_2, kp_67_3, kp_67_4, ki_68, kz_68, krr_68, ki_69, kz_69, krr_69, ki_70, kz_70, ki_71, kz_71, ki_144, kp_144_0, kp_144_1, kp_144_2, kp_144_3, kp_144_4, ki_145, kz_145, ki_146, kz_146, ki_147, kz_147, ki_148, kz_148, ki_149, kp_149_0, kp_149_1, kp_149_2, ki_150, kz_150, ki_151, kz_151, ki_152, kp_152_0, kp_152_1, kp_152_2, ki_153, kz_153, ki_154, kz_154, ki_155, kz_155, ki_156, kp_156_0, kp_156_1, kp_156_2, ki_157, kz_157, ki_158, kp_158_0, ki_159, kz_159, ki_160, kz_160, ki_161, kp_161_1, kp_161_2, kp_161_3, kp_161_4, kp_161_7, kp_161_21, kp_161_22, kp_161_23, kp_161_26, kp_161_27, kp_161_28, kp_161_29, kp_161_30, kp_161_32, kp_161_33, kp_161_37, kp_161_40, ki_162, kz_162, ki_163, kz_163, ki_164, kz_164, ki_165, kz_165, ki_166, kz_166, ki_167, kz_167, ki_168, kz_168, ki_169, kz_169, ki_170, kz_170, ki_171, kz_171, ki_172, kz_172, ki_173, kz_173, ki_174, kz_174, ki_175, kz_175, ki_176, kz_176, ki_177, kz_177, ki_178, kz_178, ki_179, kz_179, li_m1000000, li_m8, li_m5, li_m1, li_0, li_1, li_2, li_3, li_4, li_5, li_6, li_7, li_8, li_9, li_10, li_11, li_12, li_13, li_14, li_15, li_16, li_17, li_18, li_19, li_20, li_21, li_22, li_23, li_24, li_25, li_26, li_27, li_28, li_29, li_30, li_31, li_32, li_42, li_43, li_46, li_47, li_48, li_49, li_52, li_57, li_59, li_60, li_64, li_89, li_94, li_97, li_99, li_100, li_108, li_112, li_120, li_122, li_150, li_255, li_300, li_450, li_500, li_671, li_890, li_1000, li_1001, li_1002, li_1003, li_1424, li_12345, li_32767, li_500000, li_1000000, li_1103515245, Int.reduceEq, Int.reduceLT, Int.reduceLE, reduceIte, Int.reduceAdd, Int.reduceSub, Int.reduceMul, Nat.reduceAdd, Nat.reduceMul, mu, mr]
        rw [if_pos (by omega)]
        by_cases q : (o : Int) = u
        · rw [if_neg (by rw [q]; omega)] at nx
          rw [if_pos q]
          exact nx
        · rw [if_neg q]
          by_cases q2 : cd (sR S) t o < cd (sR S) t u
          · rw [if_pos q2] at nx
            rw [decide_eq_true q2]
            exact nx
          · rw [if_neg q2] at nx
            rw [decide_eq_false q2]
            exact nx
    have outer : ∀ (m : Nat) (u : Int), (m : Int) + u = un (sR S) t → 0 ≤ u → u ≤ rsS (sR S) t (un (sR S) t).toNat k % 8 → L_Md_rested_23 d (MM B E) 161 (iI t) (iI k) (iI u) = some (.inl (some (.int (iI (rsS (sR S) t (un (sR S) t).toNat k % 8)))), MM B E) := by
      intro m
      induction m with
      | zero => intro u hm u0 u1; omega
      | succ m ih =>
        intro u hm u0 u1
        have i1 := inner (un (sR S) t).toNat 0 u (by omega) u0 (by omega)
        have i1' : L_Md_rested_39 d (MM B E) 161 (iI t) (iI k) (iI u) (iI 0) (iI 0) = _ := i1
        rw [eL_Md_rested_23]
        simp (disch := omega) only [cond_true, cond_false, Bool.and_self, Bool.and_true, Bool.true_and, Bool.and_false, Bool.false_and, Bool.not_true, Bool.not_false, Bool.or_true, Bool.true_or, Bool.or_false, Bool.false_or, cond_dec, cI_ok, cR_ok, cV_ok, cJ_ok, bo_nr, bo_0, bo_i0, nr_0, nr_10, nr_11, nr_i0, nr_i1, bl_0, iI_add, iI_sub, iI_mul, iI_neg, qlt, qeq, qmax, qmin, qdiv, qrem, qn0, qin, I_0, w_0, I_1, w_1, I_2, w_2, I_3, w_3, I_4, w_4, I_5, w_5, I_6, w_6, I_7, w_7, I_8, w_8, I_9, w_9, I_10, w_10, I_11, w_11, I_12, w_12, I_13, w_13, I_14, w_14, I_15, w_15, I_16, w_16, I_17, w_17, I_18, w_18, I_19, w_19, I_20, w_20, I_21, w_21, I_22, w_22, I_23, w_23, I_24, w_24, I_25, w_25, I_26, w_26, I_27, w_27, I_28, w_28, I_29, w_29, I_30, w_30, I_31, w_31, I_32, w_32, I_33, w_33, I_34, w_34, I_35, w_35, I_36, w_36, I_37, w_37, I_38, w_38, I_39, w_39, I_40, w_40, I_41, w_41, I_at, w_at, th_MM, J_MM, wJ_MM, P_F, P_G, fA_in, fA_k, fA_p, fA_P, uA_P, cA_P, uA_eq, uA_k, uA_p, cA_in, cA_k, cA_p, cp_at, cp_le, qlt0, nr_ib, Nat.not_lt_zero, decide_false, ki_1, kp_1_0, kp_1_1, kp_1_2, kp_1_3, kp_1_4, kp_1_5, kp_1_6, kp_1_7, kp_1_8, kp_1_9, kp_1_10, ki_2, kp_2_0, kp_2_1, ki_17, kp_17_0, kp_17_1, ki_32, kp_32_0, kp_32_3, ki_33, kp_33_0, kp_33_1, ki_48, kz_48, ki_49, kp_49_0, ki_50, kz_50, krr_50, ki_67, kp_67_0, kp_67_1, kp_67_2, kp_67_3, kp_67_4, ki_68, kz_68, krr_68, ki_69, kz_69, krr_69, ki_70, kz_70, ki_71, kz_71, ki_144, kp_144_0, kp_144_1, kp_144_2, kp_144_3, kp_144_4, ki_145, kz_145, ki_146, kz_146, ki_147, kz_147, ki_148, kz_148, ki_149, kp_149_0, kp_149_1, kp_149_2, ki_150, kz_150, ki_151, kz_151, ki_152, kp_152_0, kp_152_1, kp_152_2, ki_153, kz_153, ki_154, kz_154, ki_155, kz_155, ki_156, kp_156_0, kp_156_1, kp_156_2, ki_157, kz_157, ki_158, kp_158_0, ki_159, kz_159, ki_160, kz_160, ki_161, kp_161_1, kp_161_2, kp_161_3, kp_161_4, kp_161_7, kp_161_21, kp_161_22, kp_161_23, kp_161_26, kp_161_27, kp_161_28, kp_161_29, kp_161_30, kp_161_32, kp_161_33, kp_161_37, kp_161_40, ki_162, kz_162, ki_163, kz_163, ki_164, kz_164, ki_165, kz_165, ki_166, kz_166, ki_167, kz_167, ki_168, kz_168, ki_169, kz_169, ki_170, kz_170, ki_171, kz_171, ki_172, kz_172, ki_173, kz_173, ki_174, kz_174, ki_175, kz_175, ki_176, kz_176, ki_177, kz_177, ki_178, kz_178, ki_179, kz_179, li_m1000000, li_m8, li_m5, li_m1, li_0, li_1, li_2, li_3, li_4, li_5, li_6, li_7, li_8, li_9, li_10, li_11, li_12, li_13, li_14, li_15, li_16, li_17, li_18, li_19, li_20, li_21, li_22, li_23, li_24, li_25, li_26, li_27, li_28, li_29, li_30, li_31, li_32, li_42, li_43, li_46, li_47, li_48, li_49, li_52, li_57, li_59, li_60, li_64, li_89, li_94, li_97, li_99, li_100, li_108, li_112, li_120, li_122, li_150, li_255, li_300, li_450, li_500, li_671, li_890, li_1000, li_1001, li_1002, li_1003, li_1424, li_12345, li_32767, li_500000, li_1000000, li_1103515245, Int.reduceEq, Int.reduceLT, Int.reduceLE, reduceIte, Int.reduceAdd, Int.reduceSub, Int.reduceMul, Nat.reduceAdd, Nat.reduceMul, mu]
        rw [if_pos (by omega), i1']
        by_cases q : cnt (cd (sR S) t) (un (sR S) t).toNat (cd (sR S) t u) = k
        · rw [if_pos q, ← (r2 u u0 (by omega)).mp q]
        · rw [if_neg q]
          refine ih (u + 1) (by omega) (by omega) ?_
          by_cases q3 : u = rsS (sR S) t (un (sR S) t).toNat k % 8
          · exact absurd ((r2 u u0 (by omega)).mpr q3) q
          · omega
    refine ⟨B, E, _, ?_, f1, E0_refl E, z0, fun v hv => Sum.inl.inj hv⟩
    have o1 := outer (un (sR S) t).toNat 0 (by omega) (by decide) r1.1
    rw [eD_Md_rested]
    simp (disch := omega) only [cond_true, cond_false, Bool.and_self, Bool.and_true, Bool.true_and, Bool.and_false, Bool.false_and, Bool.not_true, Bool.not_false, Bool.or_true, Bool.true_or, Bool.or_false, Bool.false_or, cond_dec, cI_ok, cR_ok, cV_ok, cJ_ok, bo_nr, bo_0, bo_i0, nr_0, nr_10, nr_11, nr_i0, nr_i1, bl_0, iI_add, iI_sub, iI_mul, iI_neg, qlt, qeq, qmax, qmin, qdiv, qrem, qn0, qin, I_0, w_0, I_1, w_1, I_2, w_2, I_3, w_3, I_4, w_4, I_5, w_5, I_6, w_6, I_7, w_7, I_8, w_8, I_9, w_9, I_10, w_10, I_11, w_11, I_12, w_12, I_13, w_13, I_14, w_14, I_15, w_15, I_16, w_16, I_17, w_17, I_18, w_18, I_19, w_19, I_20, w_20, I_21, w_21, I_22, w_22, I_23, w_23, I_24, w_24, I_25, w_25, I_26, w_26, I_27, w_27, I_28, w_28, I_29, w_29, I_30, w_30, I_31, w_31, I_32, w_32, I_33, w_33, I_34, w_34, I_35, w_35, I_36, w_36, I_37, w_37, I_38, w_38, I_39, w_39, I_40, w_40, I_41, w_41, I_at, w_at, th_MM, J_MM, wJ_MM, P_F, P_G, fA_in, fA_k, fA_p, fA_P, uA_P, cA_P, uA_eq, uA_k, uA_p, cA_in, cA_k, cA_p, cp_at, cp_le, qlt0, nr_ib, Nat.not_lt_zero, decide_false, ki_1, kp_1_0, kp_1_1, kp_1_2, kp_1_3, kp_1_4, kp_1_5, kp_1_6, kp_1_7, kp_1_8, kp_1_9, kp_1_10, ki_2, kp_2_0, kp_2_1, ki_17, kp_17_0, kp_17_1, ki_32, kp_32_0, kp_32_3, ki_33, kp_33_0, kp_33_1, ki_48, kz_48, ki_49, kp_49_0, ki_50, kz_50, krr_50, ki_67, kp_67_0, kp_67_1, kp_67_2, kp_67_3, kp_67_4, ki_68, kz_68, krr_68, ki_69, kz_69, krr_69, ki_70, kz_70, ki_71, kz_71, ki_144, kp_144_0, kp_144_1, kp_144_2, kp_144_3, kp_144_4, ki_145, kz_145, ki_146, kz_146, ki_147, kz_147, ki_148, kz_148, ki_149, kp_149_0, kp_149_1, kp_149_2, ki_150, kz_150, ki_151, kz_151, ki_152, kp_152_0, kp_152_1, kp_152_2, ki_153, kz_153, ki_154, kz_154, ki_155, kz_155, ki_156, kp_156_0, kp_156_1, kp_156_2, ki_157, kz_157, ki_158, kp_158_0, ki_159, kz_159, ki_160, kz_160, ki_161, kp_161_1, kp_161_2, kp_161_3, kp_161_4, kp_161_7, kp_161_21, kp_161_22, kp_161_23, kp_161_26, kp_161_27, kp_161_28, kp_161_29, kp_161_30, kp_161_32, kp_161_33, kp_161_37, kp_161_40, ki_162, kz_162, ki_163, kz_163, ki_164, kz_164, ki_165, kz_165, ki_166, kz_166, ki_167, kz_167, ki_168, kz_168, ki_169, kz_169, ki_170, kz_170, ki_171, kz_171, ki_172, kz_172, ki_173, kz_173, ki_174, kz_174, ki_175, kz_175, ki_176, kz_176, ki_177, kz_177, ki_178, kz_178, ki_179, kz_179, li_m1000000, li_m8, li_m5, li_m1, li_0, li_1, li_2, li_3, li_4, li_5, li_6, li_7, li_8, li_9, li_10, li_11, li_12, li_13, li_14, li_15, li_16, li_17, li_18, li_19, li_20, li_21, li_22, li_23, li_24, li_25, li_26, li_27, li_28, li_29, li_30, li_31, li_32, li_42, li_43, li_46, li_47, li_48, li_49, li_52, li_57, li_59, li_60, li_64, li_89, li_94, li_97, li_99, li_100, li_108, li_112, li_120, li_122, li_150, li_255, li_300, li_450, li_500, li_671, li_890, li_1000, li_1001, li_1002, li_1003, li_1424, li_12345, li_32767, li_500000, li_1000000, li_1103515245, Int.reduceEq, Int.reduceLT, Int.reduceLE, reduceIte, Int.reduceAdd, Int.reduceSub, Int.reduceMul, Nat.reduceAdd, Nat.reduceMul, hB, mt, bo_T, m_r1 _ z0, o1]
  · rw [if_neg c]
    rw [decide_eq_false c] at mt
    refine ⟨uA B 161 0 1, E, 0, ?_, FrM_tr f1 (FrM_u (by decide)), E0_refl E, uA_eq _ _ _, fun v hv => by cases hv⟩
    rw [eD_Md_rested]
    simp (disch := omega) only [cond_true, cond_false, Bool.and_self, Bool.and_true, Bool.true_and, Bool.and_false, Bool.false_and, Bool.not_true, Bool.not_false, Bool.or_true, Bool.true_or, Bool.or_false, Bool.false_or, cond_dec, cI_ok, cR_ok, cV_ok, cJ_ok, bo_nr, bo_0, bo_i0, nr_0, nr_10, nr_11, nr_i0, nr_i1, bl_0, iI_add, iI_sub, iI_mul, iI_neg, qlt, qeq, qmax, qmin, qdiv, qrem, qn0, qin, I_0, w_0, I_1, w_1, I_2, w_2, I_3, w_3, I_4, w_4, I_5, w_5, I_6, w_6, I_7, w_7, I_8, w_8, I_9, w_9, I_10, w_10, I_11, w_11, I_12, w_12, I_13, w_13, I_14, w_14, I_15, w_15, I_16, w_16, I_17, w_17, I_18, w_18, I_19, w_19, I_20, w_20, I_21, w_21, I_22, w_22, I_23, w_23, I_24, w_24, I_25, w_25, I_26, w_26, I_27, w_27, I_28, w_28, I_29, w_29, I_30, w_30, I_31, w_31, I_32, w_32, I_33, w_33, I_34, w_34, I_35, w_35, I_36, w_36, I_37, w_37, I_38, w_38, I_39, w_39, I_40, w_40, I_41, w_41, I_at, w_at, th_MM, J_MM, wJ_MM, P_F, P_G, fA_in, fA_k, fA_p, fA_P, uA_P, cA_P, uA_eq, uA_k, uA_p, cA_in, cA_k, cA_p, cp_at, cp_le, qlt0, nr_ib, Nat.not_lt_zero, decide_false, ki_1, kp_1_0, kp_1_1, kp_1_2, kp_1_3, kp_1_4, kp_1_5, kp_1_6, kp_1_7, kp_1_8, kp_1_9, kp_1_10, ki_2, kp_2_0, kp_2_1, ki_17, kp_17_0, kp_17_1, ki_32, kp_32_0, kp_32_3, ki_33, kp_33_0, kp_33_1, ki_48, kz_48, ki_49, kp_49_0, ki_50, kz_50, krr_50, ki_67, kp_67_0, kp_67_1, kp_67_2, kp_67_3, kp_67_4, ki_68, kz_68, krr_68, ki_69, kz_69, krr_69, ki_70, kz_70, ki_71, kz_71, ki_144, kp_144_0, kp_144_1, kp_144_2, kp_144_3, kp_144_4, ki_145, kz_145, ki_146, kz_146, ki_147, kz_147, ki_148, kz_148, ki_149, kp_149_0, kp_149_1, kp_149_2, ki_150, kz_150, ki_151, kz_151, ki_152, kp_152_0, kp_152_1, kp_152_2, ki_153, kz_153, ki_154, kz_154, ki_155, kz_155, ki_156, kp_156_0, kp_156_1, kp_156_2, ki_157, kz_157, ki_158, kp_158_0, ki_159, kz_159, ki_160, kz_160, ki_161, kp_161_1, kp_161_2, kp_161_3, kp_161_4, kp_161_7, kp_161_21, kp_161_22, kp_161_23, kp_161_26, kp_161_27, kp_161_28, kp_161_29, kp_161_30, kp_161_32, kp_161_33, kp_161_37, kp_161_40, ki_162, kz_162, ki_163, kz_163, ki_164, kz_164, ki_165, kz_165, ki_166, kz_166, ki_167, kz_167, ki_168, kz_168, ki_169, kz_169, ki_170, kz_170, ki_171, kz_171, ki_172, kz_172, ki_173, kz_173, ki_174, kz_174, ki_175, kz_175, ki_176, kz_176, ki_177, kz_177, ki_178, kz_178, ki_179, kz_179, li_m1000000, li_m8, li_m5, li_m1, li_0, li_1, li_2, li_3, li_4, li_5, li_6, li_7, li_8, li_9, li_10, li_11, li_12, li_13, li_14, li_15, li_16, li_17, li_18, li_19, li_20, li_21, li_22, li_23, li_24, li_25, li_26, li_27, li_28, li_29, li_30, li_31, li_32, li_42, li_43, li_46, li_47, li_48, li_49, li_52, li_57, li_59, li_60, li_64, li_89, li_94, li_97, li_99, li_100, li_108, li_112, li_120, li_122, li_150, li_255, li_300, li_450, li_500, li_671, li_890, li_1000, li_1001, li_1002, li_1003, li_1424, li_12345, li_32767, li_500000, li_1000000, li_1103515245, Int.reduceEq, Int.reduceLT, Int.reduceLE, reduceIte, Int.reduceAdd, Int.reduceSub, Int.reduceMul, Nat.reduceAdd, Nat.reduceMul, hB, mt, bo_F, m_r0 _ z0]
end RS
