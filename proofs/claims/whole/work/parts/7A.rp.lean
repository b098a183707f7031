/-! ===== rotation: what is asked ===== -/
/-- alike but for who is last and the legs of team 0 -/
def Rl (ρ τ : Rw) : Prop := ∀ i : Int, i ≠ 1 → ¬ (10 ≤ i ∧ i < 46 ∧ (i - 10) % 6 = 5) → ρ i = τ i
/-- alike but for who is last -/
def Ru (ρ τ : Rw) : Prop := ∀ i : Int, i ≠ 1 → ρ i = τ i
section RP
variable {ρ τ υ : Rw} {t u w x y x' k : Int}
theorem Rl_refl (ρ : Rw) : Rl ρ ρ := fun _ _ _ => rfl
theorem Rl_symm (h : Rl ρ τ) : Rl τ ρ := fun i a b => (h i a b).symm
theorem Rl_tr (h : Rl ρ τ) (g : Rl τ υ) : Rl ρ υ := fun i a b => (h i a b).trans (g i a b)
theorem Ru_Rl (h : Ru ρ τ) : Rl ρ τ := fun i a _ => h i a
theorem Rl_tf (h : Rl ρ τ) (ht : t = 0 ∨ t = 1) (k0 : 0 ≤ k) (k1 : k < 7) : tf ρ t k = tf τ t k := h _ (by omega) (by omega)
theorem Rl_u1 (h : Rl ρ τ) (u0 : 0 ≤ u) (w0 : 0 ≤ w) : uf ρ 1 u w = uf τ 1 u w := h _ (by omega) (by omega)
theorem Rl_u0 (h : Rl ρ τ) (u0 : 0 ≤ u) (u1 : u < 6) (w0 : 0 ≤ w) (w1 : w < 5) : uf ρ 0 u w = uf τ 0 u w := h _ (by omega) (by omega)
theorem Rl_un (h : Rl ρ τ) (ht : t = 0 ∨ t = 1) : un ρ t = un τ t := by unfold un; rw [Rl_tf h ht (by decide) (by decide), Rl_tf h ht (by decide) (by decide)]
theorem Rl_bs (h : Rl ρ τ) (ht : t = 0 ∨ t = 1) : bs ρ t = bs τ t := by
  have ho : 1 - t = 0 ∨ 1 - t = 1 := by omega
  unfold bs
  rw [Rl_tf (k := 5) h ht (by decide) (by decide), Rl_tf (k := 5) h ho (by decide) (by decide), Rl_tf (k := 2) h ho (by decide) (by decide), h 2 (by decide) (by decide)]
theorem Rl_fs (h : Rl ρ τ) (ht : t = 0 ∨ t = 1) (p s : Int) : fs ρ t p s = fs τ t p s := by
  unfold fs
  rw [Rl_tf (k := 0) h ht (by decide) (by decide), Rl_tf (k := 1) h ht (by decide) (by decide)]
theorem Rl_es (h : Rl ρ τ) (ht : t = 0 ∨ t = 1) (p s : Int) : es ρ t p s = es τ t p s := by
  unfold es
  rw [Rl_tf (k := 0) h ht (by decide) (by decide), Rl_un h ht]
theorem Rl_f0 (h : Rl ρ τ) (ht : t = 0 ∨ t = 1) : f0 ρ t = f0 τ t := by
  unfold f0
  rw [Rl_tf (k := 4) h ht (by decide) (by decide), Rl_tf (k := 6) h ht (by decide) (by decide), Rl_fs h ht]
theorem Rl_e0 (h : Rl ρ τ) (ht : t = 0 ∨ t = 1) : e0 ρ t = e0 τ t := by
  unfold e0
  rw [Rl_tf (k := 4) h ht (by decide) (by decide), Rl_tf (k := 6) h ht (by decide) (by decide), Rl_es h ht]
theorem Rl_may (h : Rl ρ τ) (ht : t = 0 ∨ t = 1) : may ρ t u = may τ t u := by
  unfold may
  rw [Rl_tf (k := 4) h ht (by decide) (by decide), Rl_tf (k := 6) h ht (by decide) (by decide), Rl_tf (k := 1) h ht (by decide) (by decide), Rl_tf (k := 0) h ht (by decide) (by decide), Rl_un h ht]
theorem Rl_p1 (h : Rl ρ τ) (u0 : 0 ≤ u) (w0 : 0 ≤ w) : pw ρ 1 u w = pw τ 1 u w := by
  unfold pw
  rw [Rl_u1 h u0 w0, Rl_u1 h u0 (w := 5) (by decide), Rl_u1 h u0 (w := 2) (by decide)]
theorem Rl_tn (h : Rl ρ τ) : Rl (tn ρ x y) (tn τ x' y) := by
  intro i i1 hi
  have e1 := Rl_un h (t := 1) (.inr rfl)
  simp only [tn]
  by_cases c0 : i = 0
  · rw [if_pos c0, if_pos c0, h 0 (by decide) (by decide)]
  · rw [if_neg c0, if_neg c0]
    by_cases c1 : i = 7 ∨ i = 50
    · rw [if_pos c1, if_pos c1, h i i1 hi]
    · rw [if_neg c1, if_neg c1]
      by_cases c2 : i = 9 ∨ i = 52
      · rw [if_pos c2, if_pos c2]
      · have n1 : ¬ (10 ≤ i ∧ i < 46 ∧ (i - 10) % 6 = 5 ∧ (i - 10) / 6 < un ρ 0) := fun z => hi ⟨z.1, z.2.1, z.2.2.1⟩
        have n2 : ¬ (10 ≤ i ∧ i < 46 ∧ (i - 10) % 6 = 5 ∧ (i - 10) / 6 < un τ 0) := fun z => hi ⟨z.1, z.2.1, z.2.2.1⟩
        rw [if_neg c2, if_neg c2, if_neg n1, if_neg n2]
        by_cases c4 : 53 ≤ i ∧ i < 89 ∧ (i - 53) % 6 = 5 ∧ (i - 53) / 6 < un ρ 1
        · rw [if_pos c4, if_pos (by rw [← e1]; exact c4)]
          unfold lg
          rw [Rl_u1 h (w := 5) (by omega) (by decide), Rl_u1 h (w := 3) (by omega) (by decide), Rl_u1 h (w := 2) (by omega) (by decide), Rl_u1 h (w := 4) (by omega) (by decide)]
        · rw [if_neg c4, if_neg (by rw [← e1]; exact c4), h i i1 hi]
theorem Ru_tf (h : Ru ρ τ) (ht : t = 0 ∨ t = 1) (k0 : 0 ≤ k) : tf ρ t k = tf τ t k := h _ (by omega)
theorem Ru_uf (h : Ru ρ τ) (ht : t = 0 ∨ t = 1) (u0 : 0 ≤ u) (w0 : 0 ≤ w) : uf ρ t u w = uf τ t u w := h _ (by omega)
theorem Ru_pw (h : Ru ρ τ) (ht : t = 0 ∨ t = 1) (u0 : 0 ≤ u) (w0 : 0 ≤ w) : pw ρ t u w = pw τ t u w := by
  unfold pw
  rw [Ru_uf h ht u0 w0, Ru_uf h ht u0 (w := 5) (by decide), Ru_uf h ht u0 (w := 2) (by decide)]
theorem Ru_ch (h : Ru ρ τ) (ht : t = 0 ∨ t = 1) (x0 : 0 ≤ x) (y0 : 0 ≤ y) : ch ρ t x y = ch τ t x y := by
  have ho : 1 - t = 0 ∨ 1 - t = 1 := by omega
  unfold ch
  rw [Rl_bs (Ru_Rl h) ht, Ru_pw h ht x0 (by decide), Ru_pw h ho y0 (by decide), Ru_tf h ht (by decide), Ru_tf h ho (by decide)]
theorem Ru_ed (h : Ru ρ τ) (x0 : 0 ≤ x) (y0 : 0 ≤ y) : ed ρ x y = ed τ x y := by
  unfold ed
  rw [Ru_ch h (.inl rfl) x0 y0, Ru_ch h (.inr rfl) y0 x0]
theorem Ru_lg (h : Ru ρ τ) (ht : t = 0 ∨ t = 1) (u0 : 0 ≤ u) (x : Int) : lg ρ t u x = lg τ t u x := by
  unfold lg
  rw [Ru_uf h ht u0 (w := 5) (by decide), Ru_uf h ht u0 (w := 3) (by decide), Ru_uf h ht u0 (w := 2) (by decide), Ru_uf h ht u0 (w := 4) (by decide)]
theorem Ru_tn (h : Ru ρ τ) : Ru (tn ρ x y) (tn τ x y) := by
  intro i i1
  have e0 := Rl_un (Ru_Rl h) (t := 0) (.inl rfl)
  have e1 := Rl_un (Ru_Rl h) (t := 1) (.inr rfl)
  simp only [tn]
  rw [← e0, ← e1, h 0 (by decide), h i i1]
  by_cases c3 : 10 ≤ i ∧ i < 46 ∧ (i - 10) % 6 = 5 ∧ (i - 10) / 6 < un ρ 0
  · rw [Ru_lg h (.inl rfl) (by omega) x]
    by_cases c4 : 53 ≤ i ∧ i < 89 ∧ (i - 53) % 6 = 5 ∧ (i - 53) / 6 < un ρ 1
    · omega
    · rw [if_neg c4, if_neg c4]
  · rw [if_neg c3, if_neg c3]
    by_cases c4 : 53 ≤ i ∧ i < 89 ∧ (i - 53) % 6 = 5 ∧ (i - 53) / 6 < un ρ 1
    · rw [Ru_lg h (.inr rfl) (by omega) y]
    · rw [if_neg c4, if_neg c4]
theorem Ru_up (ρ : Rw) (v : Int) : Ru (up ρ 1 v) ρ := fun i hi => up_ne hi
/-- with fresh legs at home -/
def fg (ρ : Rw) (x y : Int) : Int := lk (bs ρ 0) (uf ρ 0 x 0 - pw ρ 1 y 1) (decide (0 < tf ρ 0 4)) (decide (0 < tf ρ 1 4)) - lk (bs ρ 1) (pw ρ 1 y 0 - uf ρ 0 x 1) (decide (0 < tf ρ 1 4)) (decide (0 < tf ρ 0 4))
theorem lk_mono {b l l' : Int} (h : l ≤ l') (s o : Bool) : lk b l s o ≤ lk b l' s o := by
  unfold lk
  simp only
  split
  · omega
  · split <;> omega
theorem pw_le (hw : wT ρ t) (h0 : 0 ≤ u) (h1 : u < un ρ t) (hk : w = 0 ∨ w = 1) : pw ρ t u w ≤ uf ρ t u w := by
  obtain ⟨a1, a2, a3, -, -, a6⟩ := hw.2.2.2.2.2.2.2 u h0 h1
  have a0 : 0 ≤ uf ρ t u w := by
    rcases hk with rfl | rfl
    · exact a1.1
    · exact a2.1
  unfold pw
  refine Int.le_trans (Int.ediv_le_ediv (by omega) (Int.mul_le_mul_of_nonneg_left a6.2 a0)) ?_
  rw [Int.mul_ediv_cancel _ (by omega)]
  exact Int.le_refl _
theorem ed_fg (hf : WF ρ) (h0 : 0 ≤ x) (h1 : x < un ρ 0) : ed ρ x y ≤ fg ρ x y := by
  have a := pw_le (w := 0) hf.2.2.2.1 h0 h1 (.inl rfl)
  have b := pw_le (w := 1) hf.2.2.2.1 h0 h1 (.inr rfl)
  have c := lk_mono (b := bs ρ 0) (show pw ρ 0 x 0 - pw ρ 1 y 1 ≤ uf ρ 0 x 0 - pw ρ 1 y 1 by omega) (decide (0 < tf ρ 0 4)) (decide (0 < tf ρ 1 4))
  have d := lk_mono (b := bs ρ 1) (show pw ρ 1 y 0 - uf ρ 0 x 1 ≤ pw ρ 1 y 0 - pw ρ 0 x 1 by omega) (decide (0 < tf ρ 1 4)) (decide (0 < tf ρ 0 4))
  show lk (bs ρ 0) (pw ρ 0 x 0 - pw ρ 1 y 1) (decide (0 < tf ρ 0 4)) (decide (0 < tf ρ 1 4)) - lk (bs ρ 1) (pw ρ 1 y 0 - pw ρ 0 x 1) (decide (0 < tf ρ 1 4)) (decide (0 < tf ρ 0 4)) ≤ fg ρ x y
  unfold fg
  omega
theorem fg_rg (ρ : Rw) (x y : Int) : -450 ≤ fg ρ x y ∧ fg ρ x y ≤ 450 := by
  have a := lk_rg (bs ρ 0) (uf ρ 0 x 0 - pw ρ 1 y 1) (decide (0 < tf ρ 0 4)) (decide (0 < tf ρ 1 4))
  have b := lk_rg (bs ρ 1) (pw ρ 1 y 0 - uf ρ 0 x 1) (decide (0 < tf ρ 1 4)) (decide (0 < tf ρ 0 4))
  unfold fg
  omega
theorem Rl_fg (h : Rl ρ τ) (x0 : 0 ≤ x) (x1 : x < 6) (y0 : 0 ≤ y) : fg ρ x y = fg τ x y := by
  unfold fg
  rw [Rl_bs h (.inl rfl), Rl_bs h (.inr rfl), Rl_u0 h x0 x1 (w := 0) (by decide) (by decide), Rl_u0 h x0 x1 (w := 1) (by decide) (by decide), Rl_p1 h y0 (by decide), Rl_p1 h y0 (by decide), Rl_tf (k := 4) h (.inl rfl) (by decide) (by decide), Rl_tf (k := 4) h (.inr rfl) (by decide) (by decide)]
/-- whether what is told may be sent -/
def tlB (m : Nat → Int) : Nat → Nat → Rw → Bool
  | 0, _, _ => true
  | k + 1, l, ρ => may ρ 1 (m l) && tlB m k (l + 1) (tn ρ (-1) (m l))
theorem tlB_cg (m : Nat → Int) : ∀ (k l : Nat) (ρ τ : Rw), Rl ρ τ → tlB m k l ρ = tlB m k l τ
  | 0, _, _, _, _ => rfl
  | k + 1, l, ρ, τ, h => by
    show (may ρ 1 (m l) && _) = (may τ 1 (m l) && _)
    rw [Rl_may h (.inr rfl), tlB_cg m k (l + 1) _ _ (Rl_tn h)]
theorem tlB_s (m : Nat → Int) (k l : Nat) (ρ : Rw) (x : Int) : tlB m (k + 1) l ρ = (may ρ 1 (m l) && tlB m k (l + 1) (tn ρ x (m l))) := by
  show (may ρ 1 (m l) && _) = _
  rw [tlB_cg m k (l + 1) _ _ (Rl_tn (x := -1) (x' := x) (Rl_refl ρ))]
/-- the way of the class: the first that may be sent at home -/
def tp (m : Nat → Int) (ρ : Rw) : Nat → Rw
  | 0 => ρ
  | j + 1 => tn (tp m ρ j) (f0 (tp m ρ j) 0) (m j)
theorem tp_s (m : Nat → Int) (ρ : Rw) (j : Nat) : tp m ρ (j + 1) = tn (tp m ρ j) (f0 (tp m ρ j) 0) (m j) := rfl
theorem tp_WF (m : Nat → Int) (hf : WF ρ) : ∀ j, WF (tp m ρ j)
  | 0 => hf
  | j + 1 => WF_tn (tp_WF m hf j)
theorem tlB_tp (m : Nat → Int) : ∀ (k l : Nat), tlB m k l (tp m ρ l) = true → ∀ j, l ≤ j → j < l + k → may (tp m ρ j) 1 (m j) = true
  | 0, l, _, j, a, b => by omega
  | k + 1, l, h, j, a, b => by
    rw [tlB_s m k l _ (f0 (tp m ρ l) 0)] at h
    have h2 := (Bool.and_eq_true _ _).mp h
    by_cases c : j = l
    · subst c; exact h2.1
    · exact tlB_tp m k (l + 1) h2.2 j (by omega) (by omega)
def rt (m : Nat → Int) : Nat → Nat → Rw → Int → Rw → Option (Int × Rw) → Option (Int × Rw)
  | 0, _, _, sum, t, s => bU s sum t
  | k + 1, l, ρ, sum, t, s => gvO (fun x s => if may ρ 0 (x : Int) = true then rt m k (l + 1) (tn ρ (x : Int) (m l)) (sum + ed ρ (x : Int) (m l)) (up t l (x : Int)) s else s) 6 0 s
theorem rt_s (m : Nat → Int) (k l : Nat) (ρ : Rw) (sum : Int) (t : Rw) (s : Option (Int × Rw)) : rt m (k + 1) l ρ sum t s = gvO (fun x s => if may ρ 0 (x : Int) = true then rt m k (l + 1) (tn ρ (x : Int) (m l)) (sum + ed ρ (x : Int) (m l)) (up t l (x : Int)) s else s) 6 0 s := rfl
theorem rt_cg (m : Nat → Int) (hm : ∀ j, 0 ≤ m j) : ∀ (k l : Nat) (ρ τ : Rw) (sum : Int) (t : Rw) (s : Option (Int × Rw)), Ru ρ τ → rt m k l ρ sum t s = rt m k l τ sum t s
  | 0, _, _, _, _, _, _, _ => rfl
  | k + 1, l, ρ, τ, sum, t, s, h => by
    rw [rt_s, rt_s]
    apply gvO_cg
    intro i s _ _
    rw [Rl_may (Ru_Rl h) (.inl rfl), Ru_ed h (by omega) (hm l), rt_cg m hm k (l + 1) _ _ _ _ _ (Ru_tn h)]
theorem rt_skip (m : Nat → Int) (hm : ∀ j, 0 ≤ m j) {ρ0 : Rw} {n : Nat} {Hv : Nat → Int} (hn : Hv n = 0) (hH : ∀ j : Nat, 1 ≤ j → j < n → ∀ x, may (tp m ρ0 j) 0 x = true → fg (tp m ρ0 j) x (m j) + Hv (j + 1) ≤ Hv j) {bc : Int × Rw} : ∀ (k l : Nat) (ρ : Rw) (sum : Int) (t : Rw), 1 ≤ l → k + l = n → WF ρ → Rl ρ (tp m ρ0 l) → sum + Hv l ≤ bc.1 → rt m k l ρ sum t (some bc) = some bc
  | 0, l, ρ, sum, t, l1, e, hf, hr, hb => by
    have : l = n := by omega
    subst this
    show (if bc.1 < sum then some (sum, t) else some bc) = some bc
    rw [if_neg (by omega)]
  | k + 1, l, ρ, sum, t, l1, e, hf, hr, hb => by
    rw [rt_s]
    have : ∀ (M o : Nat), gvO (fun x s => if may ρ 0 (x : Int) = true then rt m k (l + 1) (tn ρ (x : Int) (m l)) (sum + ed ρ (x : Int) (m l)) (up t l (x : Int)) s else s) M o (some bc) = some bc := by
      intro M
      induction M with
      | zero => intro o; rfl
      | succ M ih =>
        intro o
        show gvO _ M (o + 1) (if may ρ 0 (o : Int) = true then rt m k (l + 1) (tn ρ (o : Int) (m l)) (sum + ed ρ (o : Int) (m l)) (up t l (o : Int)) (some bc) else some bc) = some bc
        by_cases c : may ρ 0 (o : Int) = true
        · have r := may_rg hf.2.2.2.1 c
          have r6 := may_lt6 hf.2.2.2.1 c
          have q1 := ed_fg (y := m l) hf r.1 r.2
          rw [Rl_fg hr r6.1 r6.2 (hm l)] at q1
          have q2 := hH l l1 (by omega) (o : Int) (by rw [← Rl_may hr (.inl rfl)]; exact c)
          rw [if_pos c, rt_skip m hm hn hH k (l + 1) _ _ _ (by omega) (by omega) (WF_tn hf) (by rw [tp_s]; exact Rl_tn hr) (by omega)]
          exact ih (o + 1)
        · rw [if_neg c]
          exact ih (o + 1)
    exact this 6 0
theorem rt_some0 (m : Nat → Int) : ∀ (k l : Nat) (ρ : Rw) (sum : Int) (t : Rw) (s : Option (Int × Rw)), s.isSome = true → (rt m k l ρ sum t s).isSome = true
  | 0, _, _, sum, t, s, _ => bU_some s sum t
  | k + 1, l, ρ, sum, t, s, hs => by
    rw [rt_s]
    apply gvO_some
    · intro i s hs
      show (if may ρ 0 (i : Int) = true then _ else s).isSome = true
      split
      · exact rt_some0 m k _ _ _ _ _ hs
      · exact hs
    · exact hs
theorem rt_some (m : Nat → Int) : ∀ (k l : Nat) (ρ : Rw) (sum : Int) (t : Rw) (s : Option (Int × Rw)), WF ρ → (rt m k l ρ sum t s).isSome = true
  | 0, _, _, sum, t, s, _ => bU_some s sum t
  | k + 1, l, ρ, sum, t, s, hf => by
    have fe := f0_e0 hf.2.2.2.1
    have my := may_ne hf.2.2.2.1
    rw [rt_s]
    refine gvO_some2 (j := (f0 ρ 0).toNat) _ _ _ (fun i s hs => ?_) (fun s => ?_) (by omega) (by omega)
    · show (if may ρ 0 (i : Int) = true then _ else s).isSome = true
      split
      · exact rt_some0 m k _ _ _ _ _ hs
      · exact hs
    · show (if may ρ 0 (((f0 ρ 0).toNat : Nat) : Int) = true then _ else s).isSome = true
      rw [show (((f0 ρ 0).toNat : Nat) : Int) = f0 ρ 0 by omega, if_pos my]
      exact rt_some m k _ _ _ _ _ (WF_tn hf)
/-- the figures one by one -/
def dgt (F n j : Nat) : Int := ((F / 10 ^ (n - 1 - j) % 10 : Nat) : Int)
theorem dgt_rg (F n j : Nat) : 0 ≤ dgt F n j ∧ dgt F n j ≤ 9 := by unfold dgt; omega
def rtB (σ : Rw) (F n : Nat) : Option (Int × Rw) := rt (dgt F n) n 0 σ 0 (fun _ => 0) none
def spRot (σ : Rw) (F n i : Int) : Int ⊕ Nat :=
  if (1 ≤ n ∧ n ≤ 8) ∧ 0 ≤ F then (if F.toNat / 10 ^ n.toNat = 0 ∧ tlB (dgt F.toNat n.toNat) n.toNat 0 σ = true then (if -1 ≤ i ∧ i < n then .inl (match rtB σ F.toNat n.toNat with
    | none => 0
    | some bc => if i = -1 then bc.1 else bc.2 i) else .inr 2) else .inl (-1000000)) else .inr 1
end RP
