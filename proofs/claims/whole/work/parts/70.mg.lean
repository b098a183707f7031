/-! ===== meetings ===== -/
def mkqK (e x y : Int) : Int := -e * 64 + x * 8 + y
def dqX (k : Int) : Int := k / 8 % 8
def dqY (k : Int) : Int := k % 8
def dqB (k : Int) : Int := -(k / 64)
/-- the keys in order, by all pairs below c, and how many -/
def mtqS (σ : Rw) : Nat → (Int → Int) × Nat
  | 0 => (fun _ => 0, 0)
  | c + 1 => if may σ 0 ((c / 6 : Nat) : Int) = true ∧ may σ 1 ((c % 6 : Nat) : Int) = true then (insF (mtqS σ c).2 (mtqS σ c).1 (mkqK (ed σ ((c / 6 : Nat) : Int) ((c % 6 : Nat) : Int)) ((c / 6 : Nat) : Int) ((c % 6 : Nat) : Int)), (mtqS σ c).2 + 1) else mtqS σ c
def spqMeet (σ : Rw) (k w : Int) : Int ⊕ Nat := if (0 ≤ k ∧ k < nm σ) ∧ (0 ≤ w ∧ w ≤ 2) then .inl (if w = 0 then dqX ((mtqS σ 36).1 k) else if w = 1 then dqY ((mtqS σ 36).1 k) else dqB ((mtqS σ 36).1 k)) else .inr 2
section MG0
variable {σ : Rw}
theorem mtq_yes {c : Nat} (x y : Int) (hx : x = ((c / 6 : Nat) : Int)) (hy : y = ((c % 6 : Nat) : Int)) (h0 : may σ 0 x = true) (h1 : may σ 1 y = true) : mtqS σ (c + 1) = (insF (mtqS σ c).2 (mtqS σ c).1 (mkqK (ed σ x y) x y), (mtqS σ c).2 + 1) := by
  subst hx hy
  exact if_pos ⟨h0, h1⟩
theorem mtq_no {c : Nat} (h : ¬ (may σ 0 ((c / 6 : Nat) : Int) = true ∧ may σ 1 ((c % 6 : Nat) : Int) = true)) : mtqS σ (c + 1) = mtqS σ c := if_neg h
theorem mtq_skip {a : Nat} : ∀ (m : Nat), (∀ c, a ≤ c → c < a + m → ¬ (may σ 0 ((c / 6 : Nat) : Int) = true ∧ may σ 1 ((c % 6 : Nat) : Int) = true)) → mtqS σ (a + m) = mtqS σ a
  | 0, _ => rfl
  | m + 1, h => by
    rw [← Nat.add_assoc, mtq_no (h (a + m) (by omega) (by omega))]
    exact mtq_skip m (fun c c0 c1 => h c c0 (by omega))
theorem mtq_good (hf : WF σ) : ∀ c : Nat, c ≤ 36 → ∀ j : Int, 0 ≤ j → j < ((mtqS σ c).2 : Int) → (mtqS σ c).1 j % 64 < 8 * ((c / 6 : Nat) : Int) + ((c % 6 : Nat) : Int) ∧ -30000 ≤ (mtqS σ c).1 j ∧ (mtqS σ c).1 j ≤ 30000
  | 0, _, j, a, b => by
    have b' : j < ((0 : Nat) : Int) := b
    omega
  | c + 1, hc, j, a, b => by
    have ih := mtq_good hf c (by omega)
    unfold mtqS at b ⊢
    split
    · rename_i h
      rw [if_pos h] at b
      have b' : j < (((mtqS σ c).2 + 1 : Nat) : Int) := b
      have er := ed_rg σ ((c / 6 : Nat) : Int) ((c % 6 : Nat) : Int)
      refine insF_all (fun z => z % 64 < 8 * (((c + 1) / 6 : Nat) : Int) + (((c + 1) % 6 : Nat) : Int) ∧ -30000 ≤ z ∧ z ≤ 30000) (mtqS σ c).2 _ _ ?_ (fun i i0 i1 => ?_) j a (by omega)
      · unfold mkqK; omega
      · have := ih i i0 i1
        omega
    · rename_i h
      rw [if_neg h] at b
      have := ih j a b
      omega
theorem mtq_mono : ∀ (m a : Nat), (mtqS σ a).2 ≤ (mtqS σ (a + m)).2
  | 0, a => Nat.le_refl _
  | m + 1, a => by
    have := mtq_mono m a
    have e : mtqS σ (a + m + 1) = if may σ 0 (((a + m) / 6 : Nat) : Int) = true ∧ may σ 1 (((a + m) % 6 : Nat) : Int) = true then (insF (mtqS σ (a + m)).2 (mtqS σ (a + m)).1 (mkqK (ed σ (((a + m) / 6 : Nat) : Int) (((a + m) % 6 : Nat) : Int)) (((a + m) / 6 : Nat) : Int) (((a + m) % 6 : Nat) : Int)), (mtqS σ (a + m)).2 + 1) else mtqS σ (a + m) := rfl
    rw [← Nat.add_assoc, e]
    split
    · show _ ≤ (mtqS σ (a + m)).2 + 1; omega
    · exact this
theorem efq4 {t : Int} (hw : wT σ t) : e0 σ t - f0 σ t ≤ 4 ∧ 1 ≤ e0 σ t - f0 σ t := by
  obtain ⟨a0, a1, -, -, -, -, a6, -⟩ := hw
  have hun : un σ t = tf σ t 0 + tf σ t 1 := rfl
  unfold e0 f0 es fs
  by_cases c : tf σ t 6 = -1
  · simp only [c, if_true]
    by_cases c1 : 0 < tf σ t 4
    · by_cases c2 : 0 < tf σ t 1
      · simp only [c1, c2, and_self, if_true]; omega
      · simp only [c1, c2, and_false, if_true, if_false]; omega
    · simp only [c1, false_and, if_false]; omega
  · simp only [c, if_false]; omega
/-- a row of pairs -/
theorem mtq_row (hf : WF σ) {x : Nat} (hx : may σ 0 x = true) : ∀ m : Nat, (m : Int) ≤ 6 → ((mtqS σ (6 * x + m)).2 : Int) = (mtqS σ (6 * x)).2 + (max 0 (min (m : Int) (e0 σ 1) - f0 σ 1))
  | 0, _ => by
    have := f0_e0 hf.2.2.2.2
    show ((mtqS σ (6 * x)).2 : Int) = _
    omega
  | m + 1, h => by
    have b := f0_e0 hf.2.2.2.2
    have ih := mtq_row hf hx m (by omega)
    have q := may_iff (u := (m : Int)) hf.2.2.2.2
    by_cases c : may σ 1 (m : Int) = true
    · rw [← Nat.add_assoc, mtq_yes (σ := σ) (c := 6 * x + m) (x : Int) (m : Int) (by omega) (by omega) hx c]
      have := q.mp c
      show (((mtqS σ (6 * x + m)).2 + 1 : Nat) : Int) = _
      omega
    · have e1 : ((6 * x + m) / 6 : Nat) = x := by omega
      have e2 : ((6 * x + m) % 6 : Nat) = m := by omega
      rw [← Nat.add_assoc, mtq_no (σ := σ) (c := 6 * x + m) (by rw [e2]; exact fun z => c z.2), ih]
      have : ¬ (f0 σ 1 ≤ (m : Int) ∧ (m : Int) < e0 σ 1) := fun z => c (q.mpr z)
      omega
theorem mtq_rows (hf : WF σ) : ∀ x : Nat, (x : Int) ≤ 6 → ((mtqS σ (6 * x)).2 : Int) = (max 0 (min (x : Int) (e0 σ 0) - f0 σ 0)) * (e0 σ 1 - f0 σ 1)
  | 0, _ => by
    have b := f0_e0 hf.2.2.2.1
    rw [show max 0 (min ((0 : Nat) : Int) (e0 σ 0) - f0 σ 0) = 0 by omega, Int.zero_mul]
    rfl
  | x + 1, h => by
    have b := f0_e0 hf.2.2.2.1
    have b' := f0_e0 hf.2.2.2.2
    have ih := mtq_rows hf x (by omega)
    have q := may_iff (u := (x : Int)) hf.2.2.2.1
    rw [show 6 * (x + 1) = 6 * x + 6 by omega]
    by_cases c : may σ 0 (x : Int) = true
    · have := q.mp c
      rw [mtq_row hf c 6 (by decide), ih, show max 0 (min ((x + 1 : Nat) : Int) (e0 σ 0) - f0 σ 0) = max 0 (min (x : Int) (e0 σ 0) - f0 σ 0) + 1 by omega, Int.add_mul, show max 0 (min ((6 : Nat) : Int) (e0 σ 1) - f0 σ 1) = e0 σ 1 - f0 σ 1 by omega]
      omega
    · have : ¬ (f0 σ 0 ≤ (x : Int) ∧ (x : Int) < e0 σ 0) := fun z => c (q.mpr z)
      rw [mtq_skip (σ := σ) 6 (fun i i0 i1 => by rw [show (i / 6 : Nat) = x by omega]; exact fun z => c z.1), ih, show max 0 (min ((x + 1 : Nat) : Int) (e0 σ 0) - f0 σ 0) = max 0 (min (x : Int) (e0 σ 0) - f0 σ 0) by omega]
theorem mtq_all (hf : WF σ) : ((mtqS σ 36).2 : Int) = nm σ := by
  have b := f0_e0 hf.2.2.2.1
  have := mtq_rows hf 6 (by decide)
  rw [show max 0 (min ((6 : Nat) : Int) (e0 σ 0) - f0 σ 0) = e0 σ 0 - f0 σ 0 by omega] at this
  exact this
theorem nmq_16 (hf : WF σ) : 0 ≤ nm σ ∧ nm σ ≤ 16 := by
  have a := efq4 hf.2.2.2.1
  have b := efq4 hf.2.2.2.2
  unfold nm
  refine ⟨Int.mul_nonneg (by omega) (by omega), ?_⟩
  have := Int.mul_le_mul_of_nonneg_left (c := e0 σ 0 - f0 σ 0) b.1 (by omega)
  omega
theorem mtq_lt (hf : WF σ) {c : Nat} (hc : c < 36) (h0 : may σ 0 ((c / 6 : Nat) : Int) = true) (h1 : may σ 1 ((c % 6 : Nat) : Int) = true) : (mtqS σ c).2 < 16 := by
  have a := nmq_16 hf
  have b := mtq_all hf
  have m := mtq_mono (σ := σ) (36 - (c + 1)) (c + 1)
  rw [show c + 1 + (36 - (c + 1)) = 36 by omega, mtq_yes (σ := σ) (c := c) _ _ rfl rfl h0 h1] at m
  have m' : (mtqS σ c).2 + 1 ≤ (mtqS σ 36).2 := m
  omega
end MG0
