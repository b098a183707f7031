/-! ===== the state as a row of whole numbers: what every method is measured by ===== -/
abbrev Rw : Type := Int → Int
/-- a field of a team: 0 lines, 1 pairs, 2 save, 3 goals, 4 short, 5 pulled, 6 stays -/
def tf (σ : Rw) (t k : Int) : Int := σ (3 + 43 * t + k)
/-- of a unit: 0 attack, 1 guard, 2 full, 3 tires, 4 rests, 5 legs -/
def uf (σ : Rw) (t u w : Int) : Int := σ (10 + 43 * t + 6 * u + w)
def un (σ : Rw) (t : Int) : Int := tf σ t 0 + tf σ t 1
/-- a team as it may be -/
def wT (σ : Rw) (t : Int) : Prop := (1 ≤ tf σ t 0 ∧ tf σ t 0 ≤ 4) ∧ (0 ≤ tf σ t 1 ∧ tf σ t 1 ≤ 2) ∧ (0 ≤ tf σ t 2 ∧ tf σ t 2 ≤ 99) ∧ (0 ≤ tf σ t 3 ∧ tf σ t 3 ≤ 99) ∧ (0 ≤ tf σ t 4 ∧ tf σ t 4 ≤ 15) ∧ (0 ≤ tf σ t 5 ∧ tf σ t 5 ≤ 1) ∧ (-1 ≤ tf σ t 6 ∧ tf σ t 6 < un σ t) ∧
  ∀ u, 0 ≤ u → u < un σ t → (0 ≤ uf σ t u 0 ∧ uf σ t u 0 ≤ 99) ∧ (0 ≤ uf σ t u 1 ∧ uf σ t u 1 ≤ 99) ∧ (1 ≤ uf σ t u 2 ∧ uf σ t u 2 ≤ 15) ∧ (1 ≤ uf σ t u 3 ∧ uf σ t u 3 ≤ 7) ∧ (1 ≤ uf σ t u 4 ∧ uf σ t u 4 ≤ 7) ∧ (0 ≤ uf σ t u 5 ∧ uf σ t u 5 ≤ uf σ t u 2)
def WF (σ : Rw) : Prop := (0 ≤ σ 0 ∧ σ 0 ≤ 99) ∧ (0 ≤ σ 1 ∧ σ 1 ≤ 1) ∧ (0 ≤ σ 2 ∧ σ 2 ≤ 300) ∧ wT σ 0 ∧ wT σ 1
theorem WF_t {σ : Rw} (h : WF σ) {t : Int} (ht : t = 0 ∨ t = 1) : wT σ t := by
  rcases ht with rfl | rfl
  · exact h.2.2.2.1
  · exact h.2.2.2.2
/-- whether a unit may be sent -/
def may (σ : Rw) (t u : Int) : Bool := if tf σ t 6 = -1 then (if 0 < tf σ t 4 ∧ 0 < tf σ t 1 then decide (tf σ t 0 ≤ u ∧ u < un σ t) else decide (0 ≤ u ∧ u < tf σ t 0)) else decide (u = tf σ t 6)
def pw (σ : Rw) (t u w : Int) : Int := uf σ t u w * uf σ t u 5 / uf σ t u 2
/-- a chance out of what it begins with, its lead, who is short -/
def lk (base lead : Int) (s o : Bool) : Int := min 450 (let v := max 0 (base + 2 * lead); if s && !o then v / 2 else if o && !s then v * 2 else v)
def bs (σ : Rw) (t : Int) : Int := 100 - (if tf σ (1 - t) 5 = 1 then 0 else tf σ (1 - t) 2) + (if tf σ t 5 = 1 then σ 2 else 0)
def ch (σ : Rw) (t x y : Int) : Int := lk (bs σ t) (pw σ t x 0 - pw σ (1 - t) y 1) (decide (0 < tf σ t 4)) (decide (0 < tf σ (1 - t) 4))
def ed (σ : Rw) (x y : Int) : Int := ch σ 0 x y - ch σ 1 y x
/-- legs behind a turn by the unit on -/
def lg (σ : Rw) (t u on : Int) : Int := if u = on then max 0 (uf σ t u 5 - uf σ t u 3) else min (uf σ t u 2) (uf σ t u 5 + uf σ t u 4)
/-- the row behind a turn -/
def tn (σ : Rw) (x y : Int) : Rw := fun i =>
  if i = 0 then max 0 (σ 0 - 1)
  else if i = 7 ∨ i = 50 then max 0 (σ i - 1)
  else if i = 9 ∨ i = 52 then -1
  else if 10 ≤ i ∧ i < 46 ∧ (i - 10) % 6 = 5 ∧ (i - 10) / 6 < un σ 0 then lg σ 0 ((i - 10) / 6) x
  else if 53 ≤ i ∧ i < 89 ∧ (i - 53) % 6 = 5 ∧ (i - 53) / 6 < un σ 1 then lg σ 1 ((i - 53) / 6) y
  else σ i
/-! the model's row at a depth -/
def RowAt (A : Am) (a : Int) (σ : Rw) : Prop := ∀ i : Int, 0 ≤ i → i < 89 → A 162 (89 * a + i) = σ i
theorem pw_rg {σ : Rw} {t u w : Int} (hw : wT σ t) (h0 : 0 ≤ u) (h1 : u < un σ t) (hk : w = 0 ∨ w = 1) : 0 ≤ pw σ t u w ∧ pw σ t u w ≤ 99 := by
  obtain ⟨a1, a2, a3, -, -, a6⟩ := hw.2.2.2.2.2.2.2 u h0 h1
  have a0 : 0 ≤ uf σ t u w ∧ uf σ t u w ≤ 99 := by
    rcases hk with rfl | rfl
    · exact a1
    · exact a2
  unfold pw
  refine ⟨Int.ediv_nonneg (Int.mul_nonneg a0.1 a6.1) (by omega), ?_⟩
  refine Int.le_trans (Int.ediv_le_ediv (by omega) (Int.mul_le_mul_of_nonneg_left a6.2 a0.1)) ?_
  rw [Int.mul_ediv_cancel _ (by omega)]
  exact a0.2
theorem lk_rg (b l : Int) (s o : Bool) : 0 ≤ lk b l s o ∧ lk b l s o ≤ 450 := by
  unfold lk
  have h0 : 0 ≤ max 0 (b + 2 * l) := Int.le_max_left _ _
  refine ⟨?_, Int.min_le_left _ _⟩
  simp only
  split
  · omega
  · split
    · omega
    · omega
theorem ed_rg (σ : Rw) (x y : Int) : -450 ≤ ed σ x y ∧ ed σ x y ≤ 450 := by
  have h1 := lk_rg (bs σ 0) (pw σ 0 x 0 - pw σ (1 - 0) y 1) (decide (0 < tf σ 0 4)) (decide (0 < tf σ (1 - 0) 4))
  have h2 := lk_rg (bs σ 1) (pw σ 1 y 0 - pw σ (1 - 1) x 1) (decide (0 < tf σ 1 4)) (decide (0 < tf σ (1 - 1) 4))
  unfold ed ch
  omega
theorem may_rg {σ : Rw} {t u : Int} (hw : wT σ t) (h : may σ t u = true) : 0 ≤ u ∧ u < un σ t := by
  obtain ⟨a0, a1, -, -, -, -, a6, -⟩ := hw
  unfold may un at *
  split at h
  · split at h
    · have := of_decide_eq_true h; omega
    · have := of_decide_eq_true h; omega
  · have := of_decide_eq_true h
    omega
/-! the row behind a turn, field by field -/
section TN
variable {σ : Rw} {x y t u w : Int}
def onT (t x y : Int) : Int := if t = 0 then x else y
theorem tn_0 : tn σ x y 0 = max 0 (σ 0 - 1) := rfl
theorem tn_1 : tn σ x y 1 = σ 1 := rfl
theorem tn_2 : tn σ x y 2 = σ 2 := rfl
theorem tn_f0 (ht : t = 0 ∨ t = 1) : tf (tn σ x y) t 0 = tf σ t 0 := by rcases ht with rfl | rfl <;> rfl
theorem tn_f1 (ht : t = 0 ∨ t = 1) : tf (tn σ x y) t 1 = tf σ t 1 := by rcases ht with rfl | rfl <;> rfl
theorem tn_f2 (ht : t = 0 ∨ t = 1) : tf (tn σ x y) t 2 = tf σ t 2 := by rcases ht with rfl | rfl <;> rfl
theorem tn_f3 (ht : t = 0 ∨ t = 1) : tf (tn σ x y) t 3 = tf σ t 3 := by rcases ht with rfl | rfl <;> rfl
theorem tn_f5 (ht : t = 0 ∨ t = 1) : tf (tn σ x y) t 5 = tf σ t 5 := by rcases ht with rfl | rfl <;> rfl
theorem tn_f4 (ht : t = 0 ∨ t = 1) : tf (tn σ x y) t 4 = max 0 (tf σ t 4 - 1) := by rcases ht with rfl | rfl <;> rfl
theorem tn_f6 (ht : t = 0 ∨ t = 1) : tf (tn σ x y) t 6 = -1 := by rcases ht with rfl | rfl <;> rfl
theorem tn_un (ht : t = 0 ∨ t = 1) : un (tn σ x y) t = un σ t := by unfold un; rw [tn_f0 ht, tn_f1 ht]
theorem tn_u (ht : t = 0 ∨ t = 1) (h0 : 0 ≤ u) (h1 : u < 6) (w0 : 0 ≤ w) (w1 : w < 5) : uf (tn σ x y) t u w = uf σ t u w := by
  unfold uf tn
  rcases ht with rfl | rfl
  · rw [if_neg (by omega), if_neg (by omega), if_neg (by omega), if_neg (by omega), if_neg (by omega)]
  · rw [if_neg (by omega), if_neg (by omega), if_neg (by omega), if_neg (by omega), if_neg (by omega)]
theorem tn_l (ht : t = 0 ∨ t = 1) (h0 : 0 ≤ u) (h1 : u < 6) (h2 : u < un σ t) : uf (tn σ x y) t u 5 = lg σ t u (onT t x y) := by
  unfold uf tn
  rcases ht with rfl | rfl
  · rw [if_neg (by omega), if_neg (by omega), if_neg (by omega), if_pos (by omega), show (10 + 43 * 0 + 6 * u + 5 - 10) / 6 = u by omega]
    rfl
  · rw [if_neg (by omega), if_neg (by omega), if_neg (by omega), if_neg (by omega), if_pos (by omega), show (10 + 43 * 1 + 6 * u + 5 - 53) / 6 = u by omega]
    rfl
theorem lg_rg (hw : wT σ t) (h0 : 0 ≤ u) (h2 : u < un σ t) (s : Int) : 0 ≤ lg σ t u s ∧ lg σ t u s ≤ uf σ t u 2 := by
  obtain ⟨-, -, -, -, -, -, -, h⟩ := hw
  obtain ⟨-, -, b2, b3, b4, b5⟩ := h u h0 h2
  unfold lg
  split <;> omega
theorem wT_tn (ht : t = 0 ∨ t = 1) (hw : wT σ t) : wT (tn σ x y) t := by
  have hw' := hw
  obtain ⟨a0, a1, a2, a3, a4, a5, a6, a7⟩ := hw
  have hun : un σ t = tf σ t 0 + tf σ t 1 := rfl
  refine ⟨?_, ?_, ?_, ?_, ?_, ?_, ?_, ?_⟩
  · rw [tn_f0 ht]; exact a0
  · rw [tn_f1 ht]; exact a1
  · rw [tn_f2 ht]; exact a2
  · rw [tn_f3 ht]; exact a3
  · rw [tn_f4 ht]; omega
  · rw [tn_f5 ht]; exact a5
  · rw [tn_f6 ht, tn_un ht]; omega
  · intro u h0 h1
    rw [tn_un ht] at h1
    rw [tn_u ht h0 (by omega) (by decide) (by decide), tn_u ht h0 (by omega) (by decide) (by decide), tn_u ht h0 (by omega) (by decide) (by decide), tn_u ht h0 (by omega) (by decide) (by decide), tn_u ht h0 (by omega) (by decide) (by decide), tn_l ht h0 (by omega) h1]
    obtain ⟨b0, b1, b2, b3, b4, b5⟩ := a7 u h0 h1
    exact ⟨b0, b1, b2, b3, b4, lg_rg hw' h0 h1 _⟩
theorem WF_tn (hf : WF σ) : WF (tn σ x y) := by
  obtain ⟨h0, h1, h2, h3, h4⟩ := hf
  refine ⟨?_, h1, h2, wT_tn (.inl rfl) h3, wT_tn (.inr rfl) h4⟩
  rw [tn_0]; omega
theorem bs_tn (ht : t = 0 ∨ t = 1) : bs (tn σ x y) t = bs σ t := by
  unfold bs
  rw [tn_f5 ht, tn_f5 (t := 1 - t) (by omega), tn_f2 (t := 1 - t) (by omega), tn_2]
end TN
