/-! ===== minimax: the first best, worths over turns ===== -/
def sg (t : Int) : Int := if t = 0 then 1 else -1
/-- whether one worth is better than another one for a team -/
def bt (t v w : Int) : Bool := if t = 0 then decide (w < v) else decide (v < w)
theorem bt_sg {t : Int} (ht : t = 0 ∨ t = 1) (v w : Int) : bt t v w = decide (sg t * w < sg t * v) := by
  rcases ht with rfl | rfl
  · exact decide_eq_decide.mpr (by show w < v ↔ 1 * w < 1 * v; omega)
  · exact decide_eq_decide.mpr (by show v < w ↔ -1 * w < -1 * v; omega)
theorem sg_o {t : Int} (ht : t = 0 ∨ t = 1) : sg (1 - t) = - sg t := by rcases ht with rfl | rfl <;> rfl
theorem sg_sq {t : Int} (ht : t = 0 ∨ t = 1) (v : Int) : sg t * (sg t * v) = v := by
  rcases ht with rfl | rfl
  · show 1 * (1 * v) = v; omega
  · show -1 * (-1 * v) = v; omega
/-- the first best of the places below n that may be -/
def bst (b : Int → Int → Bool) (f : Int → Int) (p : Int → Bool) : Nat → Int × Int
  | 0 => (-1, 0)
  | n + 1 => if p n = true then (if (bst b f p n).1 = -1 ∨ b (f n) (bst b f p n).2 = true then ((n : Int), f n) else bst b f p n) else bst b f p n
theorem bst_1 (b : Int → Int → Bool) (f : Int → Int) (p : Int → Bool) (n : Nat) : -1 ≤ (bst b f p n).1 ∧ (bst b f p n).1 < n := by
  induction n with
  | zero => exact ⟨Int.le_refl _, by show (-1 : Int) < 0; decide⟩
  | succ n ih =>
    unfold bst
    split
    · split
      · exact ⟨by show (-1 : Int) ≤ n; omega, by show (n : Int) < ((n + 1 : Nat) : Int); omega⟩
      · exact ⟨ih.1, by omega⟩
    · exact ⟨ih.1, by omega⟩
/-- what the first best is -/
theorem bst_sp (t : Int) (ht : t = 0 ∨ t = 1) (f : Int → Int) (p : Int → Bool) (n : Nat) : ((bst (bt t) f p n).1 = -1 ∧ (bst (bt t) f p n).2 = 0 ∧ ∀ j : Int, 0 ≤ j → j < n → p j = false) ∨
    (0 ≤ (bst (bt t) f p n).1 ∧ p (bst (bt t) f p n).1 = true ∧ (bst (bt t) f p n).2 = f (bst (bt t) f p n).1 ∧ (∀ j : Int, 0 ≤ j → j < n → p j = true → sg t * f j ≤ sg t * (bst (bt t) f p n).2) ∧ ∀ j : Int, 0 ≤ j → j < (bst (bt t) f p n).1 → p j = true → sg t * f j < sg t * (bst (bt t) f p n).2) := by
  induction n with
  | zero => exact .inl ⟨rfl, rfl, fun j a b => by omega⟩
  | succ n ih =>
    unfold bst
    have b1 := bst_1 (bt t) f p n
    by_cases c : p n = true
    · rw [if_pos c]
      by_cases e : (bst (bt t) f p n).1 = -1 ∨ bt t (f n) (bst (bt t) f p n).2 = true
      · rw [if_pos e]
        refine .inr ⟨by show (0 : Int) ≤ n; omega, c, rfl, fun j a b q => ?_, fun j a b q => ?_⟩
        · show sg t * f j ≤ sg t * f n
          by_cases z : j = n
          · rw [z]; exact Int.le_refl _
          · rcases ih with ⟨-, -, h3⟩ | ⟨h1, -, -, h4, -⟩
            · rw [h3 j a (by omega)] at q; cases q
            · rcases e with e | e
              · omega
              · rw [bt_sg ht] at e
                have := of_decide_eq_true e
                have := h4 j a (by omega) q
                omega
        · show sg t * f j < sg t * f n
          have b' : j < (n : Int) := b
          rcases ih with ⟨-, -, h3⟩ | ⟨h1, -, -, h4, -⟩
          · rw [h3 j a (by omega)] at q; cases q
          · rcases e with e | e
            · omega
            · rw [bt_sg ht] at e
              have := of_decide_eq_true e
              have := h4 j a (by omega) q
              omega
      · rw [if_neg e]
        rcases ih with ⟨h1, -⟩ | ⟨h1, h2, h3, h4, h5⟩
        · exact absurd (.inl h1) e
        · refine .inr ⟨h1, h2, h3, fun j a b q => ?_, h5⟩
          by_cases z : j = n
          · have : ¬ bt t (f n) (bst (bt t) f p n).2 = true := fun w => e (.inr w)
            rw [bt_sg ht] at this
            have h := fun w => this (decide_eq_true w)
            rw [z]; exact Int.not_lt.mp h
          · exact h4 j a (by omega) q
    · rw [if_neg c]
      rcases ih with ⟨h1, h2, h3⟩ | ⟨h1, h2, h3, h4, h5⟩
      · refine .inl ⟨h1, h2, fun j a b => ?_⟩
        by_cases z : j = n
        · rw [z]; cases q : p n
          · rfl
          · exact absurd q c
        · exact h3 j a (by omega)
      · refine .inr ⟨h1, h2, h3, fun j a b q => ?_, h5⟩
        by_cases z : j = n
        · rw [z] at q; exact absurd q c
        · exact h4 j a (by omega) q
/-- the first best is the one place that is so -/
theorem bst_un {t : Int} (ht : t = 0 ∨ t = 1) {f : Int → Int} {p : Int → Bool} {n : Nat} {i : Int} (h0 : 0 ≤ i) (hn : i < n) (hp : p i = true) (ha : ∀ j : Int, 0 ≤ j → j < n → p j = true → sg t * f j ≤ sg t * f i) (hb : ∀ j : Int, 0 ≤ j → j < i → p j = true → sg t * f j < sg t * f i) : bst (bt t) f p n = (i, f i) := by
  have b1 := bst_1 (bt t) f p n
  rcases bst_sp t ht f p n with ⟨-, -, h3⟩ | ⟨h1, h2, h3, h4, h5⟩
  · rw [h3 i h0 hn] at hp; cases hp
  · have e : (bst (bt t) f p n).1 = i := by
      by_cases c : (bst (bt t) f p n).1 < i
      · have q1 := hb _ h1 c h2
        have q2 := h4 i h0 hn hp
        rw [h3] at q2
        omega
      · by_cases c' : i < (bst (bt t) f p n).1
        · have q1 := h5 i h0 c' hp
          have q2 := ha _ h1 b1.2 h2
          rw [h3] at q1
          omega
        · omega
    exact Prod.ext e (by rw [h3, e])
theorem bst_cg {b : Int → Int → Bool} {f g : Int → Int} {p : Int → Bool} {n : Nat} (h : ∀ j : Int, 0 ≤ j → j < n → p j = true → f j = g j) : bst b f p n = bst b g p n := by
  induction n with
  | zero => rfl
  | succ n ih =>
    unfold bst
    have e := ih (fun j a c q => h j a (by omega) q)
    rw [e]
    by_cases c : p n = true
    · rw [if_pos c, if_pos c, h n (by omega) (by omega) c]
    · rw [if_neg c, if_neg c]
/-! worths -/
def pX (f u v : Int) : Int := if f = 0 then u else v
def pY (f u v : Int) : Int := if f = 0 then v else u
def Wk (V : Rw → Int) (σ : Rw) (x y : Int) : Int := ed σ x y + V (tn σ x y)
def rp (V : Rw → Int) (σ : Rw) (u : Int) : Int × Int := bst (bt (1 - (1 - σ 1))) (fun v => Wk V σ (pX (1 - σ 1) u v) (pY (1 - σ 1) u v)) (may σ (1 - (1 - σ 1))) 6
def fp (V : Rw → Int) (σ : Rw) : Int × Int := bst (bt (1 - σ 1)) (fun u => (rp V σ u).2) (may σ (1 - σ 1)) 6
def Vk : Nat → Rw → Int
  | 0 => fun _ => 0
  | k + 1 => fun σ => (fp (Vk k) σ).2
theorem may_lt6 {σ : Rw} {t u : Int} (hw : wT σ t) (h : may σ t u = true) : 0 ≤ u ∧ u < 6 := by
  have := may_rg hw h
  obtain ⟨a0, a1, -⟩ := hw
  have hun : un σ t = tf σ t 0 + tf σ t 1 := rfl
  omega
theorem bst_rg (b : Int → Int → Bool) (f : Int → Int) (p : Int → Bool) (n : Nat) (m : Int) (h0 : 0 ≤ m) (h : ∀ j : Int, 0 ≤ j → j < n → p j = true → -m ≤ f j ∧ f j ≤ m) : -m ≤ (bst b f p n).2 ∧ (bst b f p n).2 ≤ m := by
  induction n with
  | zero => exact ⟨by show -m ≤ 0; omega, by show 0 ≤ m; omega⟩
  | succ n ih =>
    unfold bst
    have e := ih (fun j a c q => h j a (by omega) q)
    split
    · split
      · exact h n (by omega) (by omega) ‹_›
      · exact e
    · exact e
theorem Vk_rg (k : Nat) : ∀ σ, -(450 * (k : Int)) ≤ Vk k σ ∧ Vk k σ ≤ 450 * (k : Int) := by
  induction k with
  | zero => intro σ; exact ⟨by show -(450 * (0 : Int)) ≤ 0; decide, by show (0 : Int) ≤ 450 * 0; decide⟩
  | succ k ih =>
    intro σ
    refine bst_rg _ _ _ _ _ (by omega) (fun u _ _ _ => bst_rg _ _ _ _ _ (by omega) (fun v _ _ _ => ?_))
    have a := ed_rg σ (pX (1 - σ 1) u v) (pY (1 - σ 1) u v)
    have b := ih (tn σ (pX (1 - σ 1) u v) (pY (1 - σ 1) u v))
    unfold Wk
    omega
