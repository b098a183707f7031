/-! ===== lines given to lines ===== -/
def bU (s : Option (Int × Rw)) (v : Int) (t : Rw) : Option (Int × Rw) := match s with
  | none => some (v, t)
  | some bc => if bc.1 < v then some (v, t) else some bc
def gvO (f : Nat → Option (Int × Rw) → Option (Int × Rw)) : Nat → Nat → Option (Int × Rw) → Option (Int × Rw)
  | 0, _, s => s
  | m + 1, o, s => gvO f m (o + 1) (f o s)
def bb (u o : Nat) : Nat := u / 2 ^ o % 2
def gvM (σ : Rw) (hN aN : Nat) : Nat → Nat → Nat → Nat → Int → Rw → Option (Int × Rw) → Option (Int × Rw)
  | 0, _, _, many, sum, t, s => if many = min hN aN then bU s sum t else s
  | k + 1, l, u, many, sum, t, s => gvM σ hN aN k (l + 1) u many sum (up t l (-1)) (gvO (fun o s => if bb u o = 0 then gvM σ hN aN k (l + 1) (u + 2 ^ o) (many + 1) (sum + ed σ l o) (up t l o) s else s) aN 0 s)
def gvC (σ : Rw) (aN : Nat) : Nat → Nat → Nat → Nat → Int → Rw → Option (Int × Rw) → Option (Int × Rw)
  | 0, _, _, _, sum, t, s => bU s sum t
  | k + 1, l, u, spare, sum, t, s =>
    if 0 < spare then gvC σ aN k (l + 1) u (spare - 1) sum (up t l (-1)) (gvO (fun o s => if bb u o = 0 then gvC σ aN k (l + 1) (u + 2 ^ o) spare (sum + ed σ l o) (up t l o) s else s) aN 0 s)
    else gvO (fun o s => if bb u o = 0 then gvC σ aN k (l + 1) (u + 2 ^ o) spare (sum + ed σ l o) (up t l o) s else s) aN 0 s
theorem gvC_s (σ : Rw) (aN k l u spare : Nat) (sum : Int) (t : Rw) (s : Option (Int × Rw)) : gvC σ aN (k + 1) l u spare sum t s = if 0 < spare then gvC σ aN k (l + 1) u (spare - 1) sum (up t l (-1)) (gvO (fun o s => if bb u o = 0 then gvC σ aN k (l + 1) (u + 2 ^ o) spare (sum + ed σ l o) (up t l o) s else s) aN 0 s)
    else gvO (fun o s => if bb u o = 0 then gvC σ aN k (l + 1) (u + 2 ^ o) spare (sum + ed σ l o) (up t l o) s else s) aN 0 s := rfl
theorem gvM_s (σ : Rw) (hN aN k l u many : Nat) (sum : Int) (t : Rw) (s : Option (Int × Rw)) : gvM σ hN aN (k + 1) l u many sum t s = gvM σ hN aN k (l + 1) u many sum (up t l (-1)) (gvO (fun o s => if bb u o = 0 then gvM σ hN aN k (l + 1) (u + 2 ^ o) (many + 1) (sum + ed σ l o) (up t l o) s else s) aN 0 s) := rfl
def pop (u : Nat) : Nat := bb u 0 + bb u 1 + bb u 2 + bb u 3
theorem pop_le : ∀ a : Fin 5, ∀ u : Fin 16, u.val < 2 ^ a.val → pop u.val ≤ a.val := by decide
theorem pop_or : ∀ u : Fin 16, ∀ o : Fin 4, bb u.val o.val = 0 → pop (u.val + 2 ^ o.val) = pop u.val + 1 := by decide
theorem lt_or : ∀ a : Fin 5, ∀ u : Fin 16, ∀ o : Fin 4, o.val < a.val → u.val < 2 ^ a.val → bb u.val o.val = 0 → u.val + 2 ^ o.val < 2 ^ a.val := by decide
theorem pop_free : ∀ a : Fin 5, ∀ u : Fin 16, u.val < 2 ^ a.val → pop u.val < a.val → ∃ o : Fin 4, o.val < a.val ∧ bb u.val o.val = 0 := by decide
theorem lt_16 : ∀ a : Fin 5, 2 ^ a.val ≤ 16 := by decide
theorem gvO_cg {f g : Nat → Option (Int × Rw) → Option (Int × Rw)} : ∀ (m o : Nat) (s : Option (Int × Rw)), (∀ i s, o ≤ i → i < o + m → f i s = g i s) → gvO f m o s = gvO g m o s
  | 0, _, _, _ => rfl
  | m + 1, o, s, h => by
    show gvO f m (o + 1) (f o s) = gvO g m (o + 1) (g o s)
    rw [h o s (Nat.le_refl _) (by omega)]
    exact gvO_cg m (o + 1) _ (fun i s a b => h i s (by omega) (by omega))
theorem gvO_id {f : Nat → Option (Int × Rw) → Option (Int × Rw)} : ∀ (m o : Nat) (s : Option (Int × Rw)), (∀ i s, o ≤ i → i < o + m → f i s = s) → gvO f m o s = s
  | 0, _, _, _ => rfl
  | m + 1, o, s, h => by
    show gvO f m (o + 1) (f o s) = s
    rw [h o s (Nat.le_refl _) (by omega)]
    exact gvO_id m (o + 1) _ (fun i s a b => h i s (by omega) (by omega))
theorem gvM_skip (σ : Rw) (hN aN : Nat) : ∀ (k l u many : Nat) (sum : Int) (t : Rw) (s : Option (Int × Rw)), many + k < min hN aN → gvM σ hN aN k l u many sum t s = s
  | 0, l, u, many, sum, t, s, h => by
    show (if many = min hN aN then bU s sum t else s) = s
    rw [if_neg (by omega)]
  | k + 1, l, u, many, sum, t, s, h => by
    rw [gvM_s, gvM_skip σ hN aN k _ _ _ _ _ _ (by omega)]
    apply gvO_id
    intro i s _ _
    split
    · exact gvM_skip σ hN aN k _ _ _ _ _ _ (by omega)
    · rfl
theorem gv_eq (σ : Rw) {hN aN : Nat} (ha : aN ≤ 4) : ∀ (k l u spare many : Nat) (sum : Int) (t : Rw) (s : Option (Int × Rw)), k + l = hN → u < 2 ^ aN → pop u = many → many ≤ l → spare + min hN aN + l = hN + many → gvC σ aN k l u spare sum t s = gvM σ hN aN k l u many sum t s
  | 0, l, u, spare, many, sum, t, s, e, hu, hp, hl, hs => by
    have := pop_le ⟨aN, by omega⟩ ⟨u, Nat.lt_of_lt_of_le hu (lt_16 ⟨aN, by omega⟩)⟩ hu
    simp only at this
    show bU s sum t = if many = min hN aN then bU s sum t else s
    rw [if_pos (by omega)]
  | k + 1, l, u, spare, many, sum, t, s, e, hu, hp, hl, hs => by
    have u16 := Nat.lt_of_lt_of_le hu (lt_16 ⟨aN, by omega⟩)
    have lo : gvO (fun o s => if bb u o = 0 then gvC σ aN k (l + 1) (u + 2 ^ o) spare (sum + ed σ l o) (up t l o) s else s) aN 0 s = gvO (fun o s => if bb u o = 0 then gvM σ hN aN k (l + 1) (u + 2 ^ o) (many + 1) (sum + ed σ l o) (up t l o) s else s) aN 0 s := by
      apply gvO_cg
      intro i s _ hi
      by_cases c : bb u i = 0
      · simp only [if_pos c]
        exact gv_eq σ ha k (l + 1) (u + 2 ^ i) spare (many + 1) _ _ s (by omega) (lt_or ⟨aN, by omega⟩ ⟨u, u16⟩ ⟨i, by omega⟩ (by simp only; omega) hu c) (by rw [← hp]; exact pop_or ⟨u, u16⟩ ⟨i, by omega⟩ c) (by omega) (by omega)
      · simp only [if_neg c]
    rw [gvC_s, gvM_s, lo]
    by_cases c : 0 < spare
    · rw [if_pos c]
      exact gv_eq σ ha k (l + 1) u (spare - 1) many _ _ _ (by omega) hu hp (by omega) (by omega)
    · rw [if_neg c]
      exact (gvM_skip σ hN aN k _ _ _ _ _ _ (by omega)).symm
theorem bU_some (s : Option (Int × Rw)) (v : Int) (t : Rw) : (bU s v t).isSome = true := by
  unfold bU
  split
  · rfl
  · split <;> rfl
theorem gvO_some {f : Nat → Option (Int × Rw) → Option (Int × Rw)} : ∀ (m o : Nat) (s : Option (Int × Rw)), (∀ i s, s.isSome = true → (f i s).isSome = true) → s.isSome = true → (gvO f m o s).isSome = true
  | 0, _, _, _, hs => hs
  | m + 1, o, s, h, hs => gvO_some m (o + 1) _ h (h o s hs)
theorem gvO_some2 {f : Nat → Option (Int × Rw) → Option (Int × Rw)} {j : Nat} : ∀ (m o : Nat) (s : Option (Int × Rw)), (∀ i s, s.isSome = true → (f i s).isSome = true) → (∀ s, (f j s).isSome = true) → o ≤ j → j < o + m → (gvO f m o s).isSome = true
  | 0, _, _, _, _, _, _ => by omega
  | m + 1, o, s, h, g, a, b => by
    show (gvO f m (o + 1) (f o s)).isSome = true
    by_cases c : o = j
    · subst c
      exact gvO_some m (o + 1) _ h (g s)
    · exact gvO_some2 m (o + 1) _ h g (by omega) (by omega)
theorem gvC_some0 (σ : Rw) (aN : Nat) : ∀ (k l u spare : Nat) (sum : Int) (t : Rw) (s : Option (Int × Rw)), s.isSome = true → (gvC σ aN k l u spare sum t s).isSome = true
  | 0, _, _, _, sum, t, s, _ => bU_some s sum t
  | k + 1, l, u, spare, sum, t, s, hs => by
    have lo : (gvO (fun o s => if bb u o = 0 then gvC σ aN k (l + 1) (u + 2 ^ o) spare (sum + ed σ l o) (up t l o) s else s) aN 0 s).isSome = true := by
      apply gvO_some
      · intro i s hs
        show (if bb u i = 0 then _ else s).isSome = true
        split
        · exact gvC_some0 σ aN k _ _ _ _ _ _ hs
        · exact hs
      · exact hs
    rw [gvC_s]
    split
    · exact gvC_some0 σ aN k _ _ _ _ _ _ lo
    · exact lo
theorem gvC_some (σ : Rw) {hN aN : Nat} (ha : aN ≤ 4) : ∀ (k l u spare many : Nat) (sum : Int) (t : Rw) (s : Option (Int × Rw)), k + l = hN → u < 2 ^ aN → pop u = many → spare + min hN aN + l = hN + many → (gvC σ aN k l u spare sum t s).isSome = true
  | 0, _, _, _, _, sum, t, s, _, _, _, _ => bU_some s sum t
  | k + 1, l, u, spare, many, sum, t, s, e, hu, hp, hs => by
    have u16 := Nat.lt_of_lt_of_le hu (lt_16 ⟨aN, by omega⟩)
    rw [gvC_s]
    by_cases c : 0 < spare
    · rw [if_pos c]
      exact gvC_some σ (hN := hN) ha k (l + 1) u (spare - 1) many _ _ _ (by omega) hu hp (by omega)
    · rw [if_neg c]
      obtain ⟨o, o1, o2⟩ := pop_free ⟨aN, by omega⟩ ⟨u, u16⟩ hu (by simp only; omega)
      simp only at o1 o2
      refine gvO_some2 (j := o.val) _ _ _ (fun i s hs => ?_) (fun s => ?_) (by omega) (by omega)
      · show (if bb u i = 0 then _ else s).isSome = true
        split
        · exact gvC_some0 σ aN k _ _ _ _ _ _ hs
        · exact hs
      · simp only [if_pos o2]
        exact gvC_some σ (hN := hN) ha k (l + 1) (u + 2 ^ o.val) spare (many + 1) _ _ s (by omega) (lt_or ⟨aN, by omega⟩ ⟨u, u16⟩ o o1 hu o2) (by rw [← hp]; exact pop_or ⟨u, u16⟩ o o2) (by omega)
theorem bx_shr : ∀ u : Fin 16, ∀ o : Fin 4, (iI ((u.val : Nat) : Int) >>> (iI ((o.val : Nat) : Int) &&& iI 31)) &&& iI 1 = iI ((bb u.val o.val : Nat) : Int) := by decide
theorem bx_or : ∀ u : Fin 16, ∀ o : Fin 4, bb u.val o.val = 0 → iI ((u.val : Nat) : Int) ||| (iI 1 <<< (iI ((o.val : Nat) : Int) &&& iI 31)) = iI ((u.val + 2 ^ o.val : Nat) : Int) := by decide
theorem bb_le (u o : Nat) : bb u o ≤ 1 := by unfold bb; omega
def gvB (σ : Rw) : Option (Int × Rw) := gvM σ (tf σ 0 0).toNat (tf σ 1 0).toNat (tf σ 0 0).toNat 0 0 0 0 (fun _ => 0) none
def spGiven (σ : Rw) (i : Int) : Int ⊕ Nat := if -1 ≤ i ∧ i < tf σ 0 0 then .inl (match gvB σ with
  | none => 0
  | some bc => if i = -1 then bc.1 else bc.2 i) else .inr 2
