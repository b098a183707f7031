/-! ===== a game is read, token by token ===== -/
abbrev Mst : Type := Int × Int × Int × Rw
def loN (k : Int) : Int := if k < 5 then 0 else 1
def hiN (k : Int) : Int := if k = 2 then 300 else if k < 5 then 99 else if k = 5 then 15 else 7
def bsU (T u : Int) : Int := 10 + 43 * (T - 1) + 6 * u
/-- what a number does at its slot -/
def nmR (k T u v : Int) (ρ : Rw) : Rw := if k = 0 then up ρ 0 v else if k = 2 then up ρ 2 v else if k = 1 then up ρ (3 + 43 * (T - 1) + 2) v else up (up ρ (bsU T u + (k - 3)) v) (bsU T u + 5) (up ρ (bsU T u + (k - 3)) v (bsU T u + 2))
def nmW (k : Int) : Int := if k < 3 then 10 else if k = 7 then 10 else k + 1
def stNum (b : Int → Int) (n s k T u : Int) (ρ : Rw) : Int ⊕ Mst := if tK b n s = 1 then (if loN k ≤ tV b n s ∧ tV b n s ≤ hiN k then .inr (nmW k, T, u, nmR k T u (tV b n s) ρ) else .inl 2) else .inl 1
def stLine (b : Int → Int) (n s T u : Int) (ρ : Rw) : Int ⊕ Mst :=
  if tK b n s = 3 then (if T < 2 ∨ tf ρ 1 0 = 0 then .inl 4 else .inr (11, T, u, ρ))
  else if isW b n s wd6 then .inr (2, T, u, ρ)
  else if isW b n s wd2 then (if T = 2 then .inl 3 else if T = 1 ∧ tf ρ 0 0 = 0 then .inl 4 else .inr (9, T + 1, u, ρ))
  else if 0 < T ∧ isW b n s wd4 then (if tf ρ (T - 1) 0 = 4 ∨ 0 < tf ρ (T - 1) 1 then .inl 3 else .inr (3, T, tf ρ (T - 1) 0, up ρ (3 + 43 * (T - 1)) (tf ρ (T - 1) 0 + 1)))
  else if 0 < T ∧ isW b n s wd5 then (if tf ρ (T - 1) 1 = 2 then .inl 3 else .inr (3, T, tf ρ (T - 1) 0 + tf ρ (T - 1) 1, up ρ (3 + 43 * (T - 1) + 1) (tf ρ (T - 1) 1 + 1)))
  else .inl 1
def stp (b : Int → Int) (n s w T u : Int) (ρ : Rw) : Int ⊕ Mst :=
  if w = 8 then (if isW b n s wd1 then .inr (0, T, u, ρ) else .inl 1)
  else if w = 9 then (if isW b n s wd3 then .inr (1, T, u, up ρ 1 (T - 1)) else stNum b n s 1 T u ρ)
  else if w = 10 then (if tK b n s = 2 then .inr (11, T, u, ρ) else .inl 1)
  else if w = 11 then stLine b n s T u ρ
  else stNum b n s w T u ρ
def rnm (b : Int → Int) (n : Int) : Nat → Int → Int → Int → Rw → Int → Int × Int × Rw
  | 0, _, _, _, ρ, _ => (0, -1, ρ)
  | k + 1, w, T, u, ρ, p => match stp b n (tS b n p) w T u ρ with
    | .inl f => (f, tS b n p, ρ)
    | .inr M => if tK b n (tS b n p) = 3 then (0, -1, M.2.2.2) else rnm b n k M.1 M.2.1 M.2.2.1 M.2.2.2 (tE b n (tS b n p))
def rwC : Rw := fun i => if i = 2 then 150 else if i = 9 ∨ i = 52 then -1 else 0
/-- what of a unit is there -/
abbrev dn (cu cw u w : Int) : Prop := u < cu ∨ (u = cu ∧ (w < cw ∨ (w = 5 ∧ 3 ≤ cw)))
def rgU (w v : Int) : Prop := (w = 0 ∨ w = 1 → 0 ≤ v ∧ v ≤ 99) ∧ (w = 2 → 1 ≤ v ∧ v ≤ 15) ∧ (w = 3 ∨ w = 4 → 1 ≤ v ∧ v ≤ 7)
def VT (ρ : Rw) (t cu cw : Int) : Prop := (0 ≤ tf ρ t 0 ∧ tf ρ t 0 ≤ 4) ∧ (0 ≤ tf ρ t 1 ∧ tf ρ t 1 ≤ 2) ∧ (0 ≤ tf ρ t 2 ∧ tf ρ t 2 ≤ 99) ∧ (tf ρ t 3 = 0 ∧ tf ρ t 4 = 0 ∧ tf ρ t 5 = 0 ∧ tf ρ t 6 = -1) ∧ ∀ u w, 0 ≤ u → u < 6 → 0 ≤ w → w < 6 → dn cu cw u w → rgU w (uf ρ t u w) ∧ (w = 5 → uf ρ t u 5 = uf ρ t u 2)
def cuF (w T u : Int) (ρ : Rw) (t : Int) : Int := if 3 ≤ w ∧ w ≤ 7 ∧ t = T - 1 then u else un ρ t
def cwF (w T t : Int) : Int := if 3 ≤ w ∧ w ≤ 7 ∧ t = T - 1 then w - 3 else 0
def VM (w T u : Int) (ρ : Rw) : Prop := (0 ≤ T ∧ T ≤ 2) ∧ (0 ≤ w ∧ w ≤ 11) ∧ (w = 1 ∨ w = 9 → 1 ≤ T) ∧ (3 ≤ w ∧ w ≤ 7 → 1 ≤ T ∧ u = un ρ (T - 1) - 1 ∧ 0 ≤ u) ∧ ((0 ≤ ρ 0 ∧ ρ 0 ≤ 99) ∧ (0 ≤ ρ 1 ∧ ρ 1 ≤ 1) ∧ (0 ≤ ρ 2 ∧ ρ 2 ≤ 300)) ∧ (T = 2 → 1 ≤ tf ρ 0 0) ∧ (∀ t, t = 0 ∨ t = 1 → VT ρ t (cuF w T u ρ t) (cwF w T t))
section MC
variable {b : Int → Int} {n s w T u v k t cu cw : Int} {ρ τ : Rw}
theorem VT_cg (ht : t = 0 ∨ t = 1) (h : VT ρ t cu cw) (f : ∀ j, 3 + 43 * t ≤ j → j < 46 + 43 * t → τ j = ρ j) : VT τ t cu cw := by
  have e : ∀ j, 0 ≤ j → j < 7 → tf τ t j = tf ρ t j := fun j a b => f _ (by omega) (by omega)
  have eu : ∀ x y, 0 ≤ x → x < 6 → 0 ≤ y → y < 6 → uf τ t x y = uf ρ t x y := fun x y a b c d => f _ (by omega) (by omega)
  unfold VT
  rw [e 0 (by decide) (by decide), e 1 (by decide) (by decide), e 2 (by decide) (by decide), e 3 (by decide) (by decide), e 4 (by decide) (by decide), e 5 (by decide) (by decide), e 6 (by decide) (by decide)]
  obtain ⟨h1, h2, h3, h4, h5⟩ := h
  refine ⟨h1, h2, h3, h4, fun x y a b c d hd => ?_⟩
  rw [eu x y a b c d, eu x 5 a b (by decide) (by decide), eu x 2 a b (by decide) (by decide)]
  exact h5 x y a b c d hd
theorem cuF_n (h : ¬ (3 ≤ w ∧ w ≤ 7)) : cuF w T u ρ t = un ρ t := if_neg (fun z => h ⟨z.1, z.2.1⟩)
theorem cwF_n (h : ¬ (3 ≤ w ∧ w ≤ 7)) : cwF w T t = 0 := if_neg (fun z => h ⟨z.1, z.2.1⟩)
theorem cuF_o (h : t ≠ T - 1) : cuF w T u ρ t = un ρ t := if_neg (fun z => h z.2.2)
theorem cwF_o (h : t ≠ T - 1) : cwF w T t = 0 := if_neg (fun z => h z.2.2)
theorem cuF_y (h : 3 ≤ w ∧ w ≤ 7) : cuF w T u ρ (T - 1) = u := if_pos ⟨h.1, h.2, rfl⟩
theorem cwF_y (h : 3 ≤ w ∧ w ≤ 7) : cwF w T (T - 1) = w - 3 := if_pos ⟨h.1, h.2, rfl⟩
theorem un_cg (ht : t = 0 ∨ t = 1) (f : ∀ j, 3 + 43 * t ≤ j → j < 46 + 43 * t → τ j = ρ j) : un τ t = un ρ t := by
  have e : ∀ j, 0 ≤ j → j < 7 → tf τ t j = tf ρ t j := fun j a b => f _ (by omega) (by omega)
  unfold un
  rw [e 0 (by decide) (by decide), e 1 (by decide) (by decide)]
/-- nothing but what is wanted changes -/
theorem VM_w {w' : Int} (h : VM w T u ρ) (h1 : ¬ (3 ≤ w ∧ w ≤ 7)) (h2 : ¬ (3 ≤ w' ∧ w' ≤ 7)) (h3 : 0 ≤ w' ∧ w' ≤ 11) (h4 : w' = 1 ∨ w' = 9 → 1 ≤ T) : VM w' T u ρ := by
  obtain ⟨a1, a2, a3, a4, a5, a6, a7⟩ := h
  refine ⟨a1, h3, h4, fun z => absurd z h2, a5, a6, fun t ht => ?_⟩
  have := a7 t ht
  rw [cuF_n h1, cwF_n h1] at this
  rw [cuF_n h2, cwF_n h2]
  exact this
theorem VM_team (h : VM 11 T u ρ) (h1 : T ≠ 2) (h2 : ¬ (T = 1 ∧ tf ρ 0 0 = 0)) : VM 9 (T + 1) u ρ := by
  obtain ⟨a1, a2, a3, a4, a5, a6, a7⟩ := h
  have v0 := (a7 0 (.inl rfl)).1
  refine ⟨⟨by omega, by omega⟩, by decide, fun _ => by omega, fun z => absurd z (by decide), a5, fun z => by omega, fun t ht => ?_⟩
  have := a7 t ht
  rw [cuF_n (by decide), cwF_n (by decide)] at this
  rw [cuF_n (by decide), cwF_n (by decide)]
  exact this
theorem VM_last (h : VM 9 T u ρ) : VM 1 T u (up ρ 1 (T - 1)) := by
  obtain ⟨a1, a2, a3, a4, a5, a6, a7⟩ := h
  have t1 := a3 (.inr rfl)
  have e0 : tf (up ρ 1 (T - 1)) 0 0 = tf ρ 0 0 := up_ne (by decide)
  refine ⟨a1, by decide, fun _ => t1, fun z => absurd z (by decide), ⟨by rw [up_ne (by decide)]; exact a5.1, by rw [up_eq]; omega, by rw [up_ne (by decide)]; exact a5.2.2⟩, fun z => by rw [e0]; exact a6 z, fun t ht => ?_⟩
  have := a7 t ht
  have fr : ∀ j, 3 + 43 * t ≤ j → j < 46 + 43 * t → up ρ 1 (T - 1) j = ρ j := fun j a b => up_ne (by omega)
  rw [cuF_n (by decide), cwF_n (by decide)] at this
  rw [cuF_n (by decide), cwF_n (by decide), un_cg ht fr]
  exact VT_cg ht this fr
/-- clock, extra -/
theorem VM_g (h : VM w T u ρ) (hw : ¬ (3 ≤ w ∧ w ≤ 7)) (hk : k = 0 ∨ k = 2) (v0 : 0 ≤ v) (v1 : v ≤ hiN k) : VM 10 T u (up ρ k v) := by
  obtain ⟨a1, a2, a3, a4, a5, a6, a7⟩ := h
  have e0 : tf (up ρ k v) 0 0 = tf ρ 0 0 := up_ne (by omega)
  refine ⟨a1, by decide, fun z => by omega, fun z => absurd z (by decide), ?_, fun z => by rw [e0]; exact a6 z, fun t ht => ?_⟩
  · rcases hk with rfl | rfl
    · rw [up_eq, up_ne (by decide), up_ne (by decide)]
      exact ⟨⟨v0, v1⟩, a5.2⟩
    · rw [up_eq, up_ne (by decide), up_ne (by decide)]
      exact ⟨a5.1, a5.2.1, ⟨v0, v1⟩⟩
  · have := a7 t ht
    have fr : ∀ j, 3 + 43 * t ≤ j → j < 46 + 43 * t → up ρ k v j = ρ j := fun j a b => up_ne (by omega)
    rw [cuF_n hw, cwF_n hw] at this
    rw [cuF_n (by decide), cwF_n (by decide), un_cg ht fr]
    exact VT_cg ht this fr
/-- save -/
theorem VM_save (h : VM w T u ρ) (hw : w = 1 ∨ w = 9) (v0 : 0 ≤ v) (v1 : v ≤ 99) : VM 10 T u (up ρ (3 + 43 * (T - 1) + 2) v) := by
  obtain ⟨a1, a2, a3, a4, a5, a6, a7⟩ := h
  have t1 := a3 hw
  have nw : ¬ (3 ≤ w ∧ w ≤ 7) := by omega
  have e0 : tf (up ρ (3 + 43 * (T - 1) + 2) v) 0 0 = tf ρ 0 0 := up_ne (by omega)
  refine ⟨a1, by decide, fun z => by omega, fun z => absurd z (by decide), ?_, fun z => by rw [e0]; exact a6 z, fun t ht => ?_⟩
  · rw [up_ne (by omega), up_ne (by omega), up_ne (by omega)]; exact a5
  · have := a7 t ht
    rw [cuF_n nw, cwF_n nw] at this
    rw [cuF_n (by decide), cwF_n (by decide)]
    by_cases c : t = T - 1
    · subst c
      have f : ∀ j, j ≠ 3 + 43 * (T - 1) + 2 → up ρ (3 + 43 * (T - 1) + 2) v j = ρ j := fun j hj => up_ne hj
      obtain ⟨b1, b2, b3, b4, b5⟩ := this
      have eU : un (up ρ (3 + 43 * (T - 1) + 2) v) (T - 1) = un ρ (T - 1) := by
        unfold un tf
        rw [f _ (by omega), f _ (by omega)]
      rw [eU]
      unfold VT tf uf at *
      rw [f _ (by omega), f _ (by omega), f (3 + 43 * (T - 1) + 3) (by omega), f (3 + 43 * (T - 1) + 4) (by omega), f (3 + 43 * (T - 1) + 5) (by omega), f (3 + 43 * (T - 1) + 6) (by omega), up_eq]
      refine ⟨b1, b2, ⟨v0, v1⟩, b4, fun x y c1 c2 c3 c4 hd => ?_⟩
      rw [f _ (by omega), f _ (by omega), f _ (by omega)]
      exact b5 x y c1 c2 c3 c4 hd
    · have fr : ∀ j, 3 + 43 * t ≤ j → j < 46 + 43 * t → up ρ (3 + 43 * (T - 1) + 2) v j = ρ j := fun j a b => up_ne (by omega)
      rw [un_cg ht fr]
      exact VT_cg ht this fr
end MC
