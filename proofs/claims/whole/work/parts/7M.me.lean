/-! ===== a game is read: units ===== -/
section ME
variable {b : Int → Int} {n s w T u v k t cu cw : Int} {ρ τ : Rw}
theorem VM_st (h : VM 11 T u ρ) (t1 : 1 ≤ T) {f : Int} (hf : f = 0 ∨ f = 1) (h0 : f = 0 → tf ρ (T - 1) 0 < 4) (h1 : f = 1 → tf ρ (T - 1) 1 < 2) : VM 3 T (un ρ (T - 1)) (up ρ (3 + 43 * (T - 1) + f) (tf ρ (T - 1) f + 1)) := by
  obtain ⟨a1, a2, a3, a4, a5, a6, a7⟩ := h
  have tt : T - 1 = 0 ∨ T - 1 = 1 := by omega
  have hT := a7 (T - 1) tt
  rw [cuF_n (by decide), cwF_n (by decide)] at hT
  have g : ∀ j, j ≠ 3 + 43 * (T - 1) + f → up ρ (3 + 43 * (T - 1) + f) (tf ρ (T - 1) f + 1) j = ρ j := fun j hj => up_ne hj
  have gs : up ρ (3 + 43 * (T - 1) + f) (tf ρ (T - 1) f + 1) (3 + 43 * (T - 1) + f) = tf ρ (T - 1) f + 1 := up_eq ..
  generalize hτ : up ρ (3 + 43 * (T - 1) + f) (tf ρ (T - 1) f + 1) = τ at *
  obtain ⟨b1, b2, b3, b4, b5⟩ := hT
  have e : ∀ j, j ≠ f → tf τ (T - 1) j = tf ρ (T - 1) j := fun j hj => g _ (by omega)
  have ef : tf τ (T - 1) f = tf ρ (T - 1) f + 1 := gs
  have eu : un τ (T - 1) = un ρ (T - 1) + 1 := by
    unfold un
    rcases hf with rfl | rfl
    · rw [ef, e 1 (by decide)]; omega
    · rw [ef, e 0 (by decide)]; omega
  have un0 : un ρ (T - 1) = tf ρ (T - 1) 0 + tf ρ (T - 1) 1 := rfl
  refine ⟨a1, by decide, fun z => by omega, fun _ => ⟨t1, by omega, by omega⟩, ?_, fun z => ?_, fun t ht => ?_⟩
  · rw [g 0 (by omega), g 1 (by omega), g 2 (by omega)]; exact a5
  · have : tf τ 0 0 = tf ρ 0 0 := g _ (by omega)
    rw [this]; exact a6 z
  · by_cases c : t = T - 1
    · subst c
      rw [cuF_y (by decide), cwF_y (by decide)]
      refine ⟨?_, ?_, by rw [e 2 (by omega)]; exact b3, by rw [e 3 (by omega), e 4 (by omega), e 5 (by omega), e 6 (by omega)]; exact b4, fun x y c1 c2 c3 c4 hd => ?_⟩
      · rcases hf with rfl | rfl
        · rw [ef]; have := h0 rfl; omega
        · rw [e 0 (by decide)]; exact b1
      · rcases hf with rfl | rfl
        · rw [e 1 (by decide)]; exact b2
        · rw [ef]; have := h1 rfl; omega
      · have q : ∀ y', 0 ≤ y' → uf τ (T - 1) x y' = uf ρ (T - 1) x y' := fun y' hy => g _ (by omega)
        rw [q y c3, q 5 (by decide), q 2 (by decide)]
        exact b5 x y c1 c2 c3 c4 (by unfold dn at hd ⊢; omega)
    · have fr : ∀ j, 3 + 43 * t ≤ j → j < 46 + 43 * t → τ j = ρ j := fun j a b => g j (by omega)
      have := a7 t ht
      rw [cuF_n (by decide), cwF_n (by decide)] at this
      rw [cuF_o c, cwF_o c, un_cg ht fr]
      exact VT_cg ht this fr
theorem VM_unum (h : VM k T u ρ) (hk : 3 ≤ k ∧ k ≤ 7) (v0 : loN k ≤ v) (v1 : v ≤ hiN k) : VM (nmW k) T u (nmR k T u v ρ) := by
  obtain ⟨a1, a2, a3, a4, a5, a6, a7⟩ := h
  obtain ⟨t1, uu, u0⟩ := a4 hk
  have tt : T - 1 = 0 ∨ T - 1 = 1 := by omega
  have hT := a7 (T - 1) tt
  rw [cuF_y hk, cwF_y hk] at hT
  have un0 : un ρ (T - 1) = tf ρ (T - 1) 0 + tf ρ (T - 1) 1 := rfl
  obtain ⟨b1, b2, b3, b4, b5⟩ := hT
  have eR : nmR k T u v ρ = up (up ρ (bsU T u + (k - 3)) v) (bsU T u + 5) (up ρ (bsU T u + (k - 3)) v (bsU T u + 2)) := by
    unfold nmR
    rw [if_neg (by omega), if_neg (by omega), if_neg (by omega)]
  have eb : bsU T u = 10 + 43 * (T - 1) + 6 * u := rfl
  have g : ∀ j, j ≠ bsU T u + (k - 3) → j ≠ bsU T u + 5 → nmR k T u v ρ j = ρ j := fun j h1 h2 => by rw [eR, up_ne h2, up_ne h1]
  have gv : nmR k T u v ρ (bsU T u + (k - 3)) = v := by rw [eR, up_ne (by omega), up_eq]
  have g5 : nmR k T u v ρ (bsU T u + 5) = nmR k T u v ρ (bsU T u + 2) := by
    have q : ∀ (f : Rw) (x y : Int), y ≠ x → up f x (f y) x = up f x (f y) y := fun f x y hy => by rw [up_eq, up_ne hy]
    rw [eR]
    exact q _ _ _ (by omega)
  have rv : rgU (k - 3) v := by
    unfold loN at v0
    unfold hiN at v1
    rw [if_neg (by omega)] at v1
    refine ⟨fun z => ?_, fun z => ?_, fun z => ?_⟩
    · rw [if_pos (by omega)] at v0 v1; exact ⟨v0, v1⟩
    · rw [if_neg (by omega)] at v0 v1; rw [if_pos (by omega)] at v1; exact ⟨v0, v1⟩
    · rw [if_neg (by omega)] at v0 v1; rw [if_neg (by omega)] at v1; exact ⟨v0, v1⟩
  generalize hτ : nmR k T u v ρ = τ at *
  have e : ∀ j, 0 ≤ j → j < 7 → tf τ (T - 1) j = tf ρ (T - 1) j := fun j h1 h2 => g _ (by omega) (by omega)
  have eu : un τ (T - 1) = un ρ (T - 1) := by
    unfold un
    rw [e 0 (by decide) (by decide), e 1 (by decide) (by decide)]
  have nw : nmW k = if k = 7 then 10 else k + 1 := by unfold nmW; rw [if_neg (by omega)]
  have nr : 0 ≤ nmW k ∧ nmW k ≤ 11 := by rw [nw]; split <;> omega
  have n1 : ¬ (nmW k = 1 ∨ nmW k = 9) := by rw [nw]; split <;> omega
  refine ⟨a1, nr, fun z => absurd z n1, fun _ => ⟨t1, by omega, u0⟩, ?_, fun z => ?_, fun t ht => ?_⟩
  · rw [g 0 (by omega) (by omega), g 1 (by omega) (by omega), g 2 (by omega) (by omega)]; exact a5
  · have : tf τ 0 0 = tf ρ 0 0 := g _ (by omega) (by omega)
    rw [this]; exact a6 z
  · by_cases c : t = T - 1
    · subst c
      have key : ∀ x y, 0 ≤ x → x < 6 → 0 ≤ y → y < 6 → (x < u ∨ (x = u ∧ (y ≤ k - 3 ∨ y = 5))) → rgU y (uf τ (T - 1) x y) ∧ (y = 5 → uf τ (T - 1) x 5 = uf τ (T - 1) x 2) := by
        intro x y c1 c2 c3 c4 hd
        by_cases q : x = u
        · subst q
          by_cases q5 : y = 5
          · subst q5
            refine ⟨⟨fun z => by omega, fun z => by omega, fun z => by omega⟩, fun _ => ?_⟩
            exact g5
          · refine ⟨?_, fun z => absurd z q5⟩
            by_cases qk : y = k - 3
            · subst qk
              have : uf τ (T - 1) x (k - 3) = v := gv
              rw [this]; exact rv
            · have : uf τ (T - 1) x y = uf ρ (T - 1) x y := g _ (by omega) (by omega)
              rw [this]
              exact (b5 x y c1 c2 c3 c4 (.inr ⟨rfl, .inl (by omega)⟩)).1
        · have ee : ∀ y', 0 ≤ y' → y' < 6 → uf τ (T - 1) x y' = uf ρ (T - 1) x y' := fun y' h1 h2 => g _ (by omega) (by omega)
          rw [ee y c3 c4, ee 5 (by decide) (by decide), ee 2 (by decide) (by decide)]
          exact b5 x y c1 c2 c3 c4 (.inl (by omega))
      refine ⟨by rw [e 0 (by decide) (by decide)]; exact b1, by rw [e 1 (by decide) (by decide)]; exact b2, by rw [e 2 (by decide) (by decide)]; exact b3, by rw [e 3 (by decide) (by decide), e 4 (by decide) (by decide), e 5 (by decide) (by decide), e 6 (by decide) (by decide)]; exact b4, fun x y c1 c2 c3 c4 hd => key x y c1 c2 c3 c4 ?_⟩
      rw [nw] at hd
      by_cases k7 : k = 7
      · rw [if_pos k7, cuF_n (by decide), cwF_n (by decide), eu] at hd
        unfold dn at hd
        omega
      · rw [if_neg k7, cuF_y (by omega), cwF_y (by omega)] at hd
        unfold dn at hd
        omega
    · have fr : ∀ j, 3 + 43 * t ≤ j → j < 46 + 43 * t → τ j = ρ j := fun j a b => g j (by omega) (by omega)
      have := a7 t ht
      rw [cuF_o c, cwF_o c] at this
      rw [cuF_o c, cwF_o c, un_cg ht fr]
      exact VT_cg ht this fr
theorem VM_WF (h : VM 11 2 u ρ) (h0 : tf ρ 1 0 ≠ 0) : WF ρ := by
  obtain ⟨a1, a2, a3, a4, a5, a6, a7⟩ := h
  have q : ∀ t, t = 0 ∨ t = 1 → tf ρ t 0 ≠ 0 → wT ρ t := by
    intro t ht n0
    have := a7 t ht
    rw [cuF_n (by decide), cwF_n (by decide)] at this
    obtain ⟨b1, b2, b3, b4, b5⟩ := this
    have un0 : un ρ t = tf ρ t 0 + tf ρ t 1 := rfl
    refine ⟨by omega, b2, b3, by omega, by omega, by omega, by omega, fun x x0 x1 => ?_⟩
    have r : ∀ y, 0 ≤ y → y < 6 → rgU y (uf ρ t x y) ∧ (y = 5 → uf ρ t x 5 = uf ρ t x 2) := fun y y0 y1 => b5 x y x0 (by omega) y0 y1 (.inl x1)
    have r0 := (r 0 (by decide) (by decide)).1.1 (.inl rfl)
    have r1 := (r 1 (by decide) (by decide)).1.1 (.inr rfl)
    have r2 := (r 2 (by decide) (by decide)).1.2.1 rfl
    have r3 := (r 3 (by decide) (by decide)).1.2.2 (.inl rfl)
    have r4 := (r 4 (by decide) (by decide)).1.2.2 (.inr rfl)
    have r5 := (r 5 (by decide) (by decide)).2 rfl
    exact ⟨r0, r1, r2, r3, r4, by omega, by omega⟩
  exact ⟨a5.1, a5.2.1, a5.2.2, q 0 (.inl rfl) (by have := a6 rfl; omega), q 1 (.inr rfl) h0⟩
theorem stNum_VM {M : Mst} (h : VM w T u ρ) (hk : (k = w ∧ 0 ≤ w ∧ w ≤ 7) ∨ (w = 9 ∧ k = 1)) (e : stNum b n s k T u ρ = .inr M) : VM M.1 M.2.1 M.2.2.1 M.2.2.2 := by
  unfold stNum at e
  by_cases c : tK b n s = 1
  · rw [if_pos c] at e
    by_cases c2 : loN k ≤ tV b n s ∧ tV b n s ≤ hiN k
    · rw [if_pos c2] at e
      have e' := Sum.inr.inj e
      subst e'
      show VM (nmW k) T u (nmR k T u (tV b n s) ρ)
      by_cases k3 : 3 ≤ k
      · have ek : k = w := by omega
        subst ek
        exact VM_unum h (by omega) c2.1 c2.2
      · have nw : nmW k = 10 := by unfold nmW; rw [if_pos (by omega)]
        have l0 : loN k = 0 := by unfold loN; rw [if_pos (by omega)]
        rw [nw]
        by_cases k1 : k = 1
        · subst k1
          have eR : nmR 1 T u (tV b n s) ρ = up ρ (3 + 43 * (T - 1) + 2) (tV b n s) := rfl
          rw [eR]
          exact VM_save h (by omega) (by omega) c2.2
        · have hk2 : k = 0 ∨ k = 2 := by omega
          have eR : nmR k T u (tV b n s) ρ = up ρ k (tV b n s) := by
            rcases hk2 with rfl | rfl <;> rfl
          rw [eR]
          exact VM_g h (by omega) hk2 (by omega) c2.2
    · rw [if_neg c2] at e; cases e
  · rw [if_neg c] at e; cases e
theorem stLine_VM {M : Mst} (h : VM 11 T u ρ) (e : stLine b n s T u ρ = .inr M) : VM M.1 M.2.1 M.2.2.1 M.2.2.2 := by
  have h7 := h.2.2.2.2.2.2
  unfold stLine at e
  by_cases c1 : tK b n s = 3
  · rw [if_pos c1] at e
    by_cases c2 : T < 2 ∨ tf ρ 1 0 = 0
    · rw [if_pos c2] at e; cases e
    · rw [if_neg c2] at e
      have e' := Sum.inr.inj e
      subst e'
      exact h
  · rw [if_neg c1] at e
    by_cases c2 : isW b n s wd6
    · rw [if_pos c2] at e
      have e' := Sum.inr.inj e
      subst e'
      exact VM_w (w' := 2) h (by decide) (by decide) (by decide) (fun z => by omega)
    · rw [if_neg c2] at e
      by_cases c3 : isW b n s wd2
      · rw [if_pos c3] at e
        by_cases c4 : T = 2
        · rw [if_pos c4] at e; cases e
        · rw [if_neg c4] at e
          by_cases c5 : T = 1 ∧ tf ρ 0 0 = 0
          · rw [if_pos c5] at e; cases e
          · rw [if_neg c5] at e
            have e' := Sum.inr.inj e
            subst e'
            exact VM_team h c4 c5
      · rw [if_neg c3] at e
        have hr := h.1
        by_cases c4 : 0 < T ∧ isW b n s wd4
        · rw [if_pos c4] at e
          have hT := h7 (T - 1) (by omega)
          by_cases c5 : tf ρ (T - 1) 0 = 4 ∨ 0 < tf ρ (T - 1) 1
          · rw [if_pos c5] at e; cases e
          · rw [if_neg c5] at e
            have e' := Sum.inr.inj e
            subst e'
            have q1 := hT.1
            have q2 := hT.2.1
            have := VM_st h (by omega) (f := 0) (.inl rfl) (fun _ => by omega) (fun z => absurd z (by decide))
            have eu : un ρ (T - 1) = tf ρ (T - 1) 0 := by unfold un; omega
            rw [eu, Int.add_zero] at this
            exact this
        · rw [if_neg c4] at e
          by_cases c5 : 0 < T ∧ isW b n s wd5
          · rw [if_pos c5] at e
            have hT := h7 (T - 1) (by omega)
            by_cases c6 : tf ρ (T - 1) 1 = 2
            · rw [if_pos c6] at e; cases e
            · rw [if_neg c6] at e
              have e' := Sum.inr.inj e
              subst e'
              have q2 := hT.2.1
              exact VM_st h (by omega) (f := 1) (.inr rfl) (fun z => absurd z (by decide)) (fun _ => by omega)
          · rw [if_neg c5] at e; cases e
theorem stp_VM {M : Mst} (h : VM w T u ρ) (e : stp b n s w T u ρ = .inr M) : VM M.1 M.2.1 M.2.2.1 M.2.2.2 := by
  have wr := h.2.1
  unfold stp at e
  by_cases c8 : w = 8
  · subst c8
    rw [if_pos rfl] at e
    by_cases c : isW b n s wd1
    · rw [if_pos c] at e
      have e' := Sum.inr.inj e
      subst e'
      exact VM_w (w' := 0) h (by decide) (by decide) (by decide) (fun z => by omega)
    · rw [if_neg c] at e; cases e
  · rw [if_neg c8] at e
    by_cases c9 : w = 9
    · subst c9
      rw [if_pos rfl] at e
      by_cases c : isW b n s wd3
      · rw [if_pos c] at e
        have e' := Sum.inr.inj e
        subst e'
        exact VM_last h
      · rw [if_neg c] at e
        exact stNum_VM h (.inr ⟨rfl, rfl⟩) e
    · rw [if_neg c9] at e
      by_cases c10 : w = 10
      · subst c10
        rw [if_pos rfl] at e
        by_cases c : tK b n s = 2
        · rw [if_pos c] at e
          have e' := Sum.inr.inj e
          subst e'
          exact VM_w (w' := 11) h (by decide) (by decide) (by decide) (fun z => by omega)
        · rw [if_neg c] at e; cases e
      · rw [if_neg c10] at e
        by_cases c11 : w = 11
        · subst c11
          rw [if_pos rfl] at e
          exact stLine_VM h e
        · rw [if_neg c11] at e
          exact stNum_VM h (.inl ⟨rfl, by omega, by omega⟩) e
end ME
