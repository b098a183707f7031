/-! ===== a game is read: the model's numbers, units ===== -/
/-- the machine stands at the loaded token, and comes to res -/
def GOm (P : Int) (res : Int × Int × Rw) (A : Am) (E : En) (b : Int → Int) (n w T u : Int) (ρ : Rw) : Prop := ∃ (p : Int) (k : Nat), LDm A E b n p T ∧ (max 0 P ≤ p ∧ p ≤ n) ∧ n - p < (k : Int) ∧ VM w T u ρ ∧ res = rnm b n k w T u ρ p
def RWm (A : Am) (w ci bs : Int) (ρ : Rw) : Prop := (∀ j, 0 ≤ j → j < 89 → j ≠ ci → j ≠ bs + 5 → A 163 j = ρ j) ∧ A 163 ci + 1 = ρ ci ∧ (w = 3 ∨ ρ (bs + 5) = ρ (bs + 2))
def SXm (P : Int) (res : Int × Int × Rw) (A : Am) (E : En) (b : Int → Int) (n w T u ci bs : Int) : Prop := (FTm A res.1 res.2.1 ∧ A 161 18 = T) ∨ ∃ ρ, GOm P res A E b n w T u ρ ∧ RWm A w ci bs ρ
section MU
variable {A : Am} {E : En} {b : Int → Int} {n p w T u k f pl ci bs kk : Int} {ρ : Rw} {res : Int × Int × Rw} {P : Int}
theorem rnm_f {k : Nat} (hk : n - p < (k : Int)) (p1 : p ≤ n) (e : stp b n (tS b n p) w T u ρ = .inl f) : rnm b n k w T u ρ p = (f, tS b n p, ρ) := by
  obtain ⟨k', rfl⟩ : ∃ k', k = k' + 1 := ⟨k - 1, by omega⟩
  show (match stp b n (tS b n p) w T u ρ with
    | .inl f => (f, tS b n p, ρ)
    | .inr M => if tK b n (tS b n p) = 3 then (0, -1, M.2.2.2) else rnm b n k' M.1 M.2.1 M.2.2.1 M.2.2.2 (tE b n (tS b n p))) = _
  rw [e]
theorem rnm_s {k : Nat} {M : Mst} (hk : n - p < (k : Int)) (p1 : p ≤ n) (e : stp b n (tS b n p) w T u ρ = .inr M) (h3 : tK b n (tS b n p) ≠ 3) : ∃ k' : Nat, rnm b n k w T u ρ p = rnm b n k' M.1 M.2.1 M.2.2.1 M.2.2.2 (tE b n (tS b n p)) ∧ n - tE b n (tS b n p) < (k' : Int) := by
  obtain ⟨k', rfl⟩ : ∃ k', k = k' + 1 := ⟨k - 1, by omega⟩
  have sr := tS_rg (b := b) p1
  have er := tE_rg (b := b) (n := n) (s := tS b n p) sr.2
  have adv := er.2.2 h3
  refine ⟨k', ?_, by omega⟩
  show (match stp b n (tS b n p) w T u ρ with
    | .inl f => (f, tS b n p, ρ)
    | .inr M => if tK b n (tS b n p) = 3 then (0, -1, M.2.2.2) else rnm b n k' M.1 M.2.1 M.2.2.1 M.2.2.2 (tE b n (tS b n p))) = _
  rw [e]
  simp only [if_neg h3]
theorem m_slot (d : Nat) (hd : 4 < d) (n5 : n ≤ 500) (hb : Bt b n) (h : GOm P res A E b n w T u ρ) (k0 : 0 ≤ kk) (k1 : kk ≤ 7) (hst : (kk = w) ∨ (w = 9 ∧ kk = 1 ∧ ∀ p, LDm A E b n p T → ¬ isW b n (tS b n p) wd3)) :
    (∃ A', D_Md_number d (MM A E) 161 (iI (loN kk)) (iI (hiN kk)) = some (.inl (some (.int (iI 0))), MM A' E) ∧ FTm A' res.1 res.2.1 ∧ NRm A A') ∨ ∃ A' E' v, D_Md_number d (MM A E) 161 (iI (loN kk)) (iI (hiN kk)) = some (.inl (some (.int (iI v))), MM A' E') ∧ GOm P res A' E' b n (nmW kk) T u (nmR kk T u v ρ) ∧ NFm A A' ∧ E0 E E' := by
  obtain ⟨p, k, h1, h2, h3, h4, h5⟩ := h
  have hn := hiN_rg k0 k1
  have est : stp b n (tS b n p) w T u ρ = stNum b n (tS b n p) kk T u ρ := by
    unfold stp
    rcases hst with e | ⟨e1, e2, e3⟩
    · rw [if_neg (by omega), if_neg (by omega), if_neg (by omega), if_neg (by omega), e]
    · rw [if_neg (by omega), if_pos e1, if_neg (e3 p h1), e2]
  have mn := m_num (E := E) d hd n5 hb (by omega) h2.2 h1 (lo := loN kk) (hi := hiN kk) (by omega) (by omega) (by omega) (by omega)
  by_cases c : tK b n (tS b n p) = 1
  · by_cases v : loN kk ≤ tV b n (tS b n p) ∧ tV b n (tS b n p) ≤ hiN kk
    · right
      obtain ⟨A', E', x1, x2, x3, x4⟩ := mn.2.2 c v
      have e : stp b n (tS b n p) w T u ρ = .inr (nmW kk, T, u, nmR kk T u (tV b n (tS b n p)) ρ) := by
        rw [est]; unfold stNum; rw [if_pos c, if_pos v]
      obtain ⟨k', y1, y2⟩ := rnm_s h3 h2.2 e (by omega)
      have sr := tS_rg (b := b) h2.2
      have er := tE_rg (b := b) (n := n) (s := tS b n p) sr.2
      exact ⟨A', E', _, x1, ⟨_, k', x2, ⟨by omega, er.2.1⟩, y2, stp_VM h4 e, h5.trans y1⟩, x3, x4⟩
    · left
      obtain ⟨A', x1, x2, x3⟩ := mn.2.1 c v
      have e : stp b n (tS b n p) w T u ρ = .inl 2 := by rw [est]; unfold stNum; rw [if_pos c, if_neg v]
      refine ⟨A', x1, ?_, x3⟩
      rw [h5, rnm_f h3 h2.2 e]
      exact x2
  · left
    obtain ⟨A', x1, x2, x3⟩ := mn.1 c
    have e : stp b n (tS b n p) w T u ρ = .inl 1 := by rw [est]; unfold stNum; rw [if_neg c]
    refine ⟨A', x1, ?_, x3⟩
    rw [h5, rnm_f h3 h2.2 e]
    exact x2
theorem FT_row {j v : Int} (h : FTm A f pl) : FTm (uA A 163 j v) f pl := by
  obtain ⟨h1, h2, h3⟩ := h
  exact ⟨by rw [uA_p _ _ _ (by decide)]; exact h1, by rw [uA_p _ _ _ (by decide)]; exact h2, h3⟩
theorem LD_row {j v : Int} (h : LDm A E b n p T) : LDm (uA A 163 j v) E b n p T := by
  have e : uA A 163 j v 161 = A 161 := uA_P (by decide)
  have e2 : uA A 163 j v 166 = A 166 := uA_P (by decide)
  unfold LDm TPm TKm at *
  rw [e, e2]
  exact h
theorem GO_row {j v : Int} (h : GOm P res A E b n w T u ρ) : GOm P res (uA A 163 j v) E b n w T u ρ := by
  obtain ⟨p, k, h1, h2⟩ := h
  exact ⟨p, k, LD_row h1, h2⟩
/-- a number of a unit, and the row -/
theorem m_unumS (d : Nat) (hd : 4 < d) (n5 : n ≤ 500) (hb : Bt b n) (hk : 3 ≤ kk ∧ kk ≤ 7) (hci : ci < bs) (ebs : bs = bsU T u) (h : SXm P res A E b n kk T u ci bs) :
    ∃ A' E' v, D_Md_number d (MM A E) 161 (iI (loN kk)) (iI (hiN kk)) = some (.inl (some (.int (iI v))), MM A' E') ∧ SXm P res (uA A' 163 (bs + (kk - 3)) v) E' b n (nmW kk) T u ci bs ∧ NRm A A' ∧ E0 E E' := by
  rcases h with h | ⟨ρ, h1, h2⟩
  · exact ⟨A, E, 0, m_numF d (by omega) h.1 _ _, .inl ⟨FT_row h.1, by rw [uA_p _ _ _ (by decide)]; exact h.2⟩, NR_refl A, E0_refl E⟩
  · rcases m_slot (E := E) d hd n5 hb h1 (kk := kk) (by omega) (by omega) (.inl rfl) with ⟨A', x1, x2, x3⟩ | ⟨A', E', v, x1, x2, x3, x4⟩
    · have t18 : A 161 18 = T := by
        obtain ⟨p, k, q1, -⟩ := h1
        exact q1.2.2.2.2
      exact ⟨A', E, 0, x1, .inl ⟨FT_row x2, by rw [uA_p _ _ _ (by decide), x3.1 18 (by decide)]; exact t18⟩, x3, E0_refl E⟩
    · refine ⟨A', E', v, x1, .inr ⟨_, GO_row x2, fun j j0 j1 jc j5 => ?_, ?_, .inr ?_⟩, NR_NF x3, x4⟩
      · have eR : nmR kk T u v ρ = up (up ρ (bsU T u + (kk - 3)) v) (bsU T u + 5) (up ρ (bsU T u + (kk - 3)) v (bsU T u + 2)) := by
          unfold nmR
          rw [if_neg (by omega), if_neg (by omega), if_neg (by omega)]
        rw [eR, ← ebs, up_ne j5]
        by_cases c : j = bs + (kk - 3)
        · rw [c, uA_eq, up_eq]
        · rw [uA_k _ c, up_ne c, x3.2 163 (by decide)]
          exact h2.1 j j0 j1 jc j5
      · have eR : nmR kk T u v ρ = up (up ρ (bsU T u + (kk - 3)) v) (bsU T u + 5) (up ρ (bsU T u + (kk - 3)) v (bsU T u + 2)) := by
          unfold nmR
          rw [if_neg (by omega), if_neg (by omega), if_neg (by omega)]
        rw [eR, ← ebs, up_ne (by omega), up_ne (by omega), uA_k _ (by omega), x3.2 163 (by decide)]
        exact h2.2.1
      · have eR : nmR kk T u v ρ = up (up ρ (bsU T u + (kk - 3)) v) (bsU T u + 5) (up ρ (bsU T u + (kk - 3)) v (bsU T u + 2)) := by
          unfold nmR
          rw [if_neg (by omega), if_neg (by omega), if_neg (by omega)]
        have q : ∀ (f : Rw) (x y : Int), y ≠ x → up f x (f y) x = up f x (f y) y := fun f x y hy => by rw [up_eq, up_ne hy]
        rw [eR, ← ebs]
        exact q _ _ _ (by omega)
end MU
