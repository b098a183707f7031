/-! ===== what a game leaves may be ===== -/
section WG
variable {b : Int → Int} {n s w T u p : Int} {ρ : Rw} {S : St}
theorem rnm_pl : ∀ (k : Nat) (w T u : Int) (ρ : Rw) (p : Int), 0 ≤ p → p ≤ n → -1 ≤ (rnm b n k w T u ρ p).2.1 ∧ (rnm b n k w T u ρ p).2.1 ≤ n
  | 0, _, _, _, _, p, h0, h1 => by
    show -1 ≤ (-1 : Int) ∧ (-1 : Int) ≤ n
    omega
  | k + 1, w, T, u, ρ, p, h0, h1 => by
    have sr := tS_rg (b := b) h1
    have er := tE_rg (b := b) (n := n) (s := tS b n p) sr.2
    have hr : rnm b n (k + 1) w T u ρ p = (match stp b n (tS b n p) w T u ρ with
      | .inl f => (f, tS b n p, ρ)
      | .inr M => if tK b n (tS b n p) = 3 then (0, -1, M.2.2.2) else rnm b n k M.1 M.2.1 M.2.2.1 M.2.2.2 (tE b n (tS b n p))) := rfl
    rw [hr]
    cases e : stp b n (tS b n p) w T u ρ with
    | inl f =>
      show -1 ≤ tS b n p ∧ tS b n p ≤ n
      omega
    | inr M =>
      by_cases c : tK b n (tS b n p) = 3
      · simp only [if_pos c]
        omega
      · simp only [if_neg c]
        exact rnm_pl k _ _ _ _ _ (by omega) er.2.1
theorem WS_game (hs : WS S) : WS (spGame S n).2 := by
  unfold spGame
  by_cases c : 0 ≤ n ∧ n ≤ sN S
  · rw [if_pos c]
    obtain ⟨h1, h2, h3, h4, h5, h6, h7, h8⟩ := hs
    by_cases q : (rdG S n).1 = 0
    · rw [if_pos q]
      refine ⟨(rdG_ok c.1 q).2, Nat.zero_le _, (fun τ hτ => by cases hτ), ⟨Int.le_refl _, by show (0 : Int) ≤ 500; decide⟩, fun i a e => by change i < 0 at e; omega, ⟨by show (-1 : Int) ≤ -1; decide, by show (-1 : Int) ≤ 1000; decide⟩, h7, h8⟩
    · rw [if_neg q]
      have pl := rnm_pl (b := sB S) (n := n) (n + 1).toNat 8 0 0 rwC 0 (by decide) c.1
      refine ⟨h1, h2, h3, ⟨Int.le_refl _, by show (0 : Int) ≤ 500; decide⟩, fun i a e => by change i < 0 at e; omega, ⟨pl.1, ?_⟩, h7, h8⟩
      show (rdG S n).2.1 ≤ 1000
      have : (rdG S n).2.1 ≤ n := pl.2
      omega
  · rw [if_neg c]
    exact hs
end WG
