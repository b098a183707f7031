/-! ===== the law: each call (printed by mk7g.py) ===== -/
section LY
variable {A : Am} {E : En} {S : St}
/-- the law goes on -/
def NX (d : Nat) (X : Option am_R) (E : En) (i : Int) : Prop := ∃ S' A' E', X = L_Law_law_2152 d (MM A' E') 0 1 161 179 (iI i) ∧ WS S' ∧ CI A' S' ∧ MI A' S' ∧ EXr E E'
theorem od_0 : od_i 0 = true := by decide
theorem sc_ex (E : En) (k : Nat) : ∃ n, eO E 0 k = iI n ∧ -2147483648 ≤ n ∧ n < 2147483648 := by
  obtain ⟨a, h, e⟩ := iI_ex (eO E 0 k)
  exact ⟨a, e, h.1, h.2⟩
theorem WS_set {t w v : Int} (hs : WS S) : WS (spSet S t w v).2 := by
  unfold spSet
  by_cases c : (t = 0 ∨ t = 1) ∧ (0 ≤ w ∧ w ≤ 3)
  · rw [if_pos c]
    by_cases q : okV (sR S) t w v = true
    · rw [if_pos q]
      have r := okV_up c.1 c.2.1 c.2.2 hs.1 q
      exact WS_kp hs r.1 r.2.1
    · rw [if_neg q]
      exact hs
  · rw [if_neg c]
    exact hs
theorem Same_up1 {σ : Rw} {v : Int} : Same σ (up σ 1 v) := by
  refine ⟨up_ne (by decide), fun t ht => ⟨up_ne (by omega), up_ne (by omega), up_ne (by omega), fun u u0 u1 w w0 w1 => up_ne (by omega)⟩⟩
theorem WS_see {t : Int} (hs : WS S) : WS (spSee S t).2 := by
  unfold spSee
  by_cases c : t = 0 ∨ t = 1
  · rw [if_pos c]
    exact WS_kp hs (up1_WF' c hs.1) Same_up1
  · rw [if_neg c]
    exact hs
theorem WS_turn {x y : Int} (hs : WS S) : WS (spTurn S x y).2 := by
  unfold spTurn
  split
  · exact WS_kp hs (WF_tn hs.1) Same_tn
  · exact hs
theorem WS_undo (hs : WS S) : WS (spUndo S).2 := by
  unfold spUndo
  split
  · exact hs
  · rename_i τ K e
    obtain ⟨h1, h2, h3, h4⟩ := hs
    rw [e] at h2 h3
    have h2' : K.length + 1 ≤ 16 := h2
    have ht := h3 τ (List.mem_cons_self)
    refine ⟨ht.1, ?_, fun ρ hρ => ?_, h4⟩
    · show K.length ≤ 16
      omega
    · have hr := h3 ρ (List.mem_cons_of_mem _ hρ)
      exact ⟨hr.1, Same_tr (Same_symm ht.2) hr.2⟩
theorem WS_back (hs : WS S) : WS (spBack S).2 := by
  unfold spBack
  split
  · exact hs
  · rename_i τ e
    obtain ⟨h1, h2, h3, h4, h5, h6, h7, h8⟩ := hs
    exact ⟨h7 τ e, Nat.zero_le _, (fun ρ hρ => by cases hρ), h4, h5, h6, h7, h8⟩
theorem WS_image (hs : WS S) : WS (spImage S) := by
  obtain ⟨h1, h2, h3, h4, h5, h6, h7, h8⟩ := hs
  exact ⟨h1, h2, h3, h4, h5, h6, fun τ e => by cases e; exact h1, h8⟩
theorem lawB_end {o : Int ⊕ Nat} {m : Int} {v : Int} {E2 : En} {X Y Z : Option am_R} (hm : m = 1 ∨ m = 2) (hj : ∀ w, o = .inl w → eJ E2 179 0 = Int32.toInt64 (iI v)) : cond (mm_eq (iI (thr m o)) (iI (thr m o))) (cond (mm_eq (iI (thr m o)) (iI 0)) (cond (mm_eq (lg_cmp (eJ E2 179 (Int32.toNatClampNeg (iI 0))) (Int32.toInt64 (iI v))) (iI 0)) X Y) X) Z = X := by
  cases o with
  | inl w =>
    have le : mm_eq (lg_cmp (Int32.toInt64 (iI v)) (Int32.toInt64 (iI v))) (iI 0) = true := by
      rw [← li_0, lc_eq]; exact decide_eq_true rfl
    have t0 : thr m (Sum.inl w) = 0 := rfl
    have k0 : Int32.toNatClampNeg (iI 0) = 0 := rfl
    rw [k0, hj w rfl, le, t0]
    rfl
  | inr e =>
    have t1 : thr m (Sum.inr e) = 1 ∨ thr m (Sum.inr e) = 2 := by
      rcases e with _ | _ | e
      · exact .inl rfl
      · exact hm
      · exact .inl rfl
    rcases t1 with t1 | t1
    · rw [t1]; rfl
    · rw [t1]; rfl
theorem x_count {n1 : Int} : ∀ e, spCount S n1 = .inr e → e ≠ 1 := by
  intro e he
  unfold spCount at he
  repeat' split at he
  all_goals first | (cases he; decide) | cases he
theorem x_team {n1 n2 : Int} : ∀ e, spTeam (sR S) n1 n2 = .inr e → e ≠ 1 := by
  intro e he
  unfold spTeam at he
  repeat' split at he
  all_goals first | (cases he; decide) | cases he
theorem x_unit {n1 n2 n3 : Int} : ∀ e, spUnit (sR S) n1 n2 n3 = .inr e → e ≠ 1 := by
  intro e he
  unfold spUnit at he
  repeat' split at he
  all_goals first | (cases he; decide) | cases he
theorem x_chance {n1 n2 n3 : Int} : ∀ e, spChance (sR S) n1 n2 n3 = .inr e → e ≠ 1 := by
  intro e he
  unfold spChance at he
  repeat' split at he
  all_goals first | (cases he; decide) | cases he
theorem x_meeting {n1 n2 : Int} : ∀ e, spqMeet (sR S) n1 n2 = .inr e → e ≠ 1 := by
  intro e he
  unfold spqMeet at he
  repeat' split at he
  all_goals first | (cases he; decide) | cases he
theorem x_rested {n1 n2 : Int} : ∀ e, spRested (sR S) n1 n2 = .inr e → e ≠ 1 := by
  intro e he
  unfold spRested at he
  repeat' split at he
  all_goals first | (cases he; decide) | cases he
theorem x_value {n1 : Int} : ∀ e, spValue (sR S) n1 = .inr e → e = 1 := by
  intro e he
  unfold spValue at he
  repeat' split at he
  all_goals first | (cases he; rfl) | cases he
theorem x_first {n1 : Int} : ∀ e, spFirst (sR S) n1 = .inr e → e = 1 := by
  intro e he
  unfold spFirst at he
  repeat' split at he
  all_goals first | (cases he; rfl) | cases he
theorem x_seeing {n1 : Int} : ∀ e, spSeeing (sR S) n1 = .inr e → e = 1 := by
  intro e he
  unfold spSeeing at he
  repeat' split at he
  all_goals first | (cases he; rfl) | cases he
theorem x_given {n1 : Int} : ∀ e, spGiven (sR S) n1 = .inr e → e ≠ 1 := by
  intro e he
  unfold spGiven at he
  repeat' split at he
  all_goals first | (cases he; decide) | cases he
theorem x_play {n1 n2 n3 n4 : Int} : ∀ e, (spPlay S n1 n2 n3 n4).1 = .inr e → e = 1 := by
  intro e he
  unfold spPlay at he
  repeat' split at he
  all_goals first | (cases he; rfl) | cases he
theorem x_see {n1 : Int} : ∀ e, (spSee S n1).1 = .inr e → e ≠ 1 := by
  intro e he
  unfold spSee at he
  repeat' split at he
  all_goals first | (cases he; decide) | cases he
theorem w_count (d : Nat) (hd : 0 < d) {n1 : Int} {S' : St} {o : Int ⊕ Nat} (ho : ∀ e, o = .inr e → e ≠ 1) (h : CC (D_LC_count (d - 1) (MM A E) 1 (iI n1)) A E o S') :
    ∃ A' E', D_Law_count d (MM A E) 1 (iI n1) 179 = some (.inl (some (.int (iI (thr 1 o)))), MM A' E') ∧ CI A' S' ∧ (∀ p, 160 < p → A' p = A p) ∧ EXr E E' ∧ ∀ v, o = .inl v → eJ E' 179 0 = Int32.toInt64 (iI v) := by
  obtain ⟨A', E', x1, x2⟩ := law_wrap (m := 1) h (fun e h => cond (Nat.beq e 1 == false) (some (.inl (some (.int 1)), h)) (some (.inr e, h))) (fun e h' he => by
    have hn := ho e he
    subst he
    rcases e with _ | _ | e
    · rfl
    · exact absurd rfl hn
    · rfl)
  refine ⟨A', E', ?_, x2⟩
  rw [eD_Law_count, ← x1]
  have b0 : Nat.blt 0 d = true := Nat.blt_eq.mpr hd
  rw [b0]
  rfl
theorem w_team (d : Nat) (hd : 0 < d) {n1 n2 : Int} {S' : St} {o : Int ⊕ Nat} (ho : ∀ e, o = .inr e → e ≠ 1) (h : CC (D_LC_team (d - 1) (MM A E) 1 (iI n1) (iI n2)) A E o S') :
    ∃ A' E', D_Law_team d (MM A E) 1 (iI n1) (iI n2) 179 = some (.inl (some (.int (iI (thr 1 o)))), MM A' E') ∧ CI A' S' ∧ (∀ p, 160 < p → A' p = A p) ∧ EXr E E' ∧ ∀ v, o = .inl v → eJ E' 179 0 = Int32.toInt64 (iI v) := by
  obtain ⟨A', E', x1, x2⟩ := law_wrap (m := 1) h (fun e h => cond (Nat.beq e 1 == false) (some (.inl (some (.int 1)), h)) (some (.inr e, h))) (fun e h' he => by
    have hn := ho e he
    subst he
    rcases e with _ | _ | e
    · rfl
    · exact absurd rfl hn
    · rfl)
  refine ⟨A', E', ?_, x2⟩
  rw [eD_Law_team, ← x1]
  have b0 : Nat.blt 0 d = true := Nat.blt_eq.mpr hd
  rw [b0]
  rfl
theorem w_unit (d : Nat) (hd : 0 < d) {n1 n2 n3 : Int} {S' : St} {o : Int ⊕ Nat} (ho : ∀ e, o = .inr e → e ≠ 1) (h : CC (D_LC_unit (d - 1) (MM A E) 1 (iI n1) (iI n2) (iI n3)) A E o S') :
    ∃ A' E', D_Law_unit d (MM A E) 1 (iI n1) (iI n2) (iI n3) 179 = some (.inl (some (.int (iI (thr 1 o)))), MM A' E') ∧ CI A' S' ∧ (∀ p, 160 < p → A' p = A p) ∧ EXr E E' ∧ ∀ v, o = .inl v → eJ E' 179 0 = Int32.toInt64 (iI v) := by
  obtain ⟨A', E', x1, x2⟩ := law_wrap (m := 1) h (fun e h => cond (Nat.beq e 1 == false) (some (.inl (some (.int 1)), h)) (some (.inr e, h))) (fun e h' he => by
    have hn := ho e he
    subst he
    rcases e with _ | _ | e
    · rfl
    · exact absurd rfl hn
    · rfl)
  refine ⟨A', E', ?_, x2⟩
  rw [eD_Law_unit, ← x1]
  have b0 : Nat.blt 0 d = true := Nat.blt_eq.mpr hd
  rw [b0]
  rfl
theorem w_chance (d : Nat) (hd : 0 < d) {n1 n2 n3 : Int} {S' : St} {o : Int ⊕ Nat} (ho : ∀ e, o = .inr e → e ≠ 1) (h : CC (D_LC_chance (d - 1) (MM A E) 1 (iI n1) (iI n2) (iI n3)) A E o S') :
    ∃ A' E', D_Law_chance d (MM A E) 1 (iI n1) (iI n2) (iI n3) 179 = some (.inl (some (.int (iI (thr 1 o)))), MM A' E') ∧ CI A' S' ∧ (∀ p, 160 < p → A' p = A p) ∧ EXr E E' ∧ ∀ v, o = .inl v → eJ E' 179 0 = Int32.toInt64 (iI v) := by
  obtain ⟨A', E', x1, x2⟩ := law_wrap (m := 1) h (fun e h => cond (Nat.beq e 1 == false) (some (.inl (some (.int 1)), h)) (some (.inr e, h))) (fun e h' he => by
    have hn := ho e he
    subst he
    rcases e with _ | _ | e
    · rfl
    · exact absurd rfl hn
    · rfl)
  refine ⟨A', E', ?_, x2⟩
  rw [eD_Law_chance, ← x1]
  have b0 : Nat.blt 0 d = true := Nat.blt_eq.mpr hd
  rw [b0]
  rfl
theorem w_meeting (d : Nat) (hd : 0 < d) {n1 n2 : Int} {S' : St} {o : Int ⊕ Nat} (ho : ∀ e, o = .inr e → e ≠ 1) (h : CC (D_LC_meeting (d - 1) (MM A E) 1 (iI n1) (iI n2)) A E o S') :
    ∃ A' E', D_Law_meeting d (MM A E) 1 (iI n1) (iI n2) 179 = some (.inl (some (.int (iI (thr 1 o)))), MM A' E') ∧ CI A' S' ∧ (∀ p, 160 < p → A' p = A p) ∧ EXr E E' ∧ ∀ v, o = .inl v → eJ E' 179 0 = Int32.toInt64 (iI v) := by
  obtain ⟨A', E', x1, x2⟩ := law_wrap (m := 1) h (fun e h => cond (Nat.beq e 1 == false) (some (.inl (some (.int 1)), h)) (some (.inr e, h))) (fun e h' he => by
    have hn := ho e he
    subst he
    rcases e with _ | _ | e
    · rfl
    · exact absurd rfl hn
    · rfl)
  refine ⟨A', E', ?_, x2⟩
  rw [eD_Law_meeting, ← x1]
  have b0 : Nat.blt 0 d = true := Nat.blt_eq.mpr hd
  rw [b0]
  rfl
theorem w_rested (d : Nat) (hd : 0 < d) {n1 n2 : Int} {S' : St} {o : Int ⊕ Nat} (ho : ∀ e, o = .inr e → e ≠ 1) (h : CC (D_LC_rested (d - 1) (MM A E) 1 (iI n1) (iI n2)) A E o S') :
    ∃ A' E', D_Law_rested d (MM A E) 1 (iI n1) (iI n2) 179 = some (.inl (some (.int (iI (thr 1 o)))), MM A' E') ∧ CI A' S' ∧ (∀ p, 160 < p → A' p = A p) ∧ EXr E E' ∧ ∀ v, o = .inl v → eJ E' 179 0 = Int32.toInt64 (iI v) := by
  obtain ⟨A', E', x1, x2⟩ := law_wrap (m := 1) h (fun e h => cond (Nat.beq e 1 == false) (some (.inl (some (.int 1)), h)) (some (.inr e, h))) (fun e h' he => by
    have hn := ho e he
    subst he
    rcases e with _ | _ | e
    · rfl
    · exact absurd rfl hn
    · rfl)
  refine ⟨A', E', ?_, x2⟩
  rw [eD_Law_rested, ← x1]
  have b0 : Nat.blt 0 d = true := Nat.blt_eq.mpr hd
  rw [b0]
  rfl
theorem w_value (d : Nat) (hd : 0 < d) {n1 : Int} {S' : St} {o : Int ⊕ Nat} (ho : ∀ e, o = .inr e → e = 1) (h : CC (D_LC_value (d - 1) (MM A E) 1 (iI n1)) A E o S') :
    ∃ A' E', D_Law_value d (MM A E) 1 (iI n1) 179 = some (.inl (some (.int (iI (thr 1 o)))), MM A' E') ∧ CI A' S' ∧ (∀ p, 160 < p → A' p = A p) ∧ EXr E E' ∧ ∀ v, o = .inl v → eJ E' 179 0 = Int32.toInt64 (iI v) := by
  obtain ⟨A', E', x1, x2⟩ := law_wrap (m := 1) h (fun e h => cond (Nat.beq e 1 == true) (some (.inl (some (.int 1)), h)) (some (.inr e, h))) (fun e h' he => by
    have := ho e he
    subst this
    subst he
    rfl)
  refine ⟨A', E', ?_, x2⟩
  rw [eD_Law_value, ← x1]
  have b0 : Nat.blt 0 d = true := Nat.blt_eq.mpr hd
  rw [b0]
  rfl
theorem w_first (d : Nat) (hd : 0 < d) {n1 : Int} {S' : St} {o : Int ⊕ Nat} (ho : ∀ e, o = .inr e → e = 1) (h : CC (D_LC_first (d - 1) (MM A E) 1 (iI n1)) A E o S') :
    ∃ A' E', D_Law_first d (MM A E) 1 (iI n1) 179 = some (.inl (some (.int (iI (thr 1 o)))), MM A' E') ∧ CI A' S' ∧ (∀ p, 160 < p → A' p = A p) ∧ EXr E E' ∧ ∀ v, o = .inl v → eJ E' 179 0 = Int32.toInt64 (iI v) := by
  obtain ⟨A', E', x1, x2⟩ := law_wrap (m := 1) h (fun e h => cond (Nat.beq e 1 == true) (some (.inl (some (.int 1)), h)) (some (.inr e, h))) (fun e h' he => by
    have := ho e he
    subst this
    subst he
    rfl)
  refine ⟨A', E', ?_, x2⟩
  rw [eD_Law_first, ← x1]
  have b0 : Nat.blt 0 d = true := Nat.blt_eq.mpr hd
  rw [b0]
  rfl
theorem w_reply (d : Nat) (hd : 0 < d) {n1 n2 : Int} {S' : St} {o : Int ⊕ Nat} (h : CC (D_LC_reply (d - 1) (MM A E) 1 (iI n1) (iI n2)) A E o S') :
    ∃ A' E', D_Law_reply d (MM A E) 1 (iI n1) (iI n2) 179 = some (.inl (some (.int (iI (thr 2 o)))), MM A' E') ∧ CI A' S' ∧ (∀ p, 160 < p → A' p = A p) ∧ EXr E E' ∧ ∀ v, o = .inl v → eJ E' 179 0 = Int32.toInt64 (iI v) := by
  obtain ⟨A', E', x1, x2⟩ := law_wrap (m := 2) h (fun e h => cond (Nat.beq e 1 == false) (some (.inl (some (.int 1)), h)) (cond (Nat.beq e 1 == true) (some (.inl (some (.int 2)), h)) (some (.inr e, h)))) (fun e h' he => by
    subst he
    rcases e with _ | _ | e <;> rfl)
  refine ⟨A', E', ?_, x2⟩
  rw [eD_Law_reply, ← x1]
  have b0 : Nat.blt 0 d = true := Nat.blt_eq.mpr hd
  rw [b0]
  rfl
theorem w_by (d : Nat) (hd : 0 < d) {n1 n2 n3 : Int} {S' : St} {o : Int ⊕ Nat} (h : CC (D_LC_by (d - 1) (MM A E) 1 (iI n1) (iI n2) (iI n3)) A E o S') :
    ∃ A' E', D_Law_by d (MM A E) 1 (iI n1) (iI n2) (iI n3) 179 = some (.inl (some (.int (iI (thr 2 o)))), MM A' E') ∧ CI A' S' ∧ (∀ p, 160 < p → A' p = A p) ∧ EXr E E' ∧ ∀ v, o = .inl v → eJ E' 179 0 = Int32.toInt64 (iI v) := by
  obtain ⟨A', E', x1, x2⟩ := law_wrap (m := 2) h (fun e h => cond (Nat.beq e 1 == false) (some (.inl (some (.int 1)), h)) (cond (Nat.beq e 1 == true) (some (.inl (some (.int 2)), h)) (some (.inr e, h)))) (fun e h' he => by
    subst he
    rcases e with _ | _ | e <;> rfl)
  refine ⟨A', E', ?_, x2⟩
  rw [eD_Law_by, ← x1]
  have b0 : Nat.blt 0 d = true := Nat.blt_eq.mpr hd
  rw [b0]
  rfl
theorem w_best (d : Nat) (hd : 0 < d) {n1 n2 n3 : Int} {S' : St} {o : Int ⊕ Nat} (h : CC (D_LC_best (d - 1) (MM A E) 1 (iI n1) (iI n2) (iI n3)) A E o S') :
    ∃ A' E', D_Law_best d (MM A E) 1 (iI n1) (iI n2) (iI n3) 179 = some (.inl (some (.int (iI (thr 2 o)))), MM A' E') ∧ CI A' S' ∧ (∀ p, 160 < p → A' p = A p) ∧ EXr E E' ∧ ∀ v, o = .inl v → eJ E' 179 0 = Int32.toInt64 (iI v) := by
  obtain ⟨A', E', x1, x2⟩ := law_wrap (m := 2) h (fun e h => cond (Nat.beq e 1 == false) (some (.inl (some (.int 1)), h)) (cond (Nat.beq e 1 == true) (some (.inl (some (.int 2)), h)) (some (.inr e, h)))) (fun e h' he => by
    subst he
    rcases e with _ | _ | e <;> rfl)
  refine ⟨A', E', ?_, x2⟩
  rw [eD_Law_best, ← x1]
  have b0 : Nat.blt 0 d = true := Nat.blt_eq.mpr hd
  rw [b0]
  rfl
theorem w_cost (d : Nat) (hd : 0 < d) {n1 n2 n3 : Int} {S' : St} {o : Int ⊕ Nat} (h : CC (D_LC_cost (d - 1) (MM A E) 1 (iI n1) (iI n2) (iI n3)) A E o S') :
    ∃ A' E', D_Law_cost d (MM A E) 1 (iI n1) (iI n2) (iI n3) 179 = some (.inl (some (.int (iI (thr 2 o)))), MM A' E') ∧ CI A' S' ∧ (∀ p, 160 < p → A' p = A p) ∧ EXr E E' ∧ ∀ v, o = .inl v → eJ E' 179 0 = Int32.toInt64 (iI v) := by
  obtain ⟨A', E', x1, x2⟩ := law_wrap (m := 2) h (fun e h => cond (Nat.beq e 1 == false) (some (.inl (some (.int 1)), h)) (cond (Nat.beq e 1 == true) (some (.inl (some (.int 2)), h)) (some (.inr e, h)))) (fun e h' he => by
    subst he
    rcases e with _ | _ | e <;> rfl)
  refine ⟨A', E', ?_, x2⟩
  rw [eD_Law_cost, ← x1]
  have b0 : Nat.blt 0 d = true := Nat.blt_eq.mpr hd
  rw [b0]
  rfl
theorem w_seeing (d : Nat) (hd : 0 < d) {n1 : Int} {S' : St} {o : Int ⊕ Nat} (ho : ∀ e, o = .inr e → e = 1) (h : CC (D_LC_seeing (d - 1) (MM A E) 1 (iI n1)) A E o S') :
    ∃ A' E', D_Law_seeing d (MM A E) 1 (iI n1) 179 = some (.inl (some (.int (iI (thr 1 o)))), MM A' E') ∧ CI A' S' ∧ (∀ p, 160 < p → A' p = A p) ∧ EXr E E' ∧ ∀ v, o = .inl v → eJ E' 179 0 = Int32.toInt64 (iI v) := by
  obtain ⟨A', E', x1, x2⟩ := law_wrap (m := 1) h (fun e h => cond (Nat.beq e 1 == true) (some (.inl (some (.int 1)), h)) (some (.inr e, h))) (fun e h' he => by
    have := ho e he
    subst this
    subst he
    rfl)
  refine ⟨A', E', ?_, x2⟩
  rw [eD_Law_seeing, ← x1]
  have b0 : Nat.blt 0 d = true := Nat.blt_eq.mpr hd
  rw [b0]
  rfl
theorem w_blind (d : Nat) (hd : 0 < d) {n1 n2 : Int} {S' : St} {o : Int ⊕ Nat} (h : CC (D_LC_blind (d - 1) (MM A E) 1 (iI n1) (iI n2)) A E o S') :
    ∃ A' E', D_Law_blind d (MM A E) 1 (iI n1) (iI n2) 179 = some (.inl (some (.int (iI (thr 2 o)))), MM A' E') ∧ CI A' S' ∧ (∀ p, 160 < p → A' p = A p) ∧ EXr E E' ∧ ∀ v, o = .inl v → eJ E' 179 0 = Int32.toInt64 (iI v) := by
  obtain ⟨A', E', x1, x2⟩ := law_wrap (m := 2) h (fun e h => cond (Nat.beq e 1 == false) (some (.inl (some (.int 1)), h)) (cond (Nat.beq e 1 == true) (some (.inl (some (.int 2)), h)) (some (.inr e, h)))) (fun e h' he => by
    subst he
    rcases e with _ | _ | e <;> rfl)
  refine ⟨A', E', ?_, x2⟩
  rw [eD_Law_blind, ← x1]
  have b0 : Nat.blt 0 d = true := Nat.blt_eq.mpr hd
  rw [b0]
  rfl
theorem w_rotation (d : Nat) (hd : 0 < d) {n1 n2 n3 : Int} {S' : St} {o : Int ⊕ Nat} (h : CC (D_LC_rotation (d - 1) (MM A E) 1 (iI n1) (iI n2) (iI n3)) A E o S') :
    ∃ A' E', D_Law_rotation d (MM A E) 1 (iI n1) (iI n2) (iI n3) 179 = some (.inl (some (.int (iI (thr 2 o)))), MM A' E') ∧ CI A' S' ∧ (∀ p, 160 < p → A' p = A p) ∧ EXr E E' ∧ ∀ v, o = .inl v → eJ E' 179 0 = Int32.toInt64 (iI v) := by
  obtain ⟨A', E', x1, x2⟩ := law_wrap (m := 2) h (fun e h => cond (Nat.beq e 1 == false) (some (.inl (some (.int 1)), h)) (cond (Nat.beq e 1 == true) (some (.inl (some (.int 2)), h)) (some (.inr e, h)))) (fun e h' he => by
    subst he
    rcases e with _ | _ | e <;> rfl)
  refine ⟨A', E', ?_, x2⟩
  rw [eD_Law_rotation, ← x1]
  have b0 : Nat.blt 0 d = true := Nat.blt_eq.mpr hd
  rw [b0]
  rfl
theorem w_given (d : Nat) (hd : 0 < d) {n1 : Int} {S' : St} {o : Int ⊕ Nat} (ho : ∀ e, o = .inr e → e ≠ 1) (h : CC (D_LC_given (d - 1) (MM A E) 1 (iI n1)) A E o S') :
    ∃ A' E', D_Law_given d (MM A E) 1 (iI n1) 179 = some (.inl (some (.int (iI (thr 1 o)))), MM A' E') ∧ CI A' S' ∧ (∀ p, 160 < p → A' p = A p) ∧ EXr E E' ∧ ∀ v, o = .inl v → eJ E' 179 0 = Int32.toInt64 (iI v) := by
  obtain ⟨A', E', x1, x2⟩ := law_wrap (m := 1) h (fun e h => cond (Nat.beq e 1 == false) (some (.inl (some (.int 1)), h)) (some (.inr e, h))) (fun e h' he => by
    have hn := ho e he
    subst he
    rcases e with _ | _ | e
    · rfl
    · exact absurd rfl hn
    · rfl)
  refine ⟨A', E', ?_, x2⟩
  rw [eD_Law_given, ← x1]
  have b0 : Nat.blt 0 d = true := Nat.blt_eq.mpr hd
  rw [b0]
  rfl
theorem w_odds (d : Nat) (hd : 0 < d) {n1 n2 n3 n4 : Int} {S' : St} {o : Int ⊕ Nat} (h : CC (D_LC_odds (d - 1) (MM A E) 1 (iI n1) (iI n2) (iI n3) (iI n4)) A E o S') :
    ∃ A' E', D_Law_odds d (MM A E) 1 (iI n1) (iI n2) (iI n3) (iI n4) 179 = some (.inl (some (.int (iI (thr 2 o)))), MM A' E') ∧ CI A' S' ∧ (∀ p, 160 < p → A' p = A p) ∧ EXr E E' ∧ ∀ v, o = .inl v → eJ E' 179 0 = Int32.toInt64 (iI v) := by
  obtain ⟨A', E', x1, x2⟩ := law_wrap (m := 2) h (fun e h => cond (Nat.beq e 1 == false) (some (.inl (some (.int 1)), h)) (cond (Nat.beq e 1 == true) (some (.inl (some (.int 2)), h)) (some (.inr e, h)))) (fun e h' he => by
    subst he
    rcases e with _ | _ | e <;> rfl)
  refine ⟨A', E', ?_, x2⟩
  rw [eD_Law_odds, ← x1]
  have b0 : Nat.blt 0 d = true := Nat.blt_eq.mpr hd
  rw [b0]
  rfl
theorem w_when (d : Nat) (hd : 0 < d) {n1 n2 n3 : Int} {S' : St} {o : Int ⊕ Nat} (h : CC (D_LC_when (d - 1) (MM A E) 1 (iI n1) (iI n2) (iI n3)) A E o S') :
    ∃ A' E', D_Law_when d (MM A E) 1 (iI n1) (iI n2) (iI n3) 179 = some (.inl (some (.int (iI (thr 2 o)))), MM A' E') ∧ CI A' S' ∧ (∀ p, 160 < p → A' p = A p) ∧ EXr E E' ∧ ∀ v, o = .inl v → eJ E' 179 0 = Int32.toInt64 (iI v) := by
  obtain ⟨A', E', x1, x2⟩ := law_wrap (m := 2) h (fun e h => cond (Nat.beq e 1 == false) (some (.inl (some (.int 1)), h)) (cond (Nat.beq e 1 == true) (some (.inl (some (.int 2)), h)) (some (.inr e, h)))) (fun e h' he => by
    subst he
    rcases e with _ | _ | e <;> rfl)
  refine ⟨A', E', ?_, x2⟩
  rw [eD_Law_when, ← x1]
  have b0 : Nat.blt 0 d = true := Nat.blt_eq.mpr hd
  rw [b0]
  rfl
theorem w_play (d : Nat) (hd : 0 < d) {n1 n2 n3 n4 : Int} {S' : St} {o : Int ⊕ Nat} (ho : ∀ e, o = .inr e → e = 1) (h : CC (D_LC_play (d - 1) (MM A E) 1 (iI n1) (iI n2) (iI n3) (iI n4)) A E o S') :
    ∃ A' E', D_Law_play d (MM A E) 1 (iI n1) (iI n2) (iI n3) (iI n4) 179 = some (.inl (some (.int (iI (thr 1 o)))), MM A' E') ∧ CI A' S' ∧ (∀ p, 160 < p → A' p = A p) ∧ EXr E E' ∧ ∀ v, o = .inl v → eJ E' 179 0 = Int32.toInt64 (iI v) := by
  obtain ⟨A', E', x1, x2⟩ := law_wrap (m := 1) h (fun e h => cond (Nat.beq e 1 == true) (some (.inl (some (.int 1)), h)) (some (.inr e, h))) (fun e h' he => by
    have := ho e he
    subst this
    subst he
    rfl)
  refine ⟨A', E', ?_, x2⟩
  rw [eD_Law_play, ← x1]
  have b0 : Nat.blt 0 d = true := Nat.blt_eq.mpr hd
  rw [b0]
  rfl
theorem w_games (d : Nat) (hd : 0 < d) {n1 n2 n3 n4 n5 n6 : Int} {S' : St} {o : Int ⊕ Nat} (h : CC (D_LC_games (d - 1) (MM A E) 1 (iI n1) (iI n2) (iI n3) (iI n4) (iI n5) (iI n6)) A E o S') :
    ∃ A' E', D_Law_games d (MM A E) 1 (iI n1) (iI n2) (iI n3) (iI n4) (iI n5) (iI n6) 179 = some (.inl (some (.int (iI (thr 2 o)))), MM A' E') ∧ CI A' S' ∧ (∀ p, 160 < p → A' p = A p) ∧ EXr E E' ∧ ∀ v, o = .inl v → eJ E' 179 0 = Int32.toInt64 (iI v) := by
  obtain ⟨A', E', x1, x2⟩ := law_wrap (m := 2) h (fun e h => cond (Nat.beq e 1 == false) (some (.inl (some (.int 1)), h)) (cond (Nat.beq e 1 == true) (some (.inl (some (.int 2)), h)) (some (.inr e, h)))) (fun e h' he => by
    subst he
    rcases e with _ | _ | e <;> rfl)
  refine ⟨A', E', ?_, x2⟩
  rw [eD_Law_games, ← x1]
  have b0 : Nat.blt 0 d = true := Nat.blt_eq.mpr hd
  rw [b0]
  rfl
theorem w_set (d : Nat) (hd : 0 < d) {n1 n2 n3 : Int} {S' : St} {o : Int ⊕ Nat} (h : CC (D_LC_set (d - 1) (MM A E) 1 (iI n1) (iI n2) (iI n3)) A E o S') :
    ∃ A' E', D_Law_set d (MM A E) 1 (iI n1) (iI n2) (iI n3) 179 = some (.inl (some (.int (iI (thr 2 o)))), MM A' E') ∧ CI A' S' ∧ (∀ p, 160 < p → A' p = A p) ∧ EXr E E' ∧ ∀ v, o = .inl v → eJ E' 179 0 = Int32.toInt64 (iI v) := by
  obtain ⟨A', E', x1, x2⟩ := law_wrap (m := 2) h (fun e h => cond (Nat.beq e 1 == false) (some (.inl (some (.int 1)), h)) (cond (Nat.beq e 1 == true) (some (.inl (some (.int 2)), h)) (some (.inr e, h)))) (fun e h' he => by
    subst he
    rcases e with _ | _ | e <;> rfl)
  refine ⟨A', E', ?_, x2⟩
  rw [eD_Law_set, ← x1]
  have b0 : Nat.blt 0 d = true := Nat.blt_eq.mpr hd
  rw [b0]
  rfl
theorem w_see (d : Nat) (hd : 0 < d) {n1 : Int} {S' : St} {o : Int ⊕ Nat} (ho : ∀ e, o = .inr e → e ≠ 1) (h : CC (D_LC_see (d - 1) (MM A E) 1 (iI n1)) A E o S') :
    ∃ A' E', D_Law_see d (MM A E) 1 (iI n1) 179 = some (.inl (some (.int (iI (thr 1 o)))), MM A' E') ∧ CI A' S' ∧ (∀ p, 160 < p → A' p = A p) ∧ EXr E E' ∧ ∀ v, o = .inl v → eJ E' 179 0 = Int32.toInt64 (iI v) := by
  obtain ⟨A', E', x1, x2⟩ := law_wrap (m := 1) h (fun e h => cond (Nat.beq e 1 == false) (some (.inl (some (.int 1)), h)) (some (.inr e, h))) (fun e h' he => by
    have hn := ho e he
    subst he
    rcases e with _ | _ | e
    · rfl
    · exact absurd rfl hn
    · rfl)
  refine ⟨A', E', ?_, x2⟩
  rw [eD_Law_see, ← x1]
  have b0 : Nat.blt 0 d = true := Nat.blt_eq.mpr hd
  rw [b0]
  rfl
end LY
