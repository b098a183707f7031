/-! ===== the limit of the steps, and blocks ===== -/
def am_le (f g : am_C → Option am_R) : Prop := ∀ c r, f c = some r → g c = some r
theorem am_ev_mono {f g : am_C → Option am_R} (h : am_le f g) {l : am_L} {r : am_R} (e : am_ev f l = some r) : am_ev g l = some r := by
  match l, e with
  | some (.inl _), e => exact e
  | some (.inr c), e => exact h c r e
theorem am_sw_mono {f g : am_C → Option am_R} (h : am_le f g) {v : Int32} {r : am_R} {c : am_C} : ∀ {l : List (Int32 × am_C)}, am_sw f v l c = some r → am_sw g v l c = some r
  | [], e => h c r e
  | q :: l, e => by
    unfold am_sw at e ⊢
    cases hb : mm_eq v q.1
    · rw [hb] at e
      exact am_sw_mono h (l := l) e
    · rw [hb] at e
      exact h _ _ e
/-- a limit of a growing row of functions -/
def am_lim (F : Nat → am_C → Option am_R) (g : am_C → Option am_R) : Prop := (∀ n m, n ≤ m → am_le (F n) (F m)) ∧ ∀ c r, g c = some r ↔ ∃ n, F n c = some r
theorem am_ev_lim {F : Nat → am_C → Option am_R} {g : am_C → Option am_R} (h : am_lim F g) (l : am_L) (r : am_R) : am_ev g l = some r ↔ ∃ n, am_ev (F n) l = some r := by
  match l with
  | none => exact ⟨fun e => (by cases e), fun ⟨_, e⟩ => (by cases e)⟩
  | some (.inl _) => exact ⟨fun e => ⟨0, e⟩, fun ⟨_, e⟩ => e⟩
  | some (.inr c) => exact h.2 c r
theorem am_sw_lim {F : Nat → am_C → Option am_R} {g : am_C → Option am_R} (h : am_lim F g) (v : Int32) (c : am_C) (r : am_R) : ∀ l : List (Int32 × am_C), am_sw g v l c = some r ↔ ∃ n, am_sw (F n) v l c = some r
  | [] => h.2 c r
  | q :: l => by
    unfold am_sw
    cases mm_eq v q.1
    · exact am_sw_lim h v c r l
    · exact h.2 _ _
theorem am_hv_mono {f g : am_C → Option am_R} (h : am_le f g) {d j pc : Nat} {lv : lo_L} {e : Nat} {k : mm_M} {r : am_R} : ∀ {l : List (Nat × Nat × Nat × Nat × Nat)}, am_hv f d j pc lv l e k = some r → am_hv g d j pc lv l e k = some r
  | [], q => q
  | q :: l, z => by
    unfold am_hv at z ⊢
    cases hb : ((Nat.ble q.1 pc && Nat.blt pc q.2.1) && (Nat.beq e 1 == Nat.beq q.2.2.2.1 1))
    · rw [hb] at z
      exact am_hv_mono h (l := l) z
    · rw [hb] at z
      exact h _ _ z
theorem am_hv_lim {F : Nat → am_C → Option am_R} {g : am_C → Option am_R} (h : am_lim F g) (d j pc : Nat) (lv : lo_L) (e : Nat) (k : mm_M) (r : am_R) : ∀ l : List (Nat × Nat × Nat × Nat × Nat), am_hv g d j pc lv l e k = some r ↔ ∃ n, am_hv (F n) d j pc lv l e k = some r
  | [] => ⟨fun e => ⟨0, e⟩, fun ⟨_, e⟩ => e⟩
  | q :: l => by
    unfold am_hv
    cases ((Nat.ble q.1 pc && Nat.blt pc q.2.1) && (Nat.beq e 1 == Nat.beq q.2.2.2.1 1))
    · exact am_hv_lim h d j pc lv e k r l
    · exact h.2 _ _
theorem am_hw_mono {f g : am_C → Option am_R} (h : am_le f g) {x : am_H} {e : Nat} {k : mm_M} {r : am_R} (z : am_hw f x e k = some r) : am_hw g x e k = some r := am_hv_mono h z
theorem am_hw_lim {F : Nat → am_C → Option am_R} {g : am_C → Option am_R} (h : am_lim F g) (x : am_H) (e : Nat) (k : mm_M) (r : am_R) : am_hw g x e k = some r ↔ ∃ n, am_hw (F n) x e k = some r := am_hv_lim h _ _ _ _ e k r _
/-- first a call, then what follows -/
theorem am_seq_lim {F : Nat → am_C → Option am_R} {g : am_C → Option am_R} (h : am_lim F g) (c1 : am_C) (K : (am_C → Option am_R) → am_R → Option am_R) (hm : ∀ f f', am_le f f' → ∀ q r, K f q = some r → K f' q = some r) (hK : ∀ q r, K g q = some r ↔ ∃ n, K (F n) q = some r) (r : am_R) :
    (g c1).bind (K g) = some r ↔ ∃ n, (F n c1).bind (K (F n)) = some r := by
  constructor
  · intro e
    cases h1 : g c1 with
    | none => rw [h1] at e; cases e
    | some q =>
      rw [h1] at e
      obtain ⟨n1, e1⟩ := (h.2 c1 q).mp h1
      obtain ⟨n2, e2⟩ := (hK q r).mp e
      refine ⟨max n1 n2, ?_⟩
      rw [h.1 n1 (max n1 n2) (Nat.le_max_left _ _) c1 q e1]
      exact hm _ _ (h.1 n2 (max n1 n2) (Nat.le_max_right _ _)) q r e2
  · intro ⟨n, e⟩
    cases h1 : F n c1 with
    | none => rw [h1] at e; cases e
    | some q =>
      rw [h1] at e
      rw [(h.2 c1 q).mpr ⟨n, h1⟩]
      exact (hK q r).mpr ⟨n, e⟩
theorem am_cV_bind (o : Option am_R) (k : mm_M → Option am_R) (x : Nat → mm_M → Option am_R) : am_cV o k x = o.bind (fun q => am_cV (some q) k x) := by cases o <;> rfl
theorem am_cI_bind (o : Option am_R) (k : Int32 → mm_M → Option am_R) (x : Nat → mm_M → Option am_R) : am_cI o k x = o.bind (fun q => am_cI (some q) k x) := by cases o <;> rfl
theorem am_cR_bind (o : Option am_R) (k : Nat → mm_M → Option am_R) (x : Nat → mm_M → Option am_R) : am_cR o k x = o.bind (fun q => am_cR (some q) k x) := by cases o <;> rfl
theorem am_cJ_bind (o : Option am_R) (k : Int64 → mm_M → Option am_R) (x : Nat → mm_M → Option am_R) : am_cJ o k x = o.bind (fun q => am_cJ (some q) k x) := by cases o <;> rfl
theorem am_no {α : Type} {r : α} {P : Nat → Prop} (h : ∀ n, ¬ P n) : (none : Option α) = some r ↔ ∃ n, P n := ⟨fun e => (by cases e), fun ⟨n, e⟩ => absurd e (h n)⟩
theorem am_do_lim {F : Nat → am_C → Option am_R} {g : am_C → Option am_R} (h : am_lim F g) (a : am_A) (r : am_R) : am_do g a = some r ↔ ∃ n, am_do (F n) a = some r := by
  match a with
  | (false, .inl (l1, l2)) => exact am_ev_lim h l2 r
  | (true, .inl (l1, l2)) => exact am_ev_lim h l1 r
  | (false, .inr (.inr (v, l, c))) => exact am_no (fun n e => by cases e)
  | (true, .inr (.inr (v, l, c))) => exact am_sw_lim h v c r l
  | (false, .inr (.inl (0, c1, k, x))) => exact am_no (fun n e => by cases e)
  | (false, .inr (.inl (1, c1, k, x))) => exact am_no (fun n e => by cases e)
  | (false, .inr (.inl (2, c1, k, x))) => exact am_no (fun n e => by cases e)
  | (false, .inr (.inl (_ + 3, c1, k, x))) => exact am_no (fun n e => by cases e)
  | (true, .inr (.inl (0, c1, k, x))) =>
    simp only [am_do, cond_true]
    rw [am_cV_bind]
    simp only [am_cV_bind (F _ c1)]
    refine am_seq_lim h c1 (fun f q => am_cV (some q) (fun h => f (k none h)) (am_hw f x)) ?_ ?_ r
    · intro f f' hf q r e
      match q, e with
      | (.inl none, h), e => exact hf _ _ e
      | (.inr _, h), e => exact am_hw_mono hf e
    · intro q r
      match q with
      | (.inl none, h2) => exact h.2 _ _
      | (.inr _, h2) => exact am_hw_lim h _ _ _ _
      | (.inl (some _), h2) => exact am_no (fun n e => by cases e)
  | (true, .inr (.inl (1, c1, k, x))) =>
    simp only [am_do, cond_true]
    rw [am_cI_bind]
    simp only [am_cI_bind (F _ c1)]
    refine am_seq_lim h c1 (fun f q => am_cI (some q) (fun v h => f (k (some (.int v)) h)) (am_hw f x)) ?_ ?_ r
    · intro f f' hf q r e
      match q, e with
      | (.inl (some (.int v)), h), e => exact hf _ _ e
      | (.inr _, h), e => exact am_hw_mono hf e
    · intro q r
      match q with
      | (.inl (some (.int v)), h2) => exact h.2 _ _
      | (.inr _, h2) => exact am_hw_lim h _ _ _ _
      | (.inl none, h2) => exact am_no (fun n e => by cases e)
      | (.inl (some (.long _)), h2) => exact am_no (fun n e => by cases e)
      | (.inl (some (.float _)), h2) => exact am_no (fun n e => by cases e)
      | (.inl (some (.double _)), h2) => exact am_no (fun n e => by cases e)
      | (.inl (some .null), h2) => exact am_no (fun n e => by cases e)
      | (.inl (some (.ref _)), h2) => exact am_no (fun n e => by cases e)
      | (.inl (some (.retAddr _)), h2) => exact am_no (fun n e => by cases e)
  | (true, .inr (.inl (2, c1, k, x))) =>
    simp only [am_do, cond_true]
    rw [am_cR_bind]
    simp only [am_cR_bind (F _ c1)]
    refine am_seq_lim h c1 (fun f q => am_cR (some q) (fun v h => f (k (some (.ref v)) h)) (am_hw f x)) ?_ ?_ r
    · intro f f' hf q r e
      match q, e with
      | (.inl (some (.ref v)), h), e => exact hf _ _ e
      | (.inr _, h), e => exact am_hw_mono hf e
    · intro q r
      match q with
      | (.inl (some (.ref v)), h2) => exact h.2 _ _
      | (.inr _, h2) => exact am_hw_lim h _ _ _ _
      | (.inl none, h2) => exact am_no (fun n e => by cases e)
      | (.inl (some (.long _)), h2) => exact am_no (fun n e => by cases e)
      | (.inl (some (.float _)), h2) => exact am_no (fun n e => by cases e)
      | (.inl (some (.double _)), h2) => exact am_no (fun n e => by cases e)
      | (.inl (some .null), h2) => exact am_no (fun n e => by cases e)
      | (.inl (some (.int _)), h2) => exact am_no (fun n e => by cases e)
      | (.inl (some (.retAddr _)), h2) => exact am_no (fun n e => by cases e)
  | (true, .inr (.inl (_ + 3, c1, k, x))) =>
    simp only [am_do, cond_true]
    rw [am_cJ_bind]
    simp only [am_cJ_bind (F _ c1)]
    refine am_seq_lim h c1 (fun f q => am_cJ (some q) (fun v h => f (k (some (.long v)) h)) (am_hw f x)) ?_ ?_ r
    · intro f f' hf q r e
      match q, e with
      | (.inl (some (.long v)), h), e => exact hf _ _ e
      | (.inr _, h), e => exact am_hw_mono hf e
    · intro q r
      match q with
      | (.inl (some (.long v)), h2) => exact h.2 _ _
      | (.inr _, h2) => exact am_hw_lim h _ _ _ _
      | (.inl none, h2) => exact am_no (fun n e => by cases e)
      | (.inl (some (.ref _)), h2) => exact am_no (fun n e => by cases e)
      | (.inl (some (.float _)), h2) => exact am_no (fun n e => by cases e)
      | (.inl (some (.double _)), h2) => exact am_no (fun n e => by cases e)
      | (.inl (some .null), h2) => exact am_no (fun n e => by cases e)
      | (.inl (some (.int _)), h2) => exact am_no (fun n e => by cases e)
      | (.inl (some (.retAddr _)), h2) => exact am_no (fun n e => by cases e)
noncomputable def am_run (T : Nat → am_T) (n : Nat) : am_C → Option am_R := Nat.rec (fun _ => none) (fun _ ih => am_step T ih) n
theorem am_do_mono {f g : am_C → Option am_R} (h : am_le f g) {a : am_A} {r : am_R} (e : am_do f a = some r) : am_do g a = some r := by
  have hl : am_lim (fun n => if n = 0 then f else g) g := by
    refine ⟨fun n m hnm c r e => ?_, fun c r => ⟨fun e => ⟨1, e⟩, fun ⟨n, e⟩ => ?_⟩⟩
    · by_cases h0 : n = 0
      · by_cases h1 : m = 0
        · simpa [h0, h1] using e
        · simp only [h0, if_true] at e
          simp only [h1, if_false]
          exact h c r e
      · have h1 : m ≠ 0 := by omega
        simpa [h0, h1] using e
    · by_cases h0 : n = 0
      · simp only [h0, if_true] at e
        exact h c r e
      · simpa [h0] using e
  exact (am_do_lim hl a r).mpr ⟨0, e⟩
theorem am_run_succ (T : Nat → am_T) : ∀ n, am_le (am_run T n) (am_run T (n + 1))
  | 0 => fun c r e => by cases e
  | n + 1 => fun c r e => am_do_mono (am_run_succ T n) (f := am_run T n) (g := am_run T (n + 1)) e
theorem am_run_le (T : Nat → am_T) (n m : Nat) (h : n ≤ m) : am_le (am_run T n) (am_run T m) := by
  obtain ⟨k, rfl⟩ := Nat.le.dest h
  induction k with
  | zero => exact fun _ _ e => e
  | succ k ih => exact fun c r e => am_run_succ T (n + k) c r (ih (Nat.le_add_right _ _) c r e)
/-- what a configuration comes to, after any number of steps -/
noncomputable def am_X (T : Nat → am_T) (c : am_C) : Option am_R := @dite _ (∃ r n, am_run T n c = some r) (Classical.propDecidable _) (fun h => some (Classical.choose h)) (fun _ => none)
theorem am_X_iff (T : Nat → am_T) (c : am_C) (r : am_R) : am_X T c = some r ↔ ∃ n, am_run T n c = some r := by
  unfold am_X
  constructor
  · intro e
    split at e
    · rename_i h
      obtain ⟨n, hn⟩ := Classical.choose_spec h
      cases e
      exact ⟨n, hn⟩
    · cases e
  · intro ⟨n, hn⟩
    have h : ∃ r n, am_run T n c = some r := ⟨r, n, hn⟩
    rw [dif_pos h]
    obtain ⟨m, hm⟩ := Classical.choose_spec h
    rcases Nat.le_total n m with q | q
    · rw [← hm, am_run_le T n m q c r hn]
    · rw [← hn, am_run_le T m n q c _ hm]
theorem am_X_lim (T : Nat → am_T) : am_lim (am_run T) (am_X T) := ⟨am_run_le T, am_X_iff T⟩
theorem am_ext {a b : Option am_R} (h : ∀ r, a = some r ↔ b = some r) : a = b := by
  cases ha : a with
  | none =>
    cases hb : b with
    | none => rfl
    | some r => exact absurd ((h r).mpr hb) (by rw [ha]; exact fun q => by cases q)
  | some r => exact ((h r).mp ha).symm
theorem am_X_step (T : Nat → am_T) (c : am_C) : am_X T c = am_step T (am_X T) c := by
  refine am_ext fun r => ?_
  rw [am_X_iff]
  unfold am_step
  rw [am_do_lim (am_X_lim T)]
  constructor
  · intro ⟨n, e⟩
    exact ⟨n, am_run_succ T n c r e⟩
  · intro ⟨n, e⟩
    exact ⟨n + 1, e⟩
/-! blocks: steps up to the next label -/
def am_lab (T : Nat → am_T) (c : am_C) : Bool := match am_find (T c.2.1).2.2.2.2 c.2.2.1 with
  | some (_, _, _, _, _, _, _, _, _, some _, _) => true
  | _ => false
def am_flt (T : Nat → am_T) (c : am_C) : am_C := match am_find (T c.2.1).2.2.2.2 c.2.2.1 with
  | some (_, _, _, _, _, _, _, _, _, some ks, _) => (c.1, c.2.1, c.2.2.1, lo_keep c.2.2.2.1 ks, c.2.2.2.2)
  | _ => c
noncomputable def am_blk (T : Nat → am_T) (f : am_C → Option am_R) (k : Nat) : am_C → Option am_R := Nat.rec f (fun _ ih => am_step T (fun c => cond (am_lab T c) (f (am_flt T c)) (ih c))) k
theorem lo_keep_keep (l : lo_L) (ks : List Nat) : lo_keep (lo_keep l ks) ks = lo_keep l ks := by simp [lo_keep, List.filter_filter]
theorem am_X_flt (T : Nat → am_T) (c : am_C) : am_X T (am_flt T c) = am_X T c := by
  rw [am_X_step T c, am_X_step T (am_flt T c)]
  unfold am_step
  congr 1
  obtain ⟨d, j, pc, lv, st, h⟩ := c
  unfold am_flt
  split
  · rename_i e1 e2 e3 e4 e5 e6 e7 e8 e9 ks e10 he
    simp only [am_act]
    rw [he]
    simp only [am_lv, lo_keep_keep]
  · rfl
theorem am_X_blk (T : Nat → am_T) (k : Nat) (c : am_C) : am_X T c = am_blk T (am_X T) k c := by
  induction k generalizing c with
  | zero => rfl
  | succ k ih =>
    rw [am_X_step]
    show am_step T (am_X T) c = am_step T (fun c => cond (am_lab T c) (am_X T (am_flt T c)) (am_blk T (am_X T) k c)) c
    congr 1
    funext c
    rw [← ih c, am_X_flt]
    cases am_lab T c <;> rfl
