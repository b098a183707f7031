/-! ===== THE ABSTRACT MACHINE AND THE REAL ONE: what a memory says of a heap ===== -/
/-- the base, old things, the classes, the array classes, contents and lengths of old arrays -/
abbrev cw_G : Type := Nat × (UInt32 → Option Nat) × va_G × (Nat → ClassId) × (UInt32 → Nat → Int32) × (UInt32 → Nat)
def cr_ (B a : Nat) : Value := match a with
  | 0 => .null
  | a + 1 => .ref (B + (a + 1))
theorem cr_pos {B a : Nat} (h : 0 < a) : cr_ B a = .ref (B + a) := by
  cases a with
  | zero => exact absurd h (Nat.lt_irrefl 0)
  | succ n => rfl
theorem cr_cat (B a : Nat) : (cr_ B a).category = 1 := by cases a <;> rfl
theorem rf_cat (o : Option Nat) : (va_rf o).category = 1 := by cases o <;> rfl
def cv_ (g : cw_G) (v : Value) : Value := match v with
  | .int x => .int x
  | .long x => .long x
  | .ref a => cr_ g.1 a
  | .float q => va_rf (g.2.1 q)
  | .double x => .double x
  | .null => .null
  | .retAddr n => .retAddr n
theorem cv_cat (g : cw_G) (v : Value) : (cv_ g v).category = v.category := by
  cases v with
  | ref a => exact cr_cat _ _
  | float q => exact rf_cat _
  | _ => rfl
theorem cv_sum (g : cw_G) (st : List Value) : ((st.map (cv_ g)).map fun v => v.category).sum = (st.map fun v => v.category).sum := by
  rw [List.map_map]
  congr 1
  exact List.map_congr_left fun v _ => cv_cat g v
theorem nb_t {a b : Nat} : Nat.beq a b = true ↔ a = b := ⟨Nat.eq_of_beq_eq_true, fun h => by rw [h]; exact Nat.beq_refl b⟩
theorem nb_f {a b : Nat} : Nat.beq a b = false ↔ a ≠ b := by
  constructor
  · intro h e
    rw [nb_t.mpr e] at h
    cases h
  · intro h
    cases hb : Nat.beq a b with
    | false => rfl
    | true => exact absurd (nb_t.mp hb) h
abbrev lo_v (g : cw_G) (lv : lo_L) : List (Nat × Value) := lv.map (fun q => (q.1, cv_ g q.2))
theorem lo_get_in {lv : lo_L} {i : Nat} {v : Value} (h : lo_get lv i = some v) : (i, v) ∈ lv := by
  induction lv with
  | nil => cases h
  | cons q r ih =>
    unfold lo_get at h
    cases hb : Nat.beq q.1 i with
    | false =>
      rw [hb] at h
      exact List.mem_cons_of_mem _ (ih h)
    | true =>
      rw [hb] at h
      have h1 : q.1 = i := Nat.eq_of_beq_eq_true hb
      cases h
      rw [← h1]
      exact List.mem_cons_self
theorem lo_get_at {g : cw_G} {lv : lo_L} {i nL : Nat} {v : Value} {ls : Array Slot} (h : lo_get lv i = some v) (hl : lv_has ls nL (lo_v g lv)) : ls[i]? = some (.val (cv_ g v)) :=
  hl.2.2 (i, cv_ g v) (List.mem_map.mpr ⟨(i, v), lo_get_in h, rfl⟩)
theorem lo_sub {g : cw_G} {lv lv' : lo_L} {nL : Nat} {ls : Array Slot} (hs : ∀ q ∈ lv', q ∈ lv) (hl : lv_has ls nL (lo_v g lv)) : lv_has ls nL (lo_v g lv') := by
  refine ⟨hl.1, hl.2.1, fun q hq => ?_⟩
  obtain ⟨z, hz, rfl⟩ := List.mem_map.mp hq
  exact hl.2.2 _ (List.mem_map.mpr ⟨z, hs z hz, rfl⟩)
theorem lo_ins_in {l : lo_L} {i : Nat} {v : Value} {q : Nat × Value} (h : q ∈ lo_ins l i v) : q = (i, v) ∨ q ∈ l := by
  induction l with
  | nil => exact Or.inl (List.mem_singleton.mp h)
  | cons z r ih =>
    unfold lo_ins at h
    cases hb : Nat.ble i z.1 with
    | true =>
      rw [hb] at h
      rcases List.mem_cons.mp h with h | h
      · exact Or.inl h
      · exact Or.inr h
    | false =>
      rw [hb] at h
      rcases List.mem_cons.mp h with h | h
      · exact Or.inr (List.mem_cons.mpr (Or.inl h))
      · rcases ih h with h | h
        · exact Or.inl h
        · exact Or.inr (List.mem_cons_of_mem _ h)
theorem lo_set1 {g : cw_G} {lv : lo_L} {i nL : Nat} {v : Value} {ls' : Array Slot} (hc : v.category = 1) (hl : lv_has ls' nL ((i, cv_ g v) :: (lo_v g lv).filter (fun q => !(q.1 == i) && !(q.1 + 1 == i && q.2.category == 2)))) : lv_has ls' nL (lo_v g (lo_set lv i v)) := by
  refine ⟨hl.1, hl.2.1, fun q hq => hl.2.2 q ?_⟩
  obtain ⟨z, hz, rfl⟩ := List.mem_map.mp hq
  rcases lo_ins_in hz with rfl | hz
  · exact List.mem_cons_self
  · refine List.mem_cons_of_mem _ (List.mem_filter.mpr ⟨List.mem_map.mpr ⟨z, (List.mem_filter.mp hz).1, rfl⟩, ?_⟩)
    have h2 := (List.mem_filter.mp hz).2
    simp only [cv_cat]
    simp only [hc, Bool.and_eq_true, Bool.not_eq_true', nb_f, Bool.and_eq_false_iff] at h2
    obtain ⟨e1, e2, -⟩ := h2
    rcases e2 with e2 | e2
    · simp [e1, e2]
    · simp [e1, e2]
theorem lo_set2 {g : cw_G} {lv : lo_L} {i nL : Nat} {v : Value} {ls' : Array Slot} (hc : v.category = 2) (hl : lv_has ls' nL ((i, cv_ g v) :: (lo_v g lv).filter (fun q => !(q.1 == i) && (!(q.1 == i + 1) && !(q.1 + 1 == i && q.2.category == 2))))) : lv_has ls' nL (lo_v g (lo_set lv i v)) := by
  refine ⟨hl.1, hl.2.1, fun q hq => hl.2.2 q ?_⟩
  obtain ⟨z, hz, rfl⟩ := List.mem_map.mp hq
  rcases lo_ins_in hz with rfl | hz
  · exact List.mem_cons_self
  · refine List.mem_cons_of_mem _ (List.mem_filter.mpr ⟨List.mem_map.mpr ⟨z, (List.mem_filter.mp hz).1, rfl⟩, ?_⟩)
    have h2 := (List.mem_filter.mp hz).2
    simp only [cv_cat]
    simp only [hc, Bool.and_eq_true, Bool.not_eq_true', nb_f, Bool.and_eq_false_iff] at h2
    obtain ⟨e1, e2, e4⟩ := h2
    have e5 : z.1 ≠ i + 1 := by
      rcases e4 with e4 | e4
      · exact absurd rfl e4
      · exact e4
    rcases e2 with e2 | e2
    · simp [e1, e2, e5]
    · simp [e1, e2, e5]
theorem lo_args (g : cw_G) : ∀ (vs : List Value) (i : Nat), lv_args i (vs.map (cv_ g)) = lo_v g (lv_args i vs)
  | [], _ => rfl
  | v :: vs, i => by
    simp only [List.map_cons, lv_args, cv_cat, lo_args g vs]
/-! the heap -/
def ho_ (g : cw_G) (h : mm_M) (ci a k : Nat) : Value := match zc_k ci k with
  | 0 => .int (mm_I h a k)
  | 1 => cr_ g.1 (mm_P h a k)
  | _ => .long (mm_J h a k)
def hp_ (g : cw_G) (h : mm_M) (H : Heap) (a : Nat) : Prop :=
  ((mm_S h a).1 = 100 → H[g.1 + a]? = some (arrV (g.2.2.2.1 0) (mm_sz h a) (fun k => .int (mm_I h a k)))) ∧
  ((mm_S h a).1 = 101 → H[g.1 + a]? = some (arrV (g.2.2.2.1 1) (mm_sz h a) (fun k => .int (mm_I h a k)))) ∧
  ((mm_S h a).1 = 102 → H[g.1 + a]? = some (arrV (g.2.2.2.1 2) (mm_sz h a) (fun k => .long (mm_J h a k)))) ∧
  ((mm_S h a).1 = 103 → H[g.1 + a]? = some (arrV (g.2.2.2.1 3) (mm_sz h a) (fun k => cr_ g.1 (mm_P h a k)))) ∧
  ((mm_S h a).1 = 104 → H[g.1 + a]? = some (arrV (g.2.2.2.1 4) (mm_sz h a) (fun k => cr_ g.1 (mm_P h a k)))) ∧
  ∀ (ci : Nat) (r : vw_C), zc_L[ci]? = some r → (mm_S h a).1 = ci + 1 → t_OB (g.1 + a) (g.2.2.1.1 ci) r.2.2 (g.2.2.1.2 ci) H (ho_ g h ci a)
def hr_ (g : cw_G) (h : mm_M) (H : Heap) : Prop := (∀ a, hp_ g h H a) ∧ (mm_S h 0).1 = 0 ∧ (mm_x h = 0 → H.size = g.1 + mm_n h + 1) ∧ mm_O h = g.2.2.2.2.1 ∧ mm_L h = g.2.2.2.2.2
theorem hr_pos {g : cw_G} {h : mm_M} {H : Heap} {a : Nat} (hr : hr_ g h H) (ha : (mm_S h a).1 ≠ 0) : 0 < a := by
  rcases Nat.eq_zero_or_pos a with e | e
  · subst e
    exact absurd hr.2.1 ha
  · exact e
theorem hp_cong {g : cw_G} {h h' : mm_M} {H H' : Heap} {b : Nat} (hp : hp_ g h H b) (hS : mm_S h' b = mm_S h b) (hI : mm_I h' b = mm_I h b) (hJ : mm_J h' b = mm_J h b) (hP : mm_P h' b = mm_P h b) (hH : H'[g.1 + b]? = H[g.1 + b]?) : hp_ g h' H' b := by
  obtain ⟨h1, h2, h3, h4, h5, h6⟩ := hp
  refine ⟨?_, ?_, ?_, ?_, ?_, ?_⟩
  · intro e; rw [hH, mm_sz, hS, hI]; exact h1 (by rw [← hS]; exact e)
  · intro e; rw [hH, mm_sz, hS, hI]; exact h2 (by rw [← hS]; exact e)
  · intro e; rw [hH, mm_sz, hS, hJ]; exact h3 (by rw [← hS]; exact e)
  · intro e; rw [hH, mm_sz, hS, hP]; exact h4 (by rw [← hS]; exact e)
  · intro e; rw [hH, mm_sz, hS, hP]; exact h5 (by rw [← hS]; exact e)
  · intro ci r hc e
    have := (h6 ci r hc (by rw [← hS]; exact e)).kept hH
    refine this.to fun k _ => ?_
    simp only [ho_, hI, hJ, hP]
theorem hr_upd {g : cw_G} {h h' : mm_M} {H H' : Heap} {a : Nat} (hr : hr_ g h H) (hS : mm_S h' = mm_S h) (hI : ∀ b, b ≠ a → mm_I h' b = mm_I h b) (hJ : ∀ b, b ≠ a → mm_J h' b = mm_J h b) (hP : ∀ b, b ≠ a → mm_P h' b = mm_P h b) (hn : mm_n h' = mm_n h) (hx : mm_x h' = mm_x h) (hO : mm_O h' = mm_O h) (hL : mm_L h' = mm_L h)
    (hz : H'.size = H.size) (ho : ∀ q, q ≠ g.1 + a → H'[q]? = H[q]?) (ha : hp_ g h' H' a) : hr_ g h' H' := by
  obtain ⟨h1, h2, h3, h4, h5⟩ := hr
  refine ⟨fun b => ?_, by rw [hS]; exact h2, fun e => by rw [hz, hn]; exact h3 (by rw [← hx]; exact e), by rw [hO]; exact h4, by rw [hL]; exact h5⟩
  by_cases hb : b = a
  · rw [hb]; exact ha
  · exact hp_cong (h1 b) (by rw [hS]) (hI b hb) (hJ b hb) (hP b hb) (ho _ (by omega))
theorem zc_99 {ci t : Nat} {r : vw_C} (h : zc_L[ci]? = some r) (ht : 100 ≤ t) : ¬ t = ci + 1 := by
  have := zc_lt h
  omega
theorem hp_100 {g : cw_G} {h : mm_M} {H : Heap} {a : Nat} (ht : (mm_S h a).1 = 100) (hc : H[g.1 + a]? = some (arrV (g.2.2.2.1 0) (mm_sz h a) (fun k => .int (mm_I h a k)))) : hp_ g h H a := ⟨fun _ => hc, fun e => absurd (ht.symm.trans e) (by decide), fun e => absurd (ht.symm.trans e) (by decide), fun e => absurd (ht.symm.trans e) (by decide), fun e => absurd (ht.symm.trans e) (by decide), fun ci r hz e => absurd (ht.symm.trans e) (zc_99 hz (by decide))⟩
theorem hp_101 {g : cw_G} {h : mm_M} {H : Heap} {a : Nat} (ht : (mm_S h a).1 = 101) (hc : H[g.1 + a]? = some (arrV (g.2.2.2.1 1) (mm_sz h a) (fun k => .int (mm_I h a k)))) : hp_ g h H a := ⟨fun e => absurd (ht.symm.trans e) (by decide), fun _ => hc, fun e => absurd (ht.symm.trans e) (by decide), fun e => absurd (ht.symm.trans e) (by decide), fun e => absurd (ht.symm.trans e) (by decide), fun ci r hz e => absurd (ht.symm.trans e) (zc_99 hz (by decide))⟩
theorem hp_102 {g : cw_G} {h : mm_M} {H : Heap} {a : Nat} (ht : (mm_S h a).1 = 102) (hc : H[g.1 + a]? = some (arrV (g.2.2.2.1 2) (mm_sz h a) (fun k => .long (mm_J h a k)))) : hp_ g h H a := ⟨fun e => absurd (ht.symm.trans e) (by decide), fun e => absurd (ht.symm.trans e) (by decide), fun _ => hc, fun e => absurd (ht.symm.trans e) (by decide), fun e => absurd (ht.symm.trans e) (by decide), fun ci r hz e => absurd (ht.symm.trans e) (zc_99 hz (by decide))⟩
theorem hp_103 {g : cw_G} {h : mm_M} {H : Heap} {a : Nat} (ht : (mm_S h a).1 = 103) (hc : H[g.1 + a]? = some (arrV (g.2.2.2.1 3) (mm_sz h a) (fun k => cr_ g.1 (mm_P h a k)))) : hp_ g h H a := ⟨fun e => absurd (ht.symm.trans e) (by decide), fun e => absurd (ht.symm.trans e) (by decide), fun e => absurd (ht.symm.trans e) (by decide), fun _ => hc, fun e => absurd (ht.symm.trans e) (by decide), fun ci r hz e => absurd (ht.symm.trans e) (zc_99 hz (by decide))⟩
theorem hp_104 {g : cw_G} {h : mm_M} {H : Heap} {a : Nat} (ht : (mm_S h a).1 = 104) (hc : H[g.1 + a]? = some (arrV (g.2.2.2.1 4) (mm_sz h a) (fun k => cr_ g.1 (mm_P h a k)))) : hp_ g h H a := ⟨fun e => absurd (ht.symm.trans e) (by decide), fun e => absurd (ht.symm.trans e) (by decide), fun e => absurd (ht.symm.trans e) (by decide), fun e => absurd (ht.symm.trans e) (by decide), fun _ => hc, fun ci r hz e => absurd (ht.symm.trans e) (zc_99 hz (by decide))⟩
theorem hp_ob {g : cw_G} {h : mm_M} {H : Heap} {a ci : Nat} {r : vw_C} (hz : zc_L[ci]? = some r) (ht : (mm_S h a).1 = ci + 1) (hc : t_OB (g.1 + a) (g.2.2.1.1 ci) r.2.2 (g.2.2.1.2 ci) H (ho_ g h ci a)) : hp_ g h H a := by
  have hl := zc_lt hz
  refine ⟨fun e => ?_, fun e => ?_, fun e => ?_, fun e => ?_, fun e => ?_, fun ci' r' hz' e => ?_⟩
  · omega
  · omega
  · omega
  · omega
  · omega
  · have hcc : ci' = ci := by omega
    subst hcc
    cases hz.symm.trans hz'
    exact hc
