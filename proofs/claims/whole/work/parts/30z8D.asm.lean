/-! ===== every instruction, by its check ===== -/
section ASM
variable {Z : Nat → am_T × ms_T} {f : am_C → Option am_R} {d j pc len x y u w : Nat} {lv : lo_L} {st : List Value} {h : mm_M} {r : am_R} {iv : Int32} {lc : Int64} {sw : List (Int32 × Nat)}
theorem ag_go {c : am_C} (e : am_do f (am_go c) = some r) : f c = some r := e
theorem ag_if {b : Bool} {c : am_C} (e : am_do f (am_if b c) = some r) : b = true ∧ f c = some r := by
  cases b with
  | true => exact ⟨rfl, e⟩
  | false => cases e
theorem ag_br {b : Bool} {c1 c2 : am_C} (e : am_do f (am_br b c1 c2) = some r) : (b = true → f c1 = some r) ∧ (b = false → f c2 = some r) := by
  cases b with
  | true => exact ⟨fun _ => e, fun z => (by cases z)⟩
  | false => exact ⟨fun z => (by cases z), fun _ => e⟩
theorem ag_fin {b : Bool} {q : am_R} (e : am_do f (am_fin b q) = some r) : b = true ∧ q = r := by
  cases b with
  | true => exact ⟨rfl, Option.some.inj e⟩
  | false => cases e
theorem ag_in {i : Int32} {n : Nat} (e : mm_in i n = true) : vp_in i n := by
  simp only [mm_in, Bool.not_eq_true', Bool.or_eq_false_iff, decide_eq_false_iff_not] at e
  exact fun z => z.elim e.1 e.2
abbrev ag_T (Z : Nat → am_T × ms_T) : Nat → am_T := fun j => (Z j).1
theorem sp_iconst {n : Int} (hf : ∀ c r, f c = some r → Snd Z c r) (hd : decode (Z j).2.2.1 pc = .ok (.iconst n, len)) (hj : ej_ Z (Z j).2 pc (.iconst n) len x y u w iv lc sw = true) (hop : am_do f (am_op (ag_T Z) d j pc lv st h (.iconst n) (pc + len) x y u iv lc sw) = some r) : Snd Z (d, j, pc, lv, st, h) r := by
  simp only [ej_, Bool.and_eq_true, nb_t, decide_eq_true_eq] at hj
  obtain ⟨rfl, h1⟩ := hj
  exact so_iconst hd h1 (hf _ _ (ag_go hop))
theorem sp_bipush {n : Int} (hf : ∀ c r, f c = some r → Snd Z c r) (hd : decode (Z j).2.2.1 pc = .ok (.bipush n, len)) (hj : ej_ Z (Z j).2 pc (.bipush n) len x y u w iv lc sw = true) (hop : am_do f (am_op (ag_T Z) d j pc lv st h (.bipush n) (pc + len) x y u iv lc sw) = some r) : Snd Z (d, j, pc, lv, st, h) r := by
  simp only [ej_, Bool.and_eq_true, nb_t, decide_eq_true_eq] at hj
  obtain ⟨rfl, h1⟩ := hj
  exact so_bipush hd h1 (hf _ _ (ag_go hop))
theorem sp_sipush {n : Int} (hf : ∀ c r, f c = some r → Snd Z c r) (hd : decode (Z j).2.2.1 pc = .ok (.sipush n, len)) (hj : ej_ Z (Z j).2 pc (.sipush n) len x y u w iv lc sw = true) (hop : am_do f (am_op (ag_T Z) d j pc lv st h (.sipush n) (pc + len) x y u iv lc sw) = some r) : Snd Z (d, j, pc, lv, st, h) r := by
  simp only [ej_, Bool.and_eq_true, nb_t, decide_eq_true_eq] at hj
  obtain ⟨rfl, h1⟩ := hj
  exact so_sipush hd h1 (hf _ _ (ag_go hop))
theorem sp_lconst {n : Fin 2} (hf : ∀ c r, f c = some r → Snd Z c r) (hd : decode (Z j).2.2.1 pc = .ok (.lconst n, len)) (hj : ej_ Z (Z j).2 pc (.lconst n) len x y u w iv lc sw = true) (hop : am_do f (am_op (ag_T Z) d j pc lv st h (.lconst n) (pc + len) x y u iv lc sw) = some r) : Snd Z (d, j, pc, lv, st, h) r := by
  simp only [ej_, Bool.and_eq_true, nb_t, decide_eq_true_eq] at hj
  obtain ⟨rfl, h1⟩ := hj
  exact so_lconst hd h1 (hf _ _ (ag_go hop))
theorem sp_ldcw {k : Nat} (hf : ∀ c r, f c = some r → Snd Z c r) (hd : decode (Z j).2.2.1 pc = .ok (.ldc_w k, len)) (hj : ej_ Z (Z j).2 pc (.ldc_w k) len x y u w iv lc sw = true) (hop : am_do f (am_op (ag_T Z) d j pc lv st h (.ldc_w k) (pc + len) x y u iv lc sw) = some r) : Snd Z (d, j, pc, lv, st, h) r := by
  simp only [ej_, Bool.and_eq_true, nb_t] at hj
  obtain ⟨rfl, h1⟩ := hj
  exact so_ldcw hd (lu_in h1) (hf _ _ (ag_go hop))
theorem sp_ldc2 {k : Nat} (hf : ∀ c r, f c = some r → Snd Z c r) (hd : decode (Z j).2.2.1 pc = .ok (.ldc2_w k, len)) (hj : ej_ Z (Z j).2 pc (.ldc2_w k) len x y u w iv lc sw = true) (hop : am_do f (am_op (ag_T Z) d j pc lv st h (.ldc2_w k) (pc + len) x y u iv lc sw) = some r) : Snd Z (d, j, pc, lv, st, h) r := by
  simp only [ej_, Bool.and_eq_true, nb_t] at hj
  obtain ⟨rfl, h1⟩ := hj
  exact so_ldc2 hd (lu_in h1) (hf _ _ (ag_go hop))
theorem sp_ldc {k : Nat} (hf : ∀ c r, f c = some r → Snd Z c r) (hd : decode (Z j).2.2.1 pc = .ok (.ldc k, len)) (hj : ej_ Z (Z j).2 pc (.ldc k) len x y u w iv lc sw = true) (hop : am_do f (am_op (ag_T Z) d j pc lv st h (.ldc k) (pc + len) x y u iv lc sw) = some r) : Snd Z (d, j, pc, lv, st, h) r := by
  match x, hj, hop with
  | 0, hj, hop =>
    simp only [ej_, Bool.and_eq_true, nb_t] at hj
    obtain ⟨rfl, h1⟩ := hj
    exact so_ldc hd (lu_in h1) (hf _ _ (ag_go hop))
  | x + 1, hj, hop =>
    simp only [ej_, Bool.and_eq_true, nb_t, List.any_eq_true, decide_eq_true_eq] at hj
    obtain ⟨rfl, q, h1, h2, h3, h4⟩ := hj
    refine so_ldcS (tx := q.2.2.1) hd ?_ (hf _ _ (ag_go hop))
    rw [← h2, ← h3, ← h4]
    exact h1
theorem sp_iload {i : Nat} (hf : ∀ c r, f c = some r → Snd Z c r) (hd : decode (Z j).2.2.1 pc = .ok (.iload i, len)) (hj : ej_ Z (Z j).2 pc (.iload i) len x y u w iv lc sw = true) (hop : am_do f (am_op (ag_T Z) d j pc lv st h (.iload i) (pc + len) x y u iv lc sw) = some r) : Snd Z (d, j, pc, lv, st, h) r := by
  simp only [ej_, Bool.and_eq_true, nb_t] at hj
  obtain ⟨rfl, rfl⟩ := hj
  simp only [am_op] at hop
  split at hop
  · rename_i v hg
    exact so_iload hd hg (hf _ _ (ag_go hop))
  · cases hop
theorem sp_iload_n {i : Fin 4} (hf : ∀ c r, f c = some r → Snd Z c r) (hd : decode (Z j).2.2.1 pc = .ok (.iload_n i, len)) (hj : ej_ Z (Z j).2 pc (.iload_n i) len x y u w iv lc sw = true) (hop : am_do f (am_op (ag_T Z) d j pc lv st h (.iload_n i) (pc + len) x y u iv lc sw) = some r) : Snd Z (d, j, pc, lv, st, h) r := by
  simp only [ej_, Bool.and_eq_true, nb_t, decide_eq_true_eq] at hj
  obtain ⟨rfl, h1⟩ := hj
  simp only [am_op] at hop
  split at hop
  · rename_i v hg
    exact so_iload_n hd h1 hg (hf _ _ (ag_go hop))
  · cases hop
theorem sp_istore {i : Nat} (hf : ∀ c r, f c = some r → Snd Z c r) (hd : decode (Z j).2.2.1 pc = .ok (.istore i, len)) (hj : ej_ Z (Z j).2 pc (.istore i) len x y u w iv lc sw = true) (hop : am_do f (am_op (ag_T Z) d j pc lv st h (.istore i) (pc + len) x y u iv lc sw) = some r) : Snd Z (d, j, pc, lv, st, h) r := by
  simp only [ej_, Bool.and_eq_true, nb_t, decide_eq_true_eq] at hj
  obtain ⟨⟨rfl, rfl⟩, h1⟩ := hj
  simp only [am_op] at hop
  split at hop
  · exact so_istore hd h1 (hf _ _ (ag_go hop))
  · cases hop
theorem sp_istore_n {i : Fin 4} (hf : ∀ c r, f c = some r → Snd Z c r) (hd : decode (Z j).2.2.1 pc = .ok (.istore_n i, len)) (hj : ej_ Z (Z j).2 pc (.istore_n i) len x y u w iv lc sw = true) (hop : am_do f (am_op (ag_T Z) d j pc lv st h (.istore_n i) (pc + len) x y u iv lc sw) = some r) : Snd Z (d, j, pc, lv, st, h) r := by
  simp only [ej_, Bool.and_eq_true, nb_t, decide_eq_true_eq] at hj
  obtain ⟨⟨rfl, h2⟩, h1⟩ := hj
  simp only [am_op] at hop
  split at hop
  · exact so_istore_n hd h2 h1 (hf _ _ (ag_go hop))
  · cases hop
theorem sp_lload {i : Nat} (hf : ∀ c r, f c = some r → Snd Z c r) (hd : decode (Z j).2.2.1 pc = .ok (.lload i, len)) (hj : ej_ Z (Z j).2 pc (.lload i) len x y u w iv lc sw = true) (hop : am_do f (am_op (ag_T Z) d j pc lv st h (.lload i) (pc + len) x y u iv lc sw) = some r) : Snd Z (d, j, pc, lv, st, h) r := by
  simp only [ej_, Bool.and_eq_true, nb_t] at hj
  obtain ⟨rfl, rfl⟩ := hj
  simp only [am_op] at hop
  split at hop
  · rename_i v hg
    exact so_lload hd hg (hf _ _ (ag_go hop))
  · cases hop
theorem sp_lload_n {i : Fin 4} (hf : ∀ c r, f c = some r → Snd Z c r) (hd : decode (Z j).2.2.1 pc = .ok (.lload_n i, len)) (hj : ej_ Z (Z j).2 pc (.lload_n i) len x y u w iv lc sw = true) (hop : am_do f (am_op (ag_T Z) d j pc lv st h (.lload_n i) (pc + len) x y u iv lc sw) = some r) : Snd Z (d, j, pc, lv, st, h) r := by
  simp only [ej_, Bool.and_eq_true, nb_t, decide_eq_true_eq] at hj
  obtain ⟨rfl, h1⟩ := hj
  simp only [am_op] at hop
  split at hop
  · rename_i v hg
    exact so_lload_n hd h1 hg (hf _ _ (ag_go hop))
  · cases hop
theorem sp_lstore {i : Nat} (hf : ∀ c r, f c = some r → Snd Z c r) (hd : decode (Z j).2.2.1 pc = .ok (.lstore i, len)) (hj : ej_ Z (Z j).2 pc (.lstore i) len x y u w iv lc sw = true) (hop : am_do f (am_op (ag_T Z) d j pc lv st h (.lstore i) (pc + len) x y u iv lc sw) = some r) : Snd Z (d, j, pc, lv, st, h) r := by
  simp only [ej_, Bool.and_eq_true, nb_t, decide_eq_true_eq] at hj
  obtain ⟨⟨rfl, rfl⟩, h1⟩ := hj
  simp only [am_op] at hop
  split at hop
  · exact so_lstore hd h1 (hf _ _ (ag_go hop))
  · cases hop
theorem sp_lstore_n {i : Fin 4} (hf : ∀ c r, f c = some r → Snd Z c r) (hd : decode (Z j).2.2.1 pc = .ok (.lstore_n i, len)) (hj : ej_ Z (Z j).2 pc (.lstore_n i) len x y u w iv lc sw = true) (hop : am_do f (am_op (ag_T Z) d j pc lv st h (.lstore_n i) (pc + len) x y u iv lc sw) = some r) : Snd Z (d, j, pc, lv, st, h) r := by
  simp only [ej_, Bool.and_eq_true, nb_t, decide_eq_true_eq] at hj
  obtain ⟨⟨rfl, h2⟩, h1⟩ := hj
  simp only [am_op] at hop
  split at hop
  · exact so_lstore_n hd h2 h1 (hf _ _ (ag_go hop))
  · cases hop
theorem sp_aload {i : Nat} (hf : ∀ c r, f c = some r → Snd Z c r) (hd : decode (Z j).2.2.1 pc = .ok (.aload i, len)) (hj : ej_ Z (Z j).2 pc (.aload i) len x y u w iv lc sw = true) (hop : am_do f (am_op (ag_T Z) d j pc lv st h (.aload i) (pc + len) x y u iv lc sw) = some r) : Snd Z (d, j, pc, lv, st, h) r := by
  simp only [ej_, Bool.and_eq_true, nb_t] at hj
  obtain ⟨rfl, rfl⟩ := hj
  simp only [am_op] at hop
  split at hop
  · rename_i v hg
    exact so_aload (Or.inl ⟨_, rfl⟩) hd hg (hf _ _ (ag_go hop))
  · rename_i v hg
    exact so_aload (Or.inr ⟨_, rfl⟩) hd hg (hf _ _ (ag_go hop))
  · cases hop
theorem sp_aload_n {i : Fin 4} (hf : ∀ c r, f c = some r → Snd Z c r) (hd : decode (Z j).2.2.1 pc = .ok (.aload_n i, len)) (hj : ej_ Z (Z j).2 pc (.aload_n i) len x y u w iv lc sw = true) (hop : am_do f (am_op (ag_T Z) d j pc lv st h (.aload_n i) (pc + len) x y u iv lc sw) = some r) : Snd Z (d, j, pc, lv, st, h) r := by
  simp only [ej_, Bool.and_eq_true, nb_t, decide_eq_true_eq] at hj
  obtain ⟨rfl, h1⟩ := hj
  simp only [am_op] at hop
  split at hop
  · rename_i v hg
    exact so_aload_n (Or.inl ⟨_, rfl⟩) hd h1 hg (hf _ _ (ag_go hop))
  · rename_i v hg
    exact so_aload_n (Or.inr ⟨_, rfl⟩) hd h1 hg (hf _ _ (ag_go hop))
  · cases hop
theorem sp_astore {i : Nat} (hf : ∀ c r, f c = some r → Snd Z c r) (hd : decode (Z j).2.2.1 pc = .ok (.astore i, len)) (hj : ej_ Z (Z j).2 pc (.astore i) len x y u w iv lc sw = true) (hop : am_do f (am_op (ag_T Z) d j pc lv st h (.astore i) (pc + len) x y u iv lc sw) = some r) : Snd Z (d, j, pc, lv, st, h) r := by
  simp only [ej_, Bool.and_eq_true, nb_t, decide_eq_true_eq] at hj
  obtain ⟨⟨rfl, rfl⟩, h1⟩ := hj
  simp only [am_op] at hop
  split at hop
  · exact so_astore (Or.inl ⟨_, rfl⟩) hd h1 (hf _ _ (ag_go hop))
  · exact so_astore (Or.inr ⟨_, rfl⟩) hd h1 (hf _ _ (ag_go hop))
  · cases hop
theorem sp_astore_n {i : Fin 4} (hf : ∀ c r, f c = some r → Snd Z c r) (hd : decode (Z j).2.2.1 pc = .ok (.astore_n i, len)) (hj : ej_ Z (Z j).2 pc (.astore_n i) len x y u w iv lc sw = true) (hop : am_do f (am_op (ag_T Z) d j pc lv st h (.astore_n i) (pc + len) x y u iv lc sw) = some r) : Snd Z (d, j, pc, lv, st, h) r := by
  simp only [ej_, Bool.and_eq_true, nb_t, decide_eq_true_eq] at hj
  obtain ⟨⟨rfl, h2⟩, h1⟩ := hj
  simp only [am_op] at hop
  split at hop
  · exact so_astore_n (Or.inl ⟨_, rfl⟩) hd h2 h1 (hf _ _ (ag_go hop))
  · exact so_astore_n (Or.inr ⟨_, rfl⟩) hd h2 h1 (hf _ _ (ag_go hop))
  · cases hop
theorem sp_iinc {i : Nat} {n : Int} (hf : ∀ c r, f c = some r → Snd Z c r) (hd : decode (Z j).2.2.1 pc = .ok (.iinc i n, len)) (hj : ej_ Z (Z j).2 pc (.iinc i n) len x y u w iv lc sw = true) (hop : am_do f (am_op (ag_T Z) d j pc lv st h (.iinc i n) (pc + len) x y u iv lc sw) = some r) : Snd Z (d, j, pc, lv, st, h) r := by
  simp only [ej_, Bool.and_eq_true, nb_t, decide_eq_true_eq] at hj
  obtain ⟨⟨⟨rfl, rfl⟩, h2⟩, h1⟩ := hj
  simp only [am_op] at hop
  split at hop
  · rename_i v hg
    exact so_iinc hd h2 h1 hg (hf _ _ (ag_go hop))
  · cases hop
theorem sp_iadd (hf : ∀ c r, f c = some r → Snd Z c r) (hd : decode (Z j).2.2.1 pc = .ok (.iadd, len)) (hj : ej_ Z (Z j).2 pc (.iadd) len x y u w iv lc sw = true) (hop : am_do f (am_op (ag_T Z) d j pc lv st h (.iadd) (pc + len) x y u iv lc sw) = some r) : Snd Z (d, j, pc, lv, st, h) r := by
  simp only [ej_, nb_t] at hj
  subst hj
  simp only [am_op] at hop
  split at hop
  · exact so_iadd hd (hf _ _ (ag_go hop))
  · cases hop
theorem sp_isub (hf : ∀ c r, f c = some r → Snd Z c r) (hd : decode (Z j).2.2.1 pc = .ok (.isub, len)) (hj : ej_ Z (Z j).2 pc (.isub) len x y u w iv lc sw = true) (hop : am_do f (am_op (ag_T Z) d j pc lv st h (.isub) (pc + len) x y u iv lc sw) = some r) : Snd Z (d, j, pc, lv, st, h) r := by
  simp only [ej_, nb_t] at hj
  subst hj
  simp only [am_op] at hop
  split at hop
  · exact so_isub hd (hf _ _ (ag_go hop))
  · cases hop
theorem sp_imul (hf : ∀ c r, f c = some r → Snd Z c r) (hd : decode (Z j).2.2.1 pc = .ok (.imul, len)) (hj : ej_ Z (Z j).2 pc (.imul) len x y u w iv lc sw = true) (hop : am_do f (am_op (ag_T Z) d j pc lv st h (.imul) (pc + len) x y u iv lc sw) = some r) : Snd Z (d, j, pc, lv, st, h) r := by
  simp only [ej_, nb_t] at hj
  subst hj
  simp only [am_op] at hop
  split at hop
  · exact so_imul hd (hf _ _ (ag_go hop))
  · cases hop
theorem sp_iand (hf : ∀ c r, f c = some r → Snd Z c r) (hd : decode (Z j).2.2.1 pc = .ok (.iand, len)) (hj : ej_ Z (Z j).2 pc (.iand) len x y u w iv lc sw = true) (hop : am_do f (am_op (ag_T Z) d j pc lv st h (.iand) (pc + len) x y u iv lc sw) = some r) : Snd Z (d, j, pc, lv, st, h) r := by
  simp only [ej_, nb_t] at hj
  subst hj
  simp only [am_op] at hop
  split at hop
  · exact so_iand hd (hf _ _ (ag_go hop))
  · cases hop
theorem sp_ior (hf : ∀ c r, f c = some r → Snd Z c r) (hd : decode (Z j).2.2.1 pc = .ok (.ior, len)) (hj : ej_ Z (Z j).2 pc (.ior) len x y u w iv lc sw = true) (hop : am_do f (am_op (ag_T Z) d j pc lv st h (.ior) (pc + len) x y u iv lc sw) = some r) : Snd Z (d, j, pc, lv, st, h) r := by
  simp only [ej_, nb_t] at hj
  subst hj
  simp only [am_op] at hop
  split at hop
  · exact so_ior hd (hf _ _ (ag_go hop))
  · cases hop
theorem sp_ishl (hf : ∀ c r, f c = some r → Snd Z c r) (hd : decode (Z j).2.2.1 pc = .ok (.ishl, len)) (hj : ej_ Z (Z j).2 pc (.ishl) len x y u w iv lc sw = true) (hop : am_do f (am_op (ag_T Z) d j pc lv st h (.ishl) (pc + len) x y u iv lc sw) = some r) : Snd Z (d, j, pc, lv, st, h) r := by
  simp only [ej_, nb_t] at hj
  subst hj
  simp only [am_op] at hop
  split at hop
  · exact so_ishl hd (hf _ _ (ag_go hop))
  · cases hop
theorem sp_ishr (hf : ∀ c r, f c = some r → Snd Z c r) (hd : decode (Z j).2.2.1 pc = .ok (.ishr, len)) (hj : ej_ Z (Z j).2 pc (.ishr) len x y u w iv lc sw = true) (hop : am_do f (am_op (ag_T Z) d j pc lv st h (.ishr) (pc + len) x y u iv lc sw) = some r) : Snd Z (d, j, pc, lv, st, h) r := by
  simp only [ej_, nb_t] at hj
  subst hj
  simp only [am_op] at hop
  split at hop
  · exact so_ishr hd (hf _ _ (ag_go hop))
  · cases hop
theorem sp_ineg (hf : ∀ c r, f c = some r → Snd Z c r) (hd : decode (Z j).2.2.1 pc = .ok (.ineg, len)) (hj : ej_ Z (Z j).2 pc (.ineg) len x y u w iv lc sw = true) (hop : am_do f (am_op (ag_T Z) d j pc lv st h (.ineg) (pc + len) x y u iv lc sw) = some r) : Snd Z (d, j, pc, lv, st, h) r := by
  simp only [ej_, nb_t] at hj
  subst hj
  simp only [am_op] at hop
  split at hop
  · exact so_ineg hd (hf _ _ (ag_go hop))
  · cases hop
theorem sp_i2l (hf : ∀ c r, f c = some r → Snd Z c r) (hd : decode (Z j).2.2.1 pc = .ok (.i2l, len)) (hj : ej_ Z (Z j).2 pc (.i2l) len x y u w iv lc sw = true) (hop : am_do f (am_op (ag_T Z) d j pc lv st h (.i2l) (pc + len) x y u iv lc sw) = some r) : Snd Z (d, j, pc, lv, st, h) r := by
  simp only [ej_, nb_t] at hj
  subst hj
  simp only [am_op] at hop
  split at hop
  · exact so_i2l hd (hf _ _ (ag_go hop))
  · cases hop
theorem sp_l2i (hf : ∀ c r, f c = some r → Snd Z c r) (hd : decode (Z j).2.2.1 pc = .ok (.l2i, len)) (hj : ej_ Z (Z j).2 pc (.l2i) len x y u w iv lc sw = true) (hop : am_do f (am_op (ag_T Z) d j pc lv st h (.l2i) (pc + len) x y u iv lc sw) = some r) : Snd Z (d, j, pc, lv, st, h) r := by
  simp only [ej_, nb_t] at hj
  subst hj
  simp only [am_op] at hop
  split at hop
  · exact so_l2i hd (hf _ _ (ag_go hop))
  · cases hop
theorem sp_i2b (hf : ∀ c r, f c = some r → Snd Z c r) (hd : decode (Z j).2.2.1 pc = .ok (.i2b, len)) (hj : ej_ Z (Z j).2 pc (.i2b) len x y u w iv lc sw = true) (hop : am_do f (am_op (ag_T Z) d j pc lv st h (.i2b) (pc + len) x y u iv lc sw) = some r) : Snd Z (d, j, pc, lv, st, h) r := by
  simp only [ej_, nb_t] at hj
  subst hj
  simp only [am_op] at hop
  split at hop
  · exact so_i2b hd (hf _ _ (ag_go hop))
  · cases hop
theorem sp_i2c (hf : ∀ c r, f c = some r → Snd Z c r) (hd : decode (Z j).2.2.1 pc = .ok (.i2c, len)) (hj : ej_ Z (Z j).2 pc (.i2c) len x y u w iv lc sw = true) (hop : am_do f (am_op (ag_T Z) d j pc lv st h (.i2c) (pc + len) x y u iv lc sw) = some r) : Snd Z (d, j, pc, lv, st, h) r := by
  simp only [ej_, nb_t] at hj
  subst hj
  simp only [am_op] at hop
  split at hop
  · exact so_i2c hd (hf _ _ (ag_go hop))
  · cases hop
theorem sp_ladd (hf : ∀ c r, f c = some r → Snd Z c r) (hd : decode (Z j).2.2.1 pc = .ok (.ladd, len)) (hj : ej_ Z (Z j).2 pc (.ladd) len x y u w iv lc sw = true) (hop : am_do f (am_op (ag_T Z) d j pc lv st h (.ladd) (pc + len) x y u iv lc sw) = some r) : Snd Z (d, j, pc, lv, st, h) r := by
  simp only [ej_, nb_t] at hj
  subst hj
  simp only [am_op] at hop
  split at hop
  · exact so_ladd hd (hf _ _ (ag_go hop))
  · cases hop
theorem sp_lsub (hf : ∀ c r, f c = some r → Snd Z c r) (hd : decode (Z j).2.2.1 pc = .ok (.lsub, len)) (hj : ej_ Z (Z j).2 pc (.lsub) len x y u w iv lc sw = true) (hop : am_do f (am_op (ag_T Z) d j pc lv st h (.lsub) (pc + len) x y u iv lc sw) = some r) : Snd Z (d, j, pc, lv, st, h) r := by
  simp only [ej_, nb_t] at hj
  subst hj
  simp only [am_op] at hop
  split at hop
  · exact so_lsub hd (hf _ _ (ag_go hop))
  · cases hop
theorem sp_lmul (hf : ∀ c r, f c = some r → Snd Z c r) (hd : decode (Z j).2.2.1 pc = .ok (.lmul, len)) (hj : ej_ Z (Z j).2 pc (.lmul) len x y u w iv lc sw = true) (hop : am_do f (am_op (ag_T Z) d j pc lv st h (.lmul) (pc + len) x y u iv lc sw) = some r) : Snd Z (d, j, pc, lv, st, h) r := by
  simp only [ej_, nb_t] at hj
  subst hj
  simp only [am_op] at hop
  split at hop
  · exact so_lmul hd (hf _ _ (ag_go hop))
  · cases hop
theorem sp_lcmp (hf : ∀ c r, f c = some r → Snd Z c r) (hd : decode (Z j).2.2.1 pc = .ok (.lcmp, len)) (hj : ej_ Z (Z j).2 pc (.lcmp) len x y u w iv lc sw = true) (hop : am_do f (am_op (ag_T Z) d j pc lv st h (.lcmp) (pc + len) x y u iv lc sw) = some r) : Snd Z (d, j, pc, lv, st, h) r := by
  simp only [ej_, nb_t] at hj
  subst hj
  simp only [am_op] at hop
  split at hop
  · exact so_lcmp hd (hf _ _ (ag_go hop))
  · cases hop
theorem sp_idiv (hf : ∀ c r, f c = some r → Snd Z c r) (hd : decode (Z j).2.2.1 pc = .ok (.idiv, len)) (hj : ej_ Z (Z j).2 pc (.idiv) len x y u w iv lc sw = true) (hop : am_do f (am_op (ag_T Z) d j pc lv st h (.idiv) (pc + len) x y u iv lc sw) = some r) : Snd Z (d, j, pc, lv, st, h) r := by
  simp only [ej_, nb_t] at hj
  subst hj
  simp only [am_op] at hop
  split at hop
  · obtain ⟨b1, b2⟩ := ag_if hop
    exact so_idiv hd (of_decide_eq_true b1) (hf _ _ b2)
  · cases hop
theorem sp_irem (hf : ∀ c r, f c = some r → Snd Z c r) (hd : decode (Z j).2.2.1 pc = .ok (.irem, len)) (hj : ej_ Z (Z j).2 pc (.irem) len x y u w iv lc sw = true) (hop : am_do f (am_op (ag_T Z) d j pc lv st h (.irem) (pc + len) x y u iv lc sw) = some r) : Snd Z (d, j, pc, lv, st, h) r := by
  simp only [ej_, nb_t] at hj
  subst hj
  simp only [am_op] at hop
  split at hop
  · obtain ⟨b1, b2⟩ := ag_if hop
    exact so_irem hd (of_decide_eq_true b1) (hf _ _ b2)
  · cases hop
theorem sp_ldiv (hf : ∀ c r, f c = some r → Snd Z c r) (hd : decode (Z j).2.2.1 pc = .ok (.ldiv, len)) (hj : ej_ Z (Z j).2 pc (.ldiv) len x y u w iv lc sw = true) (hop : am_do f (am_op (ag_T Z) d j pc lv st h (.ldiv) (pc + len) x y u iv lc sw) = some r) : Snd Z (d, j, pc, lv, st, h) r := by
  simp only [ej_, nb_t] at hj
  subst hj
  simp only [am_op] at hop
  split at hop
  · obtain ⟨b1, b2⟩ := ag_if hop
    exact so_ldiv hd (of_decide_eq_true b1) (hf _ _ b2)
  · cases hop
theorem sp_dup (hf : ∀ c r, f c = some r → Snd Z c r) (hd : decode (Z j).2.2.1 pc = .ok (.dup, len)) (hj : ej_ Z (Z j).2 pc (.dup) len x y u w iv lc sw = true) (hop : am_do f (am_op (ag_T Z) d j pc lv st h (.dup) (pc + len) x y u iv lc sw) = some r) : Snd Z (d, j, pc, lv, st, h) r := by
  simp only [ej_, nb_t] at hj
  subst hj
  simp only [am_op] at hop
  split at hop
  · exact so_dup hd rfl (hf _ _ (ag_go hop))
  · exact so_dup hd rfl (hf _ _ (ag_go hop))
  · cases hop
theorem sp_dup2 (hf : ∀ c r, f c = some r → Snd Z c r) (hd : decode (Z j).2.2.1 pc = .ok (.dup2, len)) (hj : ej_ Z (Z j).2 pc (.dup2) len x y u w iv lc sw = true) (hop : am_do f (am_op (ag_T Z) d j pc lv st h (.dup2) (pc + len) x y u iv lc sw) = some r) : Snd Z (d, j, pc, lv, st, h) r := by
  simp only [ej_, nb_t] at hj
  subst hj
  simp only [am_op] at hop
  split at hop
  · exact so_dup2 hd rfl rfl (hf _ _ (ag_go hop))
  · cases hop
theorem sp_pop (hf : ∀ c r, f c = some r → Snd Z c r) (hd : decode (Z j).2.2.1 pc = .ok (.pop, len)) (hj : ej_ Z (Z j).2 pc (.pop) len x y u w iv lc sw = true) (hop : am_do f (am_op (ag_T Z) d j pc lv st h (.pop) (pc + len) x y u iv lc sw) = some r) : Snd Z (d, j, pc, lv, st, h) r := by
  simp only [ej_, nb_t] at hj
  subst hj
  simp only [am_op] at hop
  split at hop
  · exact so_pop hd rfl (hf _ _ (ag_go hop))
  · exact so_pop hd rfl (hf _ _ (ag_go hop))
  · cases hop
theorem sp_goto {t : Int} (hf : ∀ c r, f c = some r → Snd Z c r) (hd : decode (Z j).2.2.1 pc = .ok (.goto t, len)) (hj : ej_ Z (Z j).2 pc (.goto t) len x y u w iv lc sw = true) (hop : am_do f (am_op (ag_T Z) d j pc lv st h (.goto t) (pc + len) x y u iv lc sw) = some r) : Snd Z (d, j, pc, lv, st, h) r := by
  simp only [ej_, Bool.and_eq_true, nb_t, decide_eq_true_eq] at hj
  obtain ⟨rfl, h1⟩ := hj
  exact so_goto hd h1 (hf _ _ (ag_go hop))
theorem sp_if_eq {t : Int} (hf : ∀ c r, f c = some r → Snd Z c r) (hd : decode (Z j).2.2.1 pc = .ok (.ifCond .eq t, len)) (hj : ej_ Z (Z j).2 pc (.ifCond .eq t) len x y u w iv lc sw = true) (hop : am_do f (am_op (ag_T Z) d j pc lv st h (.ifCond .eq t) (pc + len) x y u iv lc sw) = some r) : Snd Z (d, j, pc, lv, st, h) r := by
  simp only [ej_, Bool.and_eq_true, nb_t, decide_eq_true_eq] at hj
  obtain ⟨rfl, h1⟩ := hj
  simp only [am_op] at hop
  split at hop
  · have b := ag_br hop
    exact so_if_eq hd h1 (fun q => hf _ _ (b.1 (decide_eq_true q))) (fun q => hf _ _ (b.2 (decide_eq_false q)))
  · cases hop
theorem sp_icmp_eq {t : Int} (hf : ∀ c r, f c = some r → Snd Z c r) (hd : decode (Z j).2.2.1 pc = .ok (.if_icmp .eq t, len)) (hj : ej_ Z (Z j).2 pc (.if_icmp .eq t) len x y u w iv lc sw = true) (hop : am_do f (am_op (ag_T Z) d j pc lv st h (.if_icmp .eq t) (pc + len) x y u iv lc sw) = some r) : Snd Z (d, j, pc, lv, st, h) r := by
  simp only [ej_, Bool.and_eq_true, nb_t, decide_eq_true_eq] at hj
  obtain ⟨rfl, h1⟩ := hj
  simp only [am_op] at hop
  split at hop
  · have b := ag_br hop
    exact so_icmp_eq hd h1 (fun q => hf _ _ (b.1 (decide_eq_true q))) (fun q => hf _ _ (b.2 (decide_eq_false q)))
  · cases hop
theorem sp_if_ne {t : Int} (hf : ∀ c r, f c = some r → Snd Z c r) (hd : decode (Z j).2.2.1 pc = .ok (.ifCond .ne t, len)) (hj : ej_ Z (Z j).2 pc (.ifCond .ne t) len x y u w iv lc sw = true) (hop : am_do f (am_op (ag_T Z) d j pc lv st h (.ifCond .ne t) (pc + len) x y u iv lc sw) = some r) : Snd Z (d, j, pc, lv, st, h) r := by
  simp only [ej_, Bool.and_eq_true, nb_t, decide_eq_true_eq] at hj
  obtain ⟨rfl, h1⟩ := hj
  simp only [am_op] at hop
  split at hop
  · have b := ag_br hop
    exact so_if_ne hd h1 (fun q => hf _ _ (b.2 (decide_eq_false q))) (fun q => hf _ _ (b.1 (decide_eq_true (Decidable.not_not.mp q))))
  · cases hop
theorem sp_icmp_ne {t : Int} (hf : ∀ c r, f c = some r → Snd Z c r) (hd : decode (Z j).2.2.1 pc = .ok (.if_icmp .ne t, len)) (hj : ej_ Z (Z j).2 pc (.if_icmp .ne t) len x y u w iv lc sw = true) (hop : am_do f (am_op (ag_T Z) d j pc lv st h (.if_icmp .ne t) (pc + len) x y u iv lc sw) = some r) : Snd Z (d, j, pc, lv, st, h) r := by
  simp only [ej_, Bool.and_eq_true, nb_t, decide_eq_true_eq] at hj
  obtain ⟨rfl, h1⟩ := hj
  simp only [am_op] at hop
  split at hop
  · have b := ag_br hop
    exact so_icmp_ne hd h1 (fun q => hf _ _ (b.2 (decide_eq_false q))) (fun q => hf _ _ (b.1 (decide_eq_true (Decidable.not_not.mp q))))
  · cases hop
theorem sp_if_lt {t : Int} (hf : ∀ c r, f c = some r → Snd Z c r) (hd : decode (Z j).2.2.1 pc = .ok (.ifCond .lt t, len)) (hj : ej_ Z (Z j).2 pc (.ifCond .lt t) len x y u w iv lc sw = true) (hop : am_do f (am_op (ag_T Z) d j pc lv st h (.ifCond .lt t) (pc + len) x y u iv lc sw) = some r) : Snd Z (d, j, pc, lv, st, h) r := by
  simp only [ej_, Bool.and_eq_true, nb_t, decide_eq_true_eq] at hj
  obtain ⟨rfl, h1⟩ := hj
  simp only [am_op] at hop
  split at hop
  · have b := ag_br hop
    exact so_if_lt hd h1 (fun q => hf _ _ (b.1 (decide_eq_true q))) (fun q => hf _ _ (b.2 (decide_eq_false q)))
  · cases hop
theorem sp_icmp_lt {t : Int} (hf : ∀ c r, f c = some r → Snd Z c r) (hd : decode (Z j).2.2.1 pc = .ok (.if_icmp .lt t, len)) (hj : ej_ Z (Z j).2 pc (.if_icmp .lt t) len x y u w iv lc sw = true) (hop : am_do f (am_op (ag_T Z) d j pc lv st h (.if_icmp .lt t) (pc + len) x y u iv lc sw) = some r) : Snd Z (d, j, pc, lv, st, h) r := by
  simp only [ej_, Bool.and_eq_true, nb_t, decide_eq_true_eq] at hj
  obtain ⟨rfl, h1⟩ := hj
  simp only [am_op] at hop
  split at hop
  · have b := ag_br hop
    exact so_icmp_lt hd h1 (fun q => hf _ _ (b.1 (decide_eq_true q))) (fun q => hf _ _ (b.2 (decide_eq_false q)))
  · cases hop
theorem sp_if_ge {t : Int} (hf : ∀ c r, f c = some r → Snd Z c r) (hd : decode (Z j).2.2.1 pc = .ok (.ifCond .ge t, len)) (hj : ej_ Z (Z j).2 pc (.ifCond .ge t) len x y u w iv lc sw = true) (hop : am_do f (am_op (ag_T Z) d j pc lv st h (.ifCond .ge t) (pc + len) x y u iv lc sw) = some r) : Snd Z (d, j, pc, lv, st, h) r := by
  simp only [ej_, Bool.and_eq_true, nb_t, decide_eq_true_eq] at hj
  obtain ⟨rfl, h1⟩ := hj
  simp only [am_op] at hop
  split at hop
  · have b := ag_br hop
    exact so_if_ge hd h1 (fun q => hf _ _ (b.2 (decide_eq_false (Int32.not_lt.mpr q)))) (fun q => hf _ _ (b.1 (decide_eq_true (Int32.not_le.mp q))))
  · cases hop
theorem sp_icmp_ge {t : Int} (hf : ∀ c r, f c = some r → Snd Z c r) (hd : decode (Z j).2.2.1 pc = .ok (.if_icmp .ge t, len)) (hj : ej_ Z (Z j).2 pc (.if_icmp .ge t) len x y u w iv lc sw = true) (hop : am_do f (am_op (ag_T Z) d j pc lv st h (.if_icmp .ge t) (pc + len) x y u iv lc sw) = some r) : Snd Z (d, j, pc, lv, st, h) r := by
  simp only [ej_, Bool.and_eq_true, nb_t, decide_eq_true_eq] at hj
  obtain ⟨rfl, h1⟩ := hj
  simp only [am_op] at hop
  split at hop
  · have b := ag_br hop
    exact so_icmp_ge hd h1 (fun q => hf _ _ (b.2 (decide_eq_false (Int32.not_lt.mpr q)))) (fun q => hf _ _ (b.1 (decide_eq_true (Int32.not_le.mp q))))
  · cases hop
theorem sp_if_gt {t : Int} (hf : ∀ c r, f c = some r → Snd Z c r) (hd : decode (Z j).2.2.1 pc = .ok (.ifCond .gt t, len)) (hj : ej_ Z (Z j).2 pc (.ifCond .gt t) len x y u w iv lc sw = true) (hop : am_do f (am_op (ag_T Z) d j pc lv st h (.ifCond .gt t) (pc + len) x y u iv lc sw) = some r) : Snd Z (d, j, pc, lv, st, h) r := by
  simp only [ej_, Bool.and_eq_true, nb_t, decide_eq_true_eq] at hj
  obtain ⟨rfl, h1⟩ := hj
  simp only [am_op] at hop
  split at hop
  · have b := ag_br hop
    exact so_if_gt hd h1 (fun q => hf _ _ (b.1 (decide_eq_true q))) (fun q => hf _ _ (b.2 (decide_eq_false q)))
  · cases hop
theorem sp_icmp_gt {t : Int} (hf : ∀ c r, f c = some r → Snd Z c r) (hd : decode (Z j).2.2.1 pc = .ok (.if_icmp .gt t, len)) (hj : ej_ Z (Z j).2 pc (.if_icmp .gt t) len x y u w iv lc sw = true) (hop : am_do f (am_op (ag_T Z) d j pc lv st h (.if_icmp .gt t) (pc + len) x y u iv lc sw) = some r) : Snd Z (d, j, pc, lv, st, h) r := by
  simp only [ej_, Bool.and_eq_true, nb_t, decide_eq_true_eq] at hj
  obtain ⟨rfl, h1⟩ := hj
  simp only [am_op] at hop
  split at hop
  · have b := ag_br hop
    exact so_icmp_gt hd h1 (fun q => hf _ _ (b.1 (decide_eq_true q))) (fun q => hf _ _ (b.2 (decide_eq_false q)))
  · cases hop
theorem sp_if_le {t : Int} (hf : ∀ c r, f c = some r → Snd Z c r) (hd : decode (Z j).2.2.1 pc = .ok (.ifCond .le t, len)) (hj : ej_ Z (Z j).2 pc (.ifCond .le t) len x y u w iv lc sw = true) (hop : am_do f (am_op (ag_T Z) d j pc lv st h (.ifCond .le t) (pc + len) x y u iv lc sw) = some r) : Snd Z (d, j, pc, lv, st, h) r := by
  simp only [ej_, Bool.and_eq_true, nb_t, decide_eq_true_eq] at hj
  obtain ⟨rfl, h1⟩ := hj
  simp only [am_op] at hop
  split at hop
  · have b := ag_br hop
    exact so_if_le hd h1 (fun q => hf _ _ (b.2 (decide_eq_false (Int32.not_lt.mpr q)))) (fun q => hf _ _ (b.1 (decide_eq_true (Int32.not_le.mp q))))
  · cases hop
theorem sp_icmp_le {t : Int} (hf : ∀ c r, f c = some r → Snd Z c r) (hd : decode (Z j).2.2.1 pc = .ok (.if_icmp .le t, len)) (hj : ej_ Z (Z j).2 pc (.if_icmp .le t) len x y u w iv lc sw = true) (hop : am_do f (am_op (ag_T Z) d j pc lv st h (.if_icmp .le t) (pc + len) x y u iv lc sw) = some r) : Snd Z (d, j, pc, lv, st, h) r := by
  simp only [ej_, Bool.and_eq_true, nb_t, decide_eq_true_eq] at hj
  obtain ⟨rfl, h1⟩ := hj
  simp only [am_op] at hop
  split at hop
  · have b := ag_br hop
    exact so_icmp_le hd h1 (fun q => hf _ _ (b.2 (decide_eq_false (Int32.not_lt.mpr q)))) (fun q => hf _ _ (b.1 (decide_eq_true (Int32.not_le.mp q))))
  · cases hop
theorem sp_tab {df lo hi : Int} {offs : Array Int} (hf : ∀ c r, f c = some r → Snd Z c r) (hd : decode (Z j).2.2.1 pc = .ok (.tableswitch df lo hi offs, len)) (hj : ej_ Z (Z j).2 pc (.tableswitch df lo hi offs) len x y u w iv lc sw = true) (hop : am_do f (am_op (ag_T Z) d j pc lv st h (.tableswitch df lo hi offs) (pc + len) x y u iv lc sw) = some r) : Snd Z (d, j, pc, lv, st, h) r := by
  simp only [ej_, Bool.and_eq_true, decide_eq_true_eq] at hj
  obtain ⟨⟨h1, h2⟩, h3, h4⟩ := hj
  simp only [am_op] at hop
  split at hop
  · refine so_tab hf hd h1 h2 (fun i hi => ?_) h3 hop
    have h5 := List.all_eq_true.mp h4 i (List.mem_range.mpr hi)
    split at h5
    · rename_i q o e1 e2
      simp only [Bool.and_eq_true, decide_eq_true_eq] at h5
      exact ⟨q, o, e1, e2, h5.1, h5.2⟩
    · cases h5
  · cases hop
theorem sp_look {df : Int} {ps : Array (Int × Int)} (hf : ∀ c r, f c = some r → Snd Z c r) (hd : decode (Z j).2.2.1 pc = .ok (.lookupswitch df ps, len)) (hj : ej_ Z (Z j).2 pc (.lookupswitch df ps) len x y u w iv lc sw = true) (hop : am_do f (am_op (ag_T Z) d j pc lv st h (.lookupswitch df ps) (pc + len) x y u iv lc sw) = some r) : Snd Z (d, j, pc, lv, st, h) r := by
  simp only [ej_, Bool.and_eq_true, decide_eq_true_eq] at hj
  obtain ⟨⟨h1, h2⟩, h3⟩ := hj
  simp only [am_op] at hop
  split at hop
  · exact so_look hf hd h1 h2 h3 hop
  · cases hop
theorem sp_alen (hf : ∀ c r, f c = some r → Snd Z c r) (hd : decode (Z j).2.2.1 pc = .ok (.arraylength, len)) (hj : ej_ Z (Z j).2 pc (.arraylength) len x y u w iv lc sw = true) (hop : am_do f (am_op (ag_T Z) d j pc lv st h (.arraylength) (pc + len) x y u iv lc sw) = some r) : Snd Z (d, j, pc, lv, st, h) r := by
  simp only [ej_, nb_t] at hj
  subst hj
  simp only [am_op] at hop
  split at hop
  · obtain ⟨b1, b2⟩ := ag_if hop
    simp only [mm_ar, Bool.and_eq_true] at b1
    exact so_alen hd ⟨Nat.ble_eq.mp b1.1, Nat.ble_eq.mp b1.2⟩ (hf _ _ b2)
  · obtain ⟨b1, b2⟩ := ag_if hop
    simp only [Bool.or_eq_true] at b1
    exact so_alenO hd b1 (hf _ _ b2)
  · cases hop
theorem sp_iaload (hf : ∀ c r, f c = some r → Snd Z c r) (hd : decode (Z j).2.2.1 pc = .ok (.iaload, len)) (hj : ej_ Z (Z j).2 pc (.iaload) len x y u w iv lc sw = true) (hop : am_do f (am_op (ag_T Z) d j pc lv st h (.iaload) (pc + len) x y u iv lc sw) = some r) : Snd Z (d, j, pc, lv, st, h) r := by
  simp only [ej_, nb_t] at hj
  subst hj
  simp only [am_op] at hop
  split at hop
  · obtain ⟨b1, b2⟩ := ag_if hop
    simp only [Bool.and_eq_true] at b1
    exact so_iaload hd (of_decide_eq_true b1.1) (ag_in b1.2) (hf _ _ b2)
  · obtain ⟨b1, b2⟩ := ag_if hop
    simp only [Bool.and_eq_true] at b1
    exact so_ialdO hd b1.1 (ag_in b1.2) (hf _ _ b2)
  · cases hop
theorem sp_baload (hf : ∀ c r, f c = some r → Snd Z c r) (hd : decode (Z j).2.2.1 pc = .ok (.baload, len)) (hj : ej_ Z (Z j).2 pc (.baload) len x y u w iv lc sw = true) (hop : am_do f (am_op (ag_T Z) d j pc lv st h (.baload) (pc + len) x y u iv lc sw) = some r) : Snd Z (d, j, pc, lv, st, h) r := by
  simp only [ej_, nb_t] at hj
  subst hj
  simp only [am_op] at hop
  split at hop
  · obtain ⟨b1, b2⟩ := ag_if hop
    simp only [Bool.and_eq_true] at b1
    exact so_baload hd (of_decide_eq_true b1.1) (ag_in b1.2) (hf _ _ b2)
  · obtain ⟨b1, b2⟩ := ag_if hop
    simp only [Bool.and_eq_true] at b1
    exact so_baldO hd b1.1 (ag_in b1.2) (hf _ _ b2)
  · cases hop
theorem sp_laload (hf : ∀ c r, f c = some r → Snd Z c r) (hd : decode (Z j).2.2.1 pc = .ok (.laload, len)) (hj : ej_ Z (Z j).2 pc (.laload) len x y u w iv lc sw = true) (hop : am_do f (am_op (ag_T Z) d j pc lv st h (.laload) (pc + len) x y u iv lc sw) = some r) : Snd Z (d, j, pc, lv, st, h) r := by
  simp only [ej_, nb_t] at hj
  subst hj
  simp only [am_op] at hop
  split at hop
  · obtain ⟨b1, b2⟩ := ag_if hop
    simp only [Bool.and_eq_true] at b1
    exact so_laload hd (of_decide_eq_true b1.1) (ag_in b1.2) (hf _ _ b2)
  · cases hop
theorem sp_iastore (hf : ∀ c r, f c = some r → Snd Z c r) (hd : decode (Z j).2.2.1 pc = .ok (.iastore, len)) (hj : ej_ Z (Z j).2 pc (.iastore) len x y u w iv lc sw = true) (hop : am_do f (am_op (ag_T Z) d j pc lv st h (.iastore) (pc + len) x y u iv lc sw) = some r) : Snd Z (d, j, pc, lv, st, h) r := by
  simp only [ej_, nb_t] at hj
  subst hj
  simp only [am_op] at hop
  split at hop
  · obtain ⟨b1, b2⟩ := ag_if hop
    simp only [Bool.and_eq_true] at b1
    exact so_iastore hd (of_decide_eq_true b1.1) (ag_in b1.2) (hf _ _ b2)
  · cases hop
theorem sp_bastore (hf : ∀ c r, f c = some r → Snd Z c r) (hd : decode (Z j).2.2.1 pc = .ok (.bastore, len)) (hj : ej_ Z (Z j).2 pc (.bastore) len x y u w iv lc sw = true) (hop : am_do f (am_op (ag_T Z) d j pc lv st h (.bastore) (pc + len) x y u iv lc sw) = some r) : Snd Z (d, j, pc, lv, st, h) r := by
  simp only [ej_, nb_t] at hj
  subst hj
  simp only [am_op] at hop
  split at hop
  · obtain ⟨b1, b2⟩ := ag_if hop
    simp only [Bool.and_eq_true] at b1
    exact so_bastore hd (of_decide_eq_true b1.1) (ag_in b1.2) (hf _ _ b2)
  · cases hop
theorem sp_lastore (hf : ∀ c r, f c = some r → Snd Z c r) (hd : decode (Z j).2.2.1 pc = .ok (.lastore, len)) (hj : ej_ Z (Z j).2 pc (.lastore) len x y u w iv lc sw = true) (hop : am_do f (am_op (ag_T Z) d j pc lv st h (.lastore) (pc + len) x y u iv lc sw) = some r) : Snd Z (d, j, pc, lv, st, h) r := by
  simp only [ej_, nb_t] at hj
  subst hj
  simp only [am_op] at hop
  split at hop
  · obtain ⟨b1, b2⟩ := ag_if hop
    simp only [Bool.and_eq_true] at b1
    exact so_lastore hd (of_decide_eq_true b1.1) (ag_in b1.2) (hf _ _ b2)
  · cases hop
theorem sp_aaload (hf : ∀ c r, f c = some r → Snd Z c r) (hd : decode (Z j).2.2.1 pc = .ok (.aaload, len)) (hj : ej_ Z (Z j).2 pc (.aaload) len x y u w iv lc sw = true) (hop : am_do f (am_op (ag_T Z) d j pc lv st h (.aaload) (pc + len) x y u iv lc sw) = some r) : Snd Z (d, j, pc, lv, st, h) r := by
  simp only [ej_, nb_t] at hj
  subst hj
  simp only [am_op] at hop
  split at hop
  · obtain ⟨b1, b2⟩ := ag_if hop
    simp only [mm_rr, Bool.and_eq_true] at b1
    have q1 := Nat.ble_eq.mp b1.1.1
    have q2 := Nat.ble_eq.mp b1.1.2
    exact so_aaload hd (by omega) (ag_in b1.2) (hf _ _ b2)
  · cases hop
theorem sp_aastore (hf : ∀ c r, f c = some r → Snd Z c r) (hd : decode (Z j).2.2.1 pc = .ok (.aastore, len)) (hj : ej_ Z (Z j).2 pc (.aastore) len x y u w iv lc sw = true) (hop : am_do f (am_op (ag_T Z) d j pc lv st h (.aastore) (pc + len) x y u iv lc sw) = some r) : Snd Z (d, j, pc, lv, st, h) r := by
  simp only [ej_, Bool.and_eq_true, nb_t, decide_eq_true_eq] at hj
  obtain ⟨rfl, rfl⟩ := hj
  simp only [am_op] at hop
  split at hop
  · obtain ⟨b1, b2⟩ := ag_if hop
    simp only [Bool.and_eq_true] at b1
    have e := of_decide_eq_true b1.2
    exact so_aastore (ci := 8) hd (of_decide_eq_true b1.1.1) (ag_in b1.1.2) rfl rfl (by rw [e]) (hf _ _ b2)
  · cases hop
end ASM
