/-! ===== rules, an instruction each ===== -/
section RUL
variable {Z : Nat → am_T × ms_T} {d j pc : Nat} {lv : lo_L} {r0 : List Value} {h : mm_M} {r : am_R}
theorem so_iconst {n : Int} {v : Int32} (hd : decode (Z j).2.2.1 pc = .ok (.iconst n, 1)) (hv : Int32.ofInt n = v) (hS : Snd Z (d, j, pc + 1, lv, .int v :: r0, h) r) : Snd Z (d, j, pc, lv, r0, h) r := sn_op hS (fun F _ k => lv_iconst F.1 F.2.1 hd hv k)
theorem so_bipush {n : Int} {v : Int32} (hd : decode (Z j).2.2.1 pc = .ok (.bipush n, 2)) (hv : (Int8.ofInt n).toInt32 = v) (hS : Snd Z (d, j, pc + 2, lv, .int v :: r0, h) r) : Snd Z (d, j, pc, lv, r0, h) r := sn_op hS (fun F _ k => lv_bipush F.1 F.2.1 hd hv k)
theorem so_sipush {n : Int} {v : Int32} (hd : decode (Z j).2.2.1 pc = .ok (.sipush n, 3)) (hv : (Int16.ofInt n).toInt32 = v) (hS : Snd Z (d, j, pc + 3, lv, .int v :: r0, h) r) : Snd Z (d, j, pc, lv, r0, h) r := sn_op hS (fun F _ k => lv_sipush F.1 F.2.1 hd hv k)
theorem so_lconst {n : Fin 2} {v : Int64} (hd : decode (Z j).2.2.1 pc = .ok (.lconst n, 1)) (hv : Int64.ofNat (n : Nat) = v) (hS : Snd Z (d, j, pc + 1, lv, .long v :: r0, h) r) : Snd Z (d, j, pc, lv, r0, h) r := sn_op hS (fun F _ k => lv_lconst F.1 F.2.1 hd hv k)
theorem so_ldc {i : Nat} {v : Int32} (hd : decode (Z j).2.2.1 pc = .ok (.ldc i, 2)) (hw : Cond.constant (Z j).2.1.cls i v ∈ lu_) (hS : Snd Z (d, j, pc + 2, lv, .int v :: r0, h) r) : Snd Z (d, j, pc, lv, r0, h) r := sn_op hS (fun F _ k => lv_ldc F.1 F.2.1 F.2.2.2.1 (F.2.2.2.2.2.2.2.2.2.2.2.1 _ hw) hd k)
theorem so_ldcw {i : Nat} {v : Int32} (hd : decode (Z j).2.2.1 pc = .ok (.ldc_w i, 3)) (hw : Cond.constant (Z j).2.1.cls i v ∈ lu_) (hS : Snd Z (d, j, pc + 3, lv, .int v :: r0, h) r) : Snd Z (d, j, pc, lv, r0, h) r := sn_op hS (fun F _ k => lv_ldcw F.1 F.2.1 F.2.2.2.1 (F.2.2.2.2.2.2.2.2.2.2.2.1 _ hw) hd k)
theorem so_ldc2 {i : Nat} {v : Int64} (hd : decode (Z j).2.2.1 pc = .ok (.ldc2_w i, 3)) (hw : Cond.constantLong (Z j).2.1.cls i v ∈ lu_) (hS : Snd Z (d, j, pc + 3, lv, .long v :: r0, h) r) : Snd Z (d, j, pc, lv, r0, h) r := sn_op hS (fun F _ k => lv_ldc2 F.1 F.2.1 F.2.2.2.1 (F.2.2.2.2.2.2.2.2.2.2.2.1 _ hw) hd k)
theorem so_iadd {a b : Int32} (hd : decode (Z j).2.2.1 pc = .ok (.iadd, 1)) (hS : Snd Z (d, j, pc + 1, lv, .int (a + b) :: r0, h) r) : Snd Z (d, j, pc, lv, .int b :: .int a :: r0, h) r := sn_op hS (fun F _ k => lv_iadd F.1 F.2.1 hd k)
theorem so_isub {a b : Int32} (hd : decode (Z j).2.2.1 pc = .ok (.isub, 1)) (hS : Snd Z (d, j, pc + 1, lv, .int (a - b) :: r0, h) r) : Snd Z (d, j, pc, lv, .int b :: .int a :: r0, h) r := sn_op hS (fun F _ k => lv_isub F.1 F.2.1 hd k)
theorem so_imul {a b : Int32} (hd : decode (Z j).2.2.1 pc = .ok (.imul, 1)) (hS : Snd Z (d, j, pc + 1, lv, .int (a * b) :: r0, h) r) : Snd Z (d, j, pc, lv, .int b :: .int a :: r0, h) r := sn_op hS (fun F _ k => lv_imul F.1 F.2.1 hd k)
theorem so_iand {a b : Int32} (hd : decode (Z j).2.2.1 pc = .ok (.iand, 1)) (hS : Snd Z (d, j, pc + 1, lv, .int (a &&& b) :: r0, h) r) : Snd Z (d, j, pc, lv, .int b :: .int a :: r0, h) r := sn_op hS (fun F _ k => lv_iand F.1 F.2.1 hd k)
theorem so_ior {a b : Int32} (hd : decode (Z j).2.2.1 pc = .ok (.ior, 1)) (hS : Snd Z (d, j, pc + 1, lv, .int (a ||| b) :: r0, h) r) : Snd Z (d, j, pc, lv, .int b :: .int a :: r0, h) r := sn_op hS (fun F _ k => lv_ior F.1 F.2.1 hd k)
theorem so_ishl {a b : Int32} (hd : decode (Z j).2.2.1 pc = .ok (.ishl, 1)) (hS : Snd Z (d, j, pc + 1, lv, .int (a <<< (b &&& 31)) :: r0, h) r) : Snd Z (d, j, pc, lv, .int b :: .int a :: r0, h) r := sn_op hS (fun F _ k => lv_ishl F.1 F.2.1 hd k)
theorem so_ishr {a b : Int32} (hd : decode (Z j).2.2.1 pc = .ok (.ishr, 1)) (hS : Snd Z (d, j, pc + 1, lv, .int (a >>> (b &&& 31)) :: r0, h) r) : Snd Z (d, j, pc, lv, .int b :: .int a :: r0, h) r := sn_op hS (fun F _ k => lv_ishr F.1 F.2.1 hd k)
theorem so_idiv {a b : Int32} (hd : decode (Z j).2.2.1 pc = .ok (.idiv, 1)) (hn : ¬ b = 0) (hS : Snd Z (d, j, pc + 1, lv, .int (a / b) :: r0, h) r) : Snd Z (d, j, pc, lv, .int b :: .int a :: r0, h) r := sn_op hS (fun F _ k => lv_idiv F.1 F.2.1 hd hn k)
theorem so_irem {a b : Int32} (hd : decode (Z j).2.2.1 pc = .ok (.irem, 1)) (hn : ¬ b = 0) (hS : Snd Z (d, j, pc + 1, lv, .int (mm_rem a b) :: r0, h) r) : Snd Z (d, j, pc, lv, .int b :: .int a :: r0, h) r := sn_op hS (fun F _ k => lv_irem F.1 F.2.1 hd hn k)
theorem so_ineg {a : Int32} (hd : decode (Z j).2.2.1 pc = .ok (.ineg, 1)) (hS : Snd Z (d, j, pc + 1, lv, .int (-a) :: r0, h) r) : Snd Z (d, j, pc, lv, .int a :: r0, h) r := sn_op hS (fun F _ k => lv_ineg F.1 F.2.1 hd k)
theorem so_i2l {a : Int32} (hd : decode (Z j).2.2.1 pc = .ok (.i2l, 1)) (hS : Snd Z (d, j, pc + 1, lv, .long a.toInt64 :: r0, h) r) : Snd Z (d, j, pc, lv, .int a :: r0, h) r := sn_op hS (fun F _ k => lv_i2l F.1 F.2.1 hd rfl k)
theorem so_l2i {a : Int64} (hd : decode (Z j).2.2.1 pc = .ok (.l2i, 1)) (hS : Snd Z (d, j, pc + 1, lv, .int a.toInt32 :: r0, h) r) : Snd Z (d, j, pc, lv, .long a :: r0, h) r := sn_op hS (fun F _ k => lv_l2i F.1 F.2.1 hd rfl k)
theorem so_i2b {a : Int32} (hd : decode (Z j).2.2.1 pc = .ok (.i2b, 1)) (hS : Snd Z (d, j, pc + 1, lv, .int (mm_byt a) :: r0, h) r) : Snd Z (d, j, pc, lv, .int a :: r0, h) r := sn_op hS (fun F _ k => lv_i2b F.1 F.2.1 hd rfl k)
theorem so_i2c {a : Int32} (hd : decode (Z j).2.2.1 pc = .ok (.i2c, 1)) (hS : Snd Z (d, j, pc + 1, lv, .int (mm_chr a) :: r0, h) r) : Snd Z (d, j, pc, lv, .int a :: r0, h) r := sn_op hS (fun F _ k => lv_i2c F.1 F.2.1 hd rfl k)
theorem so_ladd {a b : Int64} (hd : decode (Z j).2.2.1 pc = .ok (.ladd, 1)) (hS : Snd Z (d, j, pc + 1, lv, .long (a + b) :: r0, h) r) : Snd Z (d, j, pc, lv, .long b :: .long a :: r0, h) r := sn_op hS (fun F _ k => lv_ladd F.1 F.2.1 hd k)
theorem so_lsub {a b : Int64} (hd : decode (Z j).2.2.1 pc = .ok (.lsub, 1)) (hS : Snd Z (d, j, pc + 1, lv, .long (a - b) :: r0, h) r) : Snd Z (d, j, pc, lv, .long b :: .long a :: r0, h) r := sn_op hS (fun F _ k => lv_lsub F.1 F.2.1 hd k)
theorem so_lmul {a b : Int64} (hd : decode (Z j).2.2.1 pc = .ok (.lmul, 1)) (hS : Snd Z (d, j, pc + 1, lv, .long (a * b) :: r0, h) r) : Snd Z (d, j, pc, lv, .long b :: .long a :: r0, h) r := sn_op hS (fun F _ k => lv_lmul F.1 F.2.1 hd k)
theorem so_ldiv {a b : Int64} (hd : decode (Z j).2.2.1 pc = .ok (.ldiv, 1)) (hn : ¬ b = 0) (hS : Snd Z (d, j, pc + 1, lv, .long (a / b) :: r0, h) r) : Snd Z (d, j, pc, lv, .long b :: .long a :: r0, h) r := sn_op hS (fun F _ k => lv_ldiv F.1 F.2.1 hd hn k)
theorem so_lcmp {a b : Int64} (hd : decode (Z j).2.2.1 pc = .ok (.lcmp, 1)) (hS : Snd Z (d, j, pc + 1, lv, .int (lg_cmp a b) :: r0, h) r) : Snd Z (d, j, pc, lv, .long b :: .long a :: r0, h) r := sn_op hS (fun F _ k => W.lcmp F.1 F.2.1 hd k)
theorem so_dup {v : Value} (hd : decode (Z j).2.2.1 pc = .ok (.dup, 1)) (hv : v.category = 1) (hS : Snd Z (d, j, pc + 1, lv, v :: v :: r0, h) r) : Snd Z (d, j, pc, lv, v :: r0, h) r := sn_op hS (fun F _ k => lv_dup F.1 F.2.1 hd (by rw [cv_cat]; exact hv) k)
theorem so_pop {v : Value} (hd : decode (Z j).2.2.1 pc = .ok (.pop, 1)) (hv : v.category = 1) (hS : Snd Z (d, j, pc + 1, lv, r0, h) r) : Snd Z (d, j, pc, lv, v :: r0, h) r := sn_op hS (fun F _ k => lv_pop F.1 F.2.1 hd (by rw [cv_cat]; exact hv) k)
theorem so_dup2 {v w : Value} (hd : decode (Z j).2.2.1 pc = .ok (.dup2, 1)) (hv : v.category = 1) (hw : w.category = 1) (hS : Snd Z (d, j, pc + 1, lv, v :: w :: v :: w :: r0, h) r) : Snd Z (d, j, pc, lv, v :: w :: r0, h) r := sn_op hS (fun F _ k => lv_dup2_11 F.1 F.2.1 hd (by rw [cv_cat]; exact hv) (by rw [cv_cat]; exact hw) k)
theorem so_iload_n {k : Fin 4} {x : Nat} {v : Int32} (hd : decode (Z j).2.2.1 pc = .ok (.iload_n k, 1)) (hx : (k : Nat) = x) (hg : lo_get lv x = some (.int v)) (hS : Snd Z (d, j, pc + 1, lv, .int v :: r0, h) r) : Snd Z (d, j, pc, lv, r0, h) r := sn_op hS (fun F V k => lv_iload_n F.1 F.2.1 hd hx (lo_get_at hg V.2.2.1) k)
theorem so_iload {x : Nat} {v : Int32} (hd : decode (Z j).2.2.1 pc = .ok (.iload x, 2)) (hg : lo_get lv x = some (.int v)) (hS : Snd Z (d, j, pc + 2, lv, .int v :: r0, h) r) : Snd Z (d, j, pc, lv, r0, h) r := sn_op hS (fun F V k => lv_iload F.1 F.2.1 hd (lo_get_at hg V.2.2.1) k)
theorem so_lload_n {k : Fin 4} {x : Nat} {v : Int64} (hd : decode (Z j).2.2.1 pc = .ok (.lload_n k, 1)) (hx : (k : Nat) = x) (hg : lo_get lv x = some (.long v)) (hS : Snd Z (d, j, pc + 1, lv, .long v :: r0, h) r) : Snd Z (d, j, pc, lv, r0, h) r := sn_op hS (fun F V k => lv_lload_n F.1 F.2.1 hd hx (lo_get_at hg V.2.2.1) k)
theorem so_lload {x : Nat} {v : Int64} (hd : decode (Z j).2.2.1 pc = .ok (.lload x, 2)) (hg : lo_get lv x = some (.long v)) (hS : Snd Z (d, j, pc + 2, lv, .long v :: r0, h) r) : Snd Z (d, j, pc, lv, r0, h) r := sn_op hS (fun F V k => lv_lload F.1 F.2.1 hd (lo_get_at hg V.2.2.1) k)
theorem cv_r (g : cw_G) {v : Value} (hv : (∃ a, v = .ref a) ∨ ∃ q, v = .float q) : cv_ g v = .null ∨ ∃ t, cv_ g v = .ref t := by
  rcases hv with ⟨a, rfl⟩ | ⟨q, rfl⟩
  · cases a with
    | zero => exact Or.inl rfl
    | succ n => exact Or.inr ⟨_, rfl⟩
  · show va_rf (g.2.1 q) = .null ∨ ∃ t, va_rf (g.2.1 q) = .ref t
    cases g.2.1 q with
    | none => exact Or.inl rfl
    | some t => exact Or.inr ⟨t, rfl⟩
theorem so_aload_n {k : Fin 4} {x : Nat} {v : Value} (hv : (∃ a, v = .ref a) ∨ ∃ q, v = .float q) (hd : decode (Z j).2.2.1 pc = .ok (.aload_n k, 1)) (hx : (k : Nat) = x) (hg : lo_get lv x = some v) (hS : Snd Z (d, j, pc + 1, lv, v :: r0, h) r) : Snd Z (d, j, pc, lv, r0, h) r := by
  refine sn_op hS (fun {g p l e R s m args below meth cd H locs cells slots ls Q} F V k => ?_)
  have hl := lo_get_at hg V.2.2.1
  simp only [List.map_cons] at k
  rcases cv_r g hv with e | ⟨t, e⟩
  · rw [e] at hl k
    exact lv_aload_nN F.1 F.2.1 hd hx hl k
  · rw [e] at hl k
    exact lv_aload_n F.1 F.2.1 hd hx hl k
theorem so_aload {x : Nat} {v : Value} (hv : (∃ a, v = .ref a) ∨ ∃ q, v = .float q) (hd : decode (Z j).2.2.1 pc = .ok (.aload x, 2)) (hg : lo_get lv x = some v) (hS : Snd Z (d, j, pc + 2, lv, v :: r0, h) r) : Snd Z (d, j, pc, lv, r0, h) r := by
  refine sn_op hS (fun {g p l e R s m args below meth cd H locs cells slots ls Q} F V k => ?_)
  have hl := lo_get_at hg V.2.2.1
  simp only [List.map_cons] at k
  rcases cv_r g hv with e | ⟨t, e⟩
  · rw [e] at hl k
    exact lv_aloadN F.1 F.2.1 hd hl k
  · rw [e] at hl k
    exact lv_aload F.1 F.2.1 hd hl k
theorem so_istore_n {k : Fin 4} {x : Nat} {v : Int32} (hd : decode (Z j).2.2.1 pc = .ok (.istore_n k, 1)) (hx : (k : Nat) = x) (hn : x < (Z j).2.2.2.1) (hS : Snd Z (d, j, pc + 1, lo_set lv x (.int v), r0, h) r) : Snd Z (d, j, pc, lv, .int v :: r0, h) r := sn_lo hS (fun F V k => lv_istore_n F.1 F.2.1 hd hx V.2.2.1 hn rfl (fun ls' hl => k ls' (lo_set1 rfl hl)))
theorem so_istore {x : Nat} {v : Int32} (hd : decode (Z j).2.2.1 pc = .ok (.istore x, 2)) (hn : x < (Z j).2.2.2.1) (hS : Snd Z (d, j, pc + 2, lo_set lv x (.int v), r0, h) r) : Snd Z (d, j, pc, lv, .int v :: r0, h) r := sn_lo hS (fun F V k => lv_istore F.1 F.2.1 hd V.2.2.1 hn rfl (fun ls' hl => k ls' (lo_set1 rfl hl)))
theorem so_lstore_n {k : Fin 4} {x : Nat} {v : Int64} (hd : decode (Z j).2.2.1 pc = .ok (.lstore_n k, 1)) (hx : (k : Nat) = x) (hn : x + 1 < (Z j).2.2.2.1) (hS : Snd Z (d, j, pc + 1, lo_set lv x (.long v), r0, h) r) : Snd Z (d, j, pc, lv, .long v :: r0, h) r := sn_lo hS (fun F V k => lv_lstore_n F.1 F.2.1 hd hx V.2.2.1 hn rfl (fun ls' hl => k ls' (lo_set2 rfl hl)))
theorem so_lstore {x : Nat} {v : Int64} (hd : decode (Z j).2.2.1 pc = .ok (.lstore x, 2)) (hn : x + 1 < (Z j).2.2.2.1) (hS : Snd Z (d, j, pc + 2, lo_set lv x (.long v), r0, h) r) : Snd Z (d, j, pc, lv, .long v :: r0, h) r := sn_lo hS (fun F V k => lv_lstore F.1 F.2.1 hd V.2.2.1 hn rfl (fun ls' hl => k ls' (lo_set2 rfl hl)))
theorem so_astore_n {k : Fin 4} {x : Nat} {v : Value} (hv : (∃ a, v = .ref a) ∨ ∃ q, v = .float q) (hd : decode (Z j).2.2.1 pc = .ok (.astore_n k, 1)) (hx : (k : Nat) = x) (hn : x < (Z j).2.2.2.1) (hS : Snd Z (d, j, pc + 1, lo_set lv x v, r0, h) r) : Snd Z (d, j, pc, lv, v :: r0, h) r := by
  refine sn_lo hS (fun {g p l e R s m args below meth cd H locs cells slots ls Q} F V k => ?_)
  have hc : v.category = 1 := by rcases hv with ⟨a, rfl⟩ | ⟨q, rfl⟩ <;> rfl
  have k2 := fun ls' hl => k ls' (lo_set1 hc hl)
  simp only [List.map_cons]
  rcases cv_r g hv with e | ⟨t, e⟩
  · rw [e] at k2 ⊢
    exact lv_astore_nN F.1 F.2.1 hd hx V.2.2.1 hn rfl k2
  · rw [e] at k2 ⊢
    exact lv_astore_n F.1 F.2.1 hd hx V.2.2.1 hn rfl k2
theorem so_astore {x : Nat} {v : Value} (hv : (∃ a, v = .ref a) ∨ ∃ q, v = .float q) (hd : decode (Z j).2.2.1 pc = .ok (.astore x, 2)) (hn : x < (Z j).2.2.2.1) (hS : Snd Z (d, j, pc + 2, lo_set lv x v, r0, h) r) : Snd Z (d, j, pc, lv, v :: r0, h) r := by
  refine sn_lo hS (fun {g p l e R s m args below meth cd H locs cells slots ls Q} F V k => ?_)
  have hc : v.category = 1 := by rcases hv with ⟨a, rfl⟩ | ⟨q, rfl⟩ <;> rfl
  have k2 := fun ls' hl => k ls' (lo_set1 hc hl)
  simp only [List.map_cons]
  rcases cv_r g hv with e | ⟨t, e⟩
  · rw [e] at k2 ⊢
    exact lv_astoreN F.1 F.2.1 hd V.2.2.1 hn rfl k2
  · rw [e] at k2 ⊢
    exact lv_astore F.1 F.2.1 hd V.2.2.1 hn rfl k2
theorem so_iinc {x : Nat} {n : Int} {v iv : Int32} (hd : decode (Z j).2.2.1 pc = .ok (.iinc x n, 3)) (hi : Int32.ofInt n = iv) (hn : x < (Z j).2.2.2.1) (hg : lo_get lv x = some (.int v)) (hS : Snd Z (d, j, pc + 3, lo_set lv x (.int (v + iv)), r0, h) r) : Snd Z (d, j, pc, lv, r0, h) r := by
  subst hi
  refine sn_lo hS (fun {g p l e R s m args below meth cd H locs cells slots ls Q} F V k => ?_)
  obtain ⟨q, hq⟩ := List.getElem?_of_mem (List.mem_map.mpr ⟨(x, .int v), lo_get_in hg, rfl⟩ : (x, cv_ g (.int v)) ∈ lo_v g lv)
  exact lv_iinc F.1 F.2.1 hd V.2.2.1 hq rfl hn rfl (fun ls' hl => k ls' (lo_set1 rfl hl))
theorem so_goto {o : Int} {t : Nat} (hd : decode (Z j).2.2.1 pc = .ok (.goto o, 3)) (ht : (pc : Int) + o = (t : Int)) (hS : Snd Z (d, j, t, lv, r0, h) r) : Snd Z (d, j, pc, lv, r0, h) r := sn_op hS (fun F _ k => lv_goto F.1 F.2.1 hd ht k)
theorem so_if_eq {a : Int32} {o : Int} {t : Nat} (hd : decode (Z j).2.2.1 pc = .ok (.ifCond .eq o, 3)) (ht : (pc : Int) + o = (t : Int)) (hT : a = 0 → Snd Z (d, j, t, lv, r0, h) r) (hF : ¬ (a = 0) → Snd Z (d, j, pc + 3, lv, r0, h) r) : Snd Z (d, j, pc, lv, .int a :: r0, h) r := by
  by_cases q : a = 0
  · exact sn_op (hT q) (fun F _ k => lv_if_eq F.1 F.2.1 hd ht (fun _ => k) (fun n => absurd q n))
  · exact sn_op (hF q) (fun F _ k => lv_if_eq F.1 F.2.1 hd ht (fun n => absurd n q) (fun _ => k))
theorem so_if_ne {a : Int32} {o : Int} {t : Nat} (hd : decode (Z j).2.2.1 pc = .ok (.ifCond .ne o, 3)) (ht : (pc : Int) + o = (t : Int)) (hT : ¬ a = 0 → Snd Z (d, j, t, lv, r0, h) r) (hF : ¬ (¬ a = 0) → Snd Z (d, j, pc + 3, lv, r0, h) r) : Snd Z (d, j, pc, lv, .int a :: r0, h) r := by
  by_cases q : ¬ a = 0
  · exact sn_op (hT q) (fun F _ k => lv_if_ne F.1 F.2.1 hd ht (fun _ => k) (fun n => absurd n q))
  · exact sn_op (hF q) (fun F _ k => lv_if_ne F.1 F.2.1 hd ht (fun n => absurd n q) (fun _ => k))
theorem so_if_lt {a : Int32} {o : Int} {t : Nat} (hd : decode (Z j).2.2.1 pc = .ok (.ifCond .lt o, 3)) (ht : (pc : Int) + o = (t : Int)) (hT : a < 0 → Snd Z (d, j, t, lv, r0, h) r) (hF : ¬ (a < 0) → Snd Z (d, j, pc + 3, lv, r0, h) r) : Snd Z (d, j, pc, lv, .int a :: r0, h) r := by
  by_cases q : a < 0
  · exact sn_op (hT q) (fun F _ k => lv_if_lt F.1 F.2.1 hd ht (fun _ => k) (fun n => absurd q n))
  · exact sn_op (hF q) (fun F _ k => lv_if_lt F.1 F.2.1 hd ht (fun n => absurd n q) (fun _ => k))
theorem so_if_ge {a : Int32} {o : Int} {t : Nat} (hd : decode (Z j).2.2.1 pc = .ok (.ifCond .ge o, 3)) (ht : (pc : Int) + o = (t : Int)) (hT : 0 ≤ a → Snd Z (d, j, t, lv, r0, h) r) (hF : ¬ (0 ≤ a) → Snd Z (d, j, pc + 3, lv, r0, h) r) : Snd Z (d, j, pc, lv, .int a :: r0, h) r := by
  by_cases q : 0 ≤ a
  · exact sn_op (hT q) (fun F _ k => lv_if_ge F.1 F.2.1 hd ht (fun _ => k) (fun n => absurd q n))
  · exact sn_op (hF q) (fun F _ k => lv_if_ge F.1 F.2.1 hd ht (fun n => absurd n q) (fun _ => k))
theorem so_if_gt {a : Int32} {o : Int} {t : Nat} (hd : decode (Z j).2.2.1 pc = .ok (.ifCond .gt o, 3)) (ht : (pc : Int) + o = (t : Int)) (hT : 0 < a → Snd Z (d, j, t, lv, r0, h) r) (hF : ¬ (0 < a) → Snd Z (d, j, pc + 3, lv, r0, h) r) : Snd Z (d, j, pc, lv, .int a :: r0, h) r := by
  by_cases q : 0 < a
  · exact sn_op (hT q) (fun F _ k => lv_if_gt F.1 F.2.1 hd ht (fun _ => k) (fun n => absurd q n))
  · exact sn_op (hF q) (fun F _ k => lv_if_gt F.1 F.2.1 hd ht (fun n => absurd n q) (fun _ => k))
theorem so_if_le {a : Int32} {o : Int} {t : Nat} (hd : decode (Z j).2.2.1 pc = .ok (.ifCond .le o, 3)) (ht : (pc : Int) + o = (t : Int)) (hT : a ≤ 0 → Snd Z (d, j, t, lv, r0, h) r) (hF : ¬ (a ≤ 0) → Snd Z (d, j, pc + 3, lv, r0, h) r) : Snd Z (d, j, pc, lv, .int a :: r0, h) r := by
  by_cases q : a ≤ 0
  · exact sn_op (hT q) (fun F _ k => lv_if_le F.1 F.2.1 hd ht (fun _ => k) (fun n => absurd q n))
  · exact sn_op (hF q) (fun F _ k => lv_if_le F.1 F.2.1 hd ht (fun n => absurd n q) (fun _ => k))
theorem so_icmp_eq {a b : Int32} {o : Int} {t : Nat} (hd : decode (Z j).2.2.1 pc = .ok (.if_icmp .eq o, 3)) (ht : (pc : Int) + o = (t : Int)) (hT : a = b → Snd Z (d, j, t, lv, r0, h) r) (hF : ¬ (a = b) → Snd Z (d, j, pc + 3, lv, r0, h) r) : Snd Z (d, j, pc, lv, .int b :: .int a :: r0, h) r := by
  by_cases q : a = b
  · exact sn_op (hT q) (fun F _ k => lv_icmp_eq F.1 F.2.1 hd ht (fun _ => k) (fun n => absurd q n))
  · exact sn_op (hF q) (fun F _ k => lv_icmp_eq F.1 F.2.1 hd ht (fun n => absurd n q) (fun _ => k))
theorem so_icmp_ne {a b : Int32} {o : Int} {t : Nat} (hd : decode (Z j).2.2.1 pc = .ok (.if_icmp .ne o, 3)) (ht : (pc : Int) + o = (t : Int)) (hT : ¬ a = b → Snd Z (d, j, t, lv, r0, h) r) (hF : ¬ (¬ a = b) → Snd Z (d, j, pc + 3, lv, r0, h) r) : Snd Z (d, j, pc, lv, .int b :: .int a :: r0, h) r := by
  by_cases q : ¬ a = b
  · exact sn_op (hT q) (fun F _ k => lv_icmp_ne F.1 F.2.1 hd ht (fun _ => k) (fun n => absurd n q))
  · exact sn_op (hF q) (fun F _ k => lv_icmp_ne F.1 F.2.1 hd ht (fun n => absurd n q) (fun _ => k))
theorem so_icmp_lt {a b : Int32} {o : Int} {t : Nat} (hd : decode (Z j).2.2.1 pc = .ok (.if_icmp .lt o, 3)) (ht : (pc : Int) + o = (t : Int)) (hT : a < b → Snd Z (d, j, t, lv, r0, h) r) (hF : ¬ (a < b) → Snd Z (d, j, pc + 3, lv, r0, h) r) : Snd Z (d, j, pc, lv, .int b :: .int a :: r0, h) r := by
  by_cases q : a < b
  · exact sn_op (hT q) (fun F _ k => lv_icmp_lt F.1 F.2.1 hd ht (fun _ => k) (fun n => absurd q n))
  · exact sn_op (hF q) (fun F _ k => lv_icmp_lt F.1 F.2.1 hd ht (fun n => absurd n q) (fun _ => k))
theorem so_icmp_ge {a b : Int32} {o : Int} {t : Nat} (hd : decode (Z j).2.2.1 pc = .ok (.if_icmp .ge o, 3)) (ht : (pc : Int) + o = (t : Int)) (hT : b ≤ a → Snd Z (d, j, t, lv, r0, h) r) (hF : ¬ (b ≤ a) → Snd Z (d, j, pc + 3, lv, r0, h) r) : Snd Z (d, j, pc, lv, .int b :: .int a :: r0, h) r := by
  by_cases q : b ≤ a
  · exact sn_op (hT q) (fun F _ k => lv_icmp_ge F.1 F.2.1 hd ht (fun _ => k) (fun n => absurd q n))
  · exact sn_op (hF q) (fun F _ k => lv_icmp_ge F.1 F.2.1 hd ht (fun n => absurd n q) (fun _ => k))
theorem so_icmp_gt {a b : Int32} {o : Int} {t : Nat} (hd : decode (Z j).2.2.1 pc = .ok (.if_icmp .gt o, 3)) (ht : (pc : Int) + o = (t : Int)) (hT : b < a → Snd Z (d, j, t, lv, r0, h) r) (hF : ¬ (b < a) → Snd Z (d, j, pc + 3, lv, r0, h) r) : Snd Z (d, j, pc, lv, .int b :: .int a :: r0, h) r := by
  by_cases q : b < a
  · exact sn_op (hT q) (fun F _ k => lv_icmp_gt F.1 F.2.1 hd ht (fun _ => k) (fun n => absurd q n))
  · exact sn_op (hF q) (fun F _ k => lv_icmp_gt F.1 F.2.1 hd ht (fun n => absurd n q) (fun _ => k))
theorem so_icmp_le {a b : Int32} {o : Int} {t : Nat} (hd : decode (Z j).2.2.1 pc = .ok (.if_icmp .le o, 3)) (ht : (pc : Int) + o = (t : Int)) (hT : a ≤ b → Snd Z (d, j, t, lv, r0, h) r) (hF : ¬ (a ≤ b) → Snd Z (d, j, pc + 3, lv, r0, h) r) : Snd Z (d, j, pc, lv, .int b :: .int a :: r0, h) r := by
  by_cases q : a ≤ b
  · exact sn_op (hT q) (fun F _ k => lv_icmp_le F.1 F.2.1 hd ht (fun _ => k) (fun n => absurd q n))
  · exact sn_op (hF q) (fun F _ k => lv_icmp_le F.1 F.2.1 hd ht (fun n => absurd n q) (fun _ => k))
end RUL
