/-! ===== making arrays, what the library does, returns, choices, old things ===== -/
/-- System.arraycopy over two int arrays, by the cells alone (turned from the kit's row for worlds) -/
theorem wc_copy {p : Program} {l : Launch} {e : Env} {R : Room} {s : State} {m : MethodId} {args : Array Value} {below : List Frame} {meth : Method} {c : Code} {H : Heap} {locs : List Loc} {cells slots : Nat} {Q : State → Prop} {pc : Nat} {ls : Array Slot} {rest : List Value}
    {cc : ByteArray} (hexec : p.tables.exec = Jvm.exec) (hb : c.code = cc) (hml : c.maxLocals = ls.size) {own : String} {index : Nat} (hown : s.vm.findClass own = some m.cls) (hlink : (Cond.methodLink own index arraycopyName).before args s = true) (hnat : (Cond.native arraycopyName).before args s = true) (hstat : (Cond.static arraycopyName).before args s = true) (hini : (Cond.initialized "java/lang/System").before args s = true)
    {a0 a : Nat} {c0 : ClassId} {n0 n1 : Nat} {f g : Nat → Int32} (hA : ArrOfT s c0 .int) (hc0 : H[a0]? = some (arrV c0 n0 (fun j => .int (f j)))) (hc1 : H[a]? = some (arrV c0 n1 (fun j => .int (g j))))
    {sp dp n : Int32} (h1 : ¬ sp < 0) (h2 : ¬ dp < 0) (h3 : ¬ n < 0) (h4 : sp.toNatClampNeg + n.toNatClampNeg ≤ n0) (h5 : dp.toNatClampNeg + n.toNatClampNeg ≤ n1)
    (hframes : 1 ≤ R.frames) (hlocals : (rest.map fun v => v.category).sum + (nativeFrameWords "java/lang/System" "arraycopy" 5 + 11) ≤ R.locals) (hdg : decode cc pc = .ok (.invokestatic index, 3))
    (kk : ∀ (H1 : Heap) (locs1 : List Loc), H1[a]? = some (arrV c0 n1 (fun j => .int (va_cpy f g sp.toNatClampNeg dp.toNatClampNeg n.toNatClampNeg j))) → H1.size = H.size → (∀ q : Nat, q ≠ a → H1[q]? = H[q]?) → (∀ q ∈ locs1, q ∈ locs ∨ q.base = a) → W p l e R s m args below meth c H1 locs1 cells slots Q (F0 m (pc + 3) ls rest)) : W p l e R s m args below meth c H locs cells slots Q (F0 m pc ls (.int n :: .int dp :: .ref a :: .int sp :: .ref a0 :: rest)) := by
  have nn : ∀ z : Int32, ¬ z < 0 → z.toInt = (z.toNatClampNeg : Int) := by
    intro z hz
    have hz0 : (0 : Int) ≤ z.toInt := by
      have := Int32.not_lt.mp hz
      simpa using Int32.le_iff_toInt_le.mp this
    show z.toInt = ((z.toInt.toNat : Nat) : Int)
    omega
  intro T hT X
  obtain ⟨-, k0, hk0, cm0, hkk0⟩ := hA n0 (fun j => .int (f j))
  obtain ⟨-, k1, hk1, cm1, hkk1⟩ := hA n1 (fun j => .int (g j))
  obtain ⟨vm', X', step⟩ := X.arraycopy hexec hown hlink hnat hstat hini (src := a0) (dst := a) (cs := arrV c0 n0 (fun j => .int (f j))) (cd := arrV c0 n1 (fun j => .int (g j))) (srcPos := sp) (destPos := dp) (n := n) (by rw [hT]; exact hc0) (by rw [hT]; exact hc1)
    (fun _ h => by cases h) (fun _ h => by cases h) (fun h => by cases h) (fun h => by cases h) hk0 hk1 hkk0 hkk1 (by simp [refKind]) h1 h2 h3
    (by rw [nn sp h1, nn n h3, arrV_size]; omega)
    (by rw [nn dp h2, nn n h3, arrV_size]; omega)
    (fun vm₁ _ i hi => by
      have e : (arrV c0 n0 (fun j => Value.int (f j))).slots.getD (sp.toNatClampNeg + i) .null = .int (f (sp.toNatClampNeg + i)) := by
        rw [Array.getD_eq_getD_getElem?, arrV_read _ _ (by omega)]
        rfl
      refine ⟨?_, ?_⟩
      · rw [e]
        rfl
      · rw [e]
        exact trivial)
    (g := F0 m pc ls (.int n :: .int dp :: .ref a :: .int sp :: .ref a0 :: rest)) rfl (by rw [hml]) (rest := rest) rfl (by rw [hb]; exact hdg) hframes (by show 2 * 0 + _ + _ ≤ _; omega)
  have e1 : copied (arrV c0 n0 (fun j => Value.int (f j))) (arrV c0 n1 (fun j => Value.int (g j))) sp dp n = arrV c0 n1 (fun j => .int (va_cpy f g sp.toNatClampNeg dp.toNatClampNeg n.toNatClampNeg j)) := va_copied (fun z => .int z) c0 c0 f g h4
  rw [e1] at X' step
  have hl : a < H.size := (Array.getElem?_eq_some_iff.mp hc1).1
  have hheap : ((T.setVm vm').setCell a (arrV c0 n1 (fun j => .int (va_cpy f g sp.toNatClampNeg dp.toNatClampNeg n.toNatClampNeg j)))).heap = H.setIfInBounds a (arrV c0 n1 (fun j => .int (va_cpy f g sp.toNatClampNeg dp.toNatClampNeg n.toNatClampNeg j))) := by rw [← hT]; rfl
  obtain ⟨t, a1, b1⟩ := kk _ _ (show (H.setIfInBounds a _)[a]? = some _ by simp [Array.getElem?_setIfInBounds, hl]) (by simp) (fun q hq => by simp [Array.getElem?_setIfInBounds, Ne.symm hq]) (fun q hq => by
      rcases List.mem_append.mp hq with h | h
      · exact Or.inl h
      · obtain ⟨z, -, hz⟩ := List.mem_map.mp h
        exact Or.inr (by rw [← hz])) _ hheap X'
  exact ⟨t, step t a1, b1⟩
section LIB
variable {Z : Nat → am_T × ms_T} {d j pc : Nat} {lv : lo_L} {r0 : List Value} {h : mm_M} {r : am_R} {a : Nat}
theorem ca_le {g : cw_G} {R : Room} {s : State} {H : Heap} {locs : List Loc} {cells slots : Nat} {ls : Array Slot} (ht : tt_ h ≤ tt_ r.2 ∧ mm_s h ≤ mm_s r.2) (V : mv_ Z g R s j lv h r H locs cells slots ls) : cells ≤ R.cells ∧ slots ≤ R.slots := by
  have := V.2.2.2.1
  have := V.2.2.2.2
  omega
theorem st_10 {g : cw_G} {st : List Value} (h : st.length ≤ 10) : ((st.map (cv_ g)).map fun v => v.category).sum ≤ 20 := by
  rw [cv_sum]
  have : ∀ l : List Value, (l.map fun v => v.category).sum ≤ 2 * l.length := by
    intro l
    induction l with
    | nil => simp
    | cons v l ih =>
      simp only [List.map_cons, List.sum_cons, List.length_cons]
      rcases lv_cat v with e | e <;> omega
  have := this st
  omega
theorem so_copy {b idx : Nat} {sp dp n : Int32} (hd : decode (Z j).2.2.1 pc = .ok (.invokestatic idx, 3)) (w1 : Cond.methodLink (Z j).2.1.cls idx arraycopyName ∈ lu_) (w2 : Cond.native arraycopyName ∈ lu_) (w3 : Cond.static arraycopyName ∈ lu_) (w4 : Cond.initialized "java/lang/System" ∈ lu_) (hn : 0 < d) (hr0 : r0.length ≤ 10)
    (ta : (mm_S h a).1 = 100) (tb : (mm_S h b).1 = 100) (h1 : ¬ sp < 0) (h2 : ¬ dp < 0) (h3 : ¬ n < 0) (h4 : sp.toNatClampNeg + n.toNatClampNeg ≤ mm_sz h a) (h5 : dp.toNatClampNeg + n.toNatClampNeg ≤ mm_sz h b)
    (hS : Snd Z (d, j, pc + 3, lv, r0, mm_cp h a sp.toNatClampNeg b dp.toNatClampNeg n.toNatClampNeg) r) : Snd Z (d, j, pc, lv, .int n :: .int dp :: .ref b :: .int sp :: .ref a :: r0, h) r := by
  refine sn_wr hS rfl rfl (fun {g p l e R s m args below meth cd H locs cells slots ls Q} F V k => ?_)
  have hpa : 0 < a := hr_pos V.1 (by rw [ta]; decide)
  have hpb : 0 < b := hr_pos V.1 (by rw [tb]; decide)
  show W _ _ _ _ _ _ _ _ _ _ _ _ _ _ _ (F0 m pc ls (.int n :: .int dp :: cr_ g.1 b :: .int sp :: cr_ g.1 a :: r0.map (cv_ g)))
  rw [cr_pos hpa, cr_pos hpb]
  have hts := F.2.2.2.2.2.2.2.2.2.2.2.1
  have hfr := F.2.2.2.2.2.2.2.2.2.1
  have hlo := F.2.2.2.2.2.2.2.2.2.2.1
  have h20 := st_10 (g := g) hr0
  have hnw : nativeFrameWords "java/lang/System" "arraycopy" 5 + 11 ≤ 60 := by decide +kernel
  refine wc_copy F.1 F.2.1 (F.2.2.1.trans V.2.2.1.1.symm) F.2.2.2.1 (hts _ w1) (hts _ w2) (hts _ w3) (hts _ w4) ((F.2.2.2.2.2.2.2.2.2.2.2.2.1.2 0 _ rfl).1) ((V.1.1 a).1 ta) ((V.1.1 b).1 tb) h1 h2 h3 h4 h5 (by omega) (by omega) hd fun H' locs' e1 e2 e3 e4 => ?_
  have hne : ∀ q, q ≠ b → mm_I (mm_cp h a sp.toNatClampNeg b dp.toNatClampNeg n.toNatClampNeg) q = mm_I h q := fun q hq => by
    funext z
    show (if q = b ∧ _ then _ else mm_I h q z) = mm_I h q z
    rw [if_neg (fun z => hq z.1)]
  refine k H' _ (hr_upd V.1 rfl hne (fun _ _ => rfl) (fun _ _ => rfl) rfl rfl rfl rfl e2 e3 (hp_100 tb ?_)) ⟨by rw [e2]; exact V.2.1.1, fun q z1 z2 => by rw [e3 q (fun e => z2 (by rw [e]; show g.1 < g.1 + b; omega))]; exact V.2.1.2.1 q z1 z2, fun q hq => ?_⟩
  · rw [e1]
    show some (arrV _ (mm_sz h b) _) = some (arrV _ (mm_sz h b) _)
    refine congrArg some (congrArg (arrV _ _) (funext fun q => ?_))
    show Value.int (if _ then _ else _) = .int (if b = b ∧ _ then _ else _)
    simp only [true_and]
  · rcases e4 q hq with z | z
    · exact V.2.1.2.2 q z
    · rw [z]; show g.1 < g.1 + b; omega
theorem so_max {a b : Int32} {idx : Nat} (hd : decode (Z j).2.2.1 pc = .ok (.invokestatic idx, 3)) (w1 : Cond.methodLink (Z j).2.1.cls idx Lib.Math.max.name ∈ lu_) (w2 : Cond.static Lib.Math.max.name ∈ lu_) (w3 : Cond.initialized "java/lang/Math" ∈ lu_) (w4 : Cond.code Lib.Math.max.name Lib.Math.max.code 2 (some .int) ∈ lu_) (hn : 0 < d) (hr0 : r0.length ≤ 10)
    (hS : Snd Z (d, j, pc + 3, lv, .int (mm_max a b) :: r0, h) r) : Snd Z (d, j, pc, lv, .int b :: .int a :: r0, h) r := by
  refine sn_op hS (fun {g p l e R s m args below meth cd H locs cells slots ls Q} F V k => ?_)
  have hts := F.2.2.2.2.2.2.2.2.2.2.2.1
  have hfr := F.2.2.2.2.2.2.2.2.2.1
  have hlo := F.2.2.2.2.2.2.2.2.2.2.1
  have h20 := st_10 (g := g) hr0
  have hc := ca_le hS.1 V
  exact va_mmax F.1 F.2.1 (F.2.2.1.trans V.2.2.1.1.symm) F.2.2.2.1 (hts _ w1) (hts _ w2) (hts _ w3) (hts _ w4) (by omega) (by omega) hc.1 hc.2 hd k
theorem so_min {a b : Int32} {idx : Nat} (hd : decode (Z j).2.2.1 pc = .ok (.invokestatic idx, 3)) (w1 : Cond.methodLink (Z j).2.1.cls idx Lib.Math.min.name ∈ lu_) (w2 : Cond.static Lib.Math.min.name ∈ lu_) (w3 : Cond.initialized "java/lang/Math" ∈ lu_) (w4 : Cond.code Lib.Math.min.name Lib.Math.min.code 2 (some .int) ∈ lu_) (hn : 0 < d) (hr0 : r0.length ≤ 10)
    (hS : Snd Z (d, j, pc + 3, lv, .int (mm_min a b) :: r0, h) r) : Snd Z (d, j, pc, lv, .int b :: .int a :: r0, h) r := by
  refine sn_op hS (fun {g p l e R s m args below meth cd H locs cells slots ls Q} F V k => ?_)
  have hts := F.2.2.2.2.2.2.2.2.2.2.2.1
  have hfr := F.2.2.2.2.2.2.2.2.2.1
  have hlo := F.2.2.2.2.2.2.2.2.2.2.1
  have h20 := st_10 (g := g) hr0
  have hc := ca_le hS.1 V
  exact va_mmin F.1 F.2.1 (F.2.2.1.trans V.2.2.1.1.symm) F.2.2.2.1 (hts _ w1) (hts _ w2) (hts _ w3) (hts _ w4) (by omega) (by omega) hc.1 hc.2 hd k
theorem so_obj {idx : Nat} (hd : decode (Z j).2.2.1 pc = .ok (.invokespecial idx, 3)) (w1 : Cond.methodLink (Z j).2.1.cls idx Lib.objectInit ∈ lu_) (w2 : Cond.instanceMethod Lib.objectInit ∈ lu_) (w3 : Cond.code Lib.objectInit ⟨#[0xb1]⟩ 1 none ∈ lu_) (hn : 0 < d) (hr0 : r0.length ≤ 10) (ha : 0 < a)
    (hS : Snd Z (d, j, pc + 3, lv, r0, h) r) : Snd Z (d, j, pc, lv, .ref a :: r0, h) r := by
  refine sn_op hS (fun {g p l e R s m args below meth cd H locs cells slots ls Q} F V k => ?_)
  have hts := F.2.2.2.2.2.2.2.2.2.2.2.1
  have hfr := F.2.2.2.2.2.2.2.2.2.1
  have hlo := F.2.2.2.2.2.2.2.2.2.2.1
  have h20 := st_10 (g := g) hr0
  show W _ _ _ _ _ _ _ _ _ _ _ _ _ _ _ (F0 m pc ls (cr_ g.1 a :: r0.map (cv_ g)))
  rw [cr_pos ha]
  exact W.objInit F.1 F.2.1 F.2.2.2.1 (hts _ w1) (hts _ w2) (hts _ w3) rfl (V.2.2.1.1.trans F.2.2.1.symm) rfl hd (by omega) (by show 2 * 0 + _ + 12 ≤ _; omega) k
theorem so_newa_int {n : Int32} (hd : decode (Z j).2.2.1 pc = .ok (.newarray .int, 2)) (w1 : Cond.arrayClass .int ∈ lu_) (h1 : ¬ n < 0) (h2 : n.toNatClampNeg ≤ 100000) (hx : mm_x h = 0)
    (hS : Snd Z (d, j, pc + 2, lv, .ref (mm_n h + 1) :: r0, mm_al h 100 n.toNatClampNeg) r) : Snd Z (d, j, pc, lv, .int n :: r0, h) r := by
  have a1 : mm_n h + 1 + mm_x h ≤ tt_ r.2 := hS.1.1
  have a2 : mm_s h + n.toNatClampNeg ≤ mm_s r.2 := hS.1.2
  refine ⟨⟨by show mm_n h + mm_x h ≤ _; omega, by show mm_s h ≤ _; omega⟩, fun g p l e R s m args below meth cd F Q qq H locs cells slots ls V => ?_⟩
  have hts := F.2.2.2.2.2.2.2.2.2.2.2.1
  have hK := F.2.2.2.2.2.2.2.2.2.2.2.2.1
  have v3 : cells + tt_ r.2 ≤ R.cells + (mm_n h + mm_x h) := V.2.2.2.1
  have v4 : slots + mm_s r.2 ≤ R.slots + mm_s h := V.2.2.2.2
  have hsz : H.size = g.1 + mm_n h + 1 := V.1.2.2.1 hx
  refine W.newa (atype := .int) F.1 F.2.1 (hts _ w1) rfl hd rfl h1 (by show n.toNatClampNeg * 4 ≤ _; omega) (by omega) (by omega) fun cA kA comp f1 f2 f3 => ?_
  have e : cA = g.2.2.2.1 0 := Option.some.inj (f1.symm.trans (hK.2 0 _ rfl).2)
  subst e
  rw [arrV_new, hsz]
  have hr1 : hr_ g (mm_al h 100 n.toNatClampNeg) (H.push (arrV (g.2.2.2.1 0) n.toNatClampNeg (fun _ => defaultValue .int))) := by
    refine hr_al V.1 hx (by simp) (fun z hz => by rw [Array.getElem?_push, if_neg (Nat.ne_of_lt hz)]) (hp_100 (by rw [mm_al_S]) ?_)
    rw [← Nat.add_assoc, ← hsz]
    simp only [Array.getElem?_push_size, mm_sz, mm_al_S, mm_al_I]
    rfl
  exact hS.2 g p l e R s m args below meth cd F Q qq _ locs (cells + 1) (slots + n.toNatClampNeg) ls ⟨hr1, ⟨by have := V.2.1.1; simp; omega, fun x b1 b2 => by rw [Array.getElem?_push, if_neg (by have := V.2.1.1; omega)]; exact V.2.1.2.1 x b1 b2, V.2.1.2.2⟩, V.2.2.1, by show cells + 1 + tt_ r.2 ≤ R.cells + (mm_n h + 1 + mm_x h); omega, by show slots + n.toNatClampNeg + mm_s r.2 ≤ R.slots + (mm_s h + n.toNatClampNeg); omega⟩
theorem so_newa_byte {n : Int32} (hd : decode (Z j).2.2.1 pc = .ok (.newarray .byte, 2)) (w1 : Cond.arrayClass .byte ∈ lu_) (h1 : ¬ n < 0) (h2 : n.toNatClampNeg ≤ 100000) (hx : mm_x h = 0)
    (hS : Snd Z (d, j, pc + 2, lv, .ref (mm_n h + 1) :: r0, mm_al h 101 n.toNatClampNeg) r) : Snd Z (d, j, pc, lv, .int n :: r0, h) r := by
  have a1 : mm_n h + 1 + mm_x h ≤ tt_ r.2 := hS.1.1
  have a2 : mm_s h + n.toNatClampNeg ≤ mm_s r.2 := hS.1.2
  refine ⟨⟨by show mm_n h + mm_x h ≤ _; omega, by show mm_s h ≤ _; omega⟩, fun g p l e R s m args below meth cd F Q qq H locs cells slots ls V => ?_⟩
  have hts := F.2.2.2.2.2.2.2.2.2.2.2.1
  have hK := F.2.2.2.2.2.2.2.2.2.2.2.2.1
  have v3 : cells + tt_ r.2 ≤ R.cells + (mm_n h + mm_x h) := V.2.2.2.1
  have v4 : slots + mm_s r.2 ≤ R.slots + mm_s h := V.2.2.2.2
  have hsz : H.size = g.1 + mm_n h + 1 := V.1.2.2.1 hx
  refine W.newa (atype := .byte) F.1 F.2.1 (hts _ w1) rfl hd rfl h1 (by show n.toNatClampNeg * 1 ≤ _; omega) (by omega) (by omega) fun cA kA comp f1 f2 f3 => ?_
  have e : cA = g.2.2.2.1 1 := Option.some.inj (f1.symm.trans (hK.2 1 _ rfl).2)
  subst e
  rw [arrV_new, hsz]
  have hr1 : hr_ g (mm_al h 101 n.toNatClampNeg) (H.push (arrV (g.2.2.2.1 1) n.toNatClampNeg (fun _ => defaultValue .byte))) := by
    refine hr_al V.1 hx (by simp) (fun z hz => by rw [Array.getElem?_push, if_neg (Nat.ne_of_lt hz)]) (hp_101 (by rw [mm_al_S]) ?_)
    rw [← Nat.add_assoc, ← hsz]
    simp only [Array.getElem?_push_size, mm_sz, mm_al_S, mm_al_I]
    rfl
  exact hS.2 g p l e R s m args below meth cd F Q qq _ locs (cells + 1) (slots + n.toNatClampNeg) ls ⟨hr1, ⟨by have := V.2.1.1; simp; omega, fun x b1 b2 => by rw [Array.getElem?_push, if_neg (by have := V.2.1.1; omega)]; exact V.2.1.2.1 x b1 b2, V.2.1.2.2⟩, V.2.2.1, by show cells + 1 + tt_ r.2 ≤ R.cells + (mm_n h + 1 + mm_x h); omega, by show slots + n.toNatClampNeg + mm_s r.2 ≤ R.slots + (mm_s h + n.toNatClampNeg); omega⟩
theorem so_newa_long {n : Int32} (hd : decode (Z j).2.2.1 pc = .ok (.newarray .long, 2)) (w1 : Cond.arrayClass .long ∈ lu_) (h1 : ¬ n < 0) (h2 : n.toNatClampNeg ≤ 100000) (hx : mm_x h = 0)
    (hS : Snd Z (d, j, pc + 2, lv, .ref (mm_n h + 1) :: r0, mm_al h 102 n.toNatClampNeg) r) : Snd Z (d, j, pc, lv, .int n :: r0, h) r := by
  have a1 : mm_n h + 1 + mm_x h ≤ tt_ r.2 := hS.1.1
  have a2 : mm_s h + n.toNatClampNeg ≤ mm_s r.2 := hS.1.2
  refine ⟨⟨by show mm_n h + mm_x h ≤ _; omega, by show mm_s h ≤ _; omega⟩, fun g p l e R s m args below meth cd F Q qq H locs cells slots ls V => ?_⟩
  have hts := F.2.2.2.2.2.2.2.2.2.2.2.1
  have hK := F.2.2.2.2.2.2.2.2.2.2.2.2.1
  have v3 : cells + tt_ r.2 ≤ R.cells + (mm_n h + mm_x h) := V.2.2.2.1
  have v4 : slots + mm_s r.2 ≤ R.slots + mm_s h := V.2.2.2.2
  have hsz : H.size = g.1 + mm_n h + 1 := V.1.2.2.1 hx
  refine W.newa (atype := .long) F.1 F.2.1 (hts _ w1) rfl hd rfl h1 (by show n.toNatClampNeg * 8 ≤ _; omega) (by omega) (by omega) fun cA kA comp f1 f2 f3 => ?_
  have e : cA = g.2.2.2.1 2 := Option.some.inj (f1.symm.trans (hK.2 2 _ rfl).2)
  subst e
  rw [arrV_new, hsz]
  have hr1 : hr_ g (mm_al h 102 n.toNatClampNeg) (H.push (arrV (g.2.2.2.1 2) n.toNatClampNeg (fun _ => defaultValue .long))) := by
    refine hr_al V.1 hx (by simp) (fun z hz => by rw [Array.getElem?_push, if_neg (Nat.ne_of_lt hz)]) (hp_102 (by rw [mm_al_S]) ?_)
    rw [← Nat.add_assoc, ← hsz]
    simp only [Array.getElem?_push_size, mm_sz, mm_al_S, mm_al_J]
    rfl
  exact hS.2 g p l e R s m args below meth cd F Q qq _ locs (cells + 1) (slots + n.toNatClampNeg) ls ⟨hr1, ⟨by have := V.2.1.1; simp; omega, fun x b1 b2 => by rw [Array.getElem?_push, if_neg (by have := V.2.1.1; omega)]; exact V.2.1.2.1 x b1 b2, V.2.1.2.2⟩, V.2.2.1, by show cells + 1 + tt_ r.2 ≤ R.cells + (mm_n h + 1 + mm_x h); omega, by show slots + n.toNatClampNeg + mm_s r.2 ≤ R.slots + (mm_s h + n.toNatClampNeg); omega⟩
theorem so_anew {idx : Nat} {n : Int32} (hd : decode (Z j).2.2.1 pc = .ok (.anewarray idx, 3)) (w1 : Cond.classLink (Z j).2.1.cls idx "LastChange$Side" ∈ lu_) (h1 : ¬ n < 0) (h2 : n.toNatClampNeg ≤ 100000) (hx : mm_x h = 0)
    (hS : Snd Z (d, j, pc + 3, lv, .ref (mm_n h + 1) :: r0, mm_al h 103 n.toNatClampNeg) r) : Snd Z (d, j, pc, lv, .int n :: r0, h) r := by
  have a1 : mm_n h + 1 + mm_x h ≤ tt_ r.2 := hS.1.1
  have a2 : mm_s h + n.toNatClampNeg ≤ mm_s r.2 := hS.1.2
  refine ⟨⟨by show mm_n h + mm_x h ≤ _; omega, by show mm_s h ≤ _; omega⟩, fun g p l e R s m args below meth cd F Q qq H locs cells slots ls V => ?_⟩
  have hts := F.2.2.2.2.2.2.2.2.2.2.2.1
  have hK := F.2.2.2.2.2.2.2.2.2.2.2.2.1
  have v3 : cells + tt_ r.2 ≤ R.cells + (mm_n h + mm_x h) := V.2.2.2.1
  have v4 : slots + mm_s r.2 ≤ R.slots + mm_s h := V.2.2.2.2
  have hsz : H.size = g.1 + mm_n h + 1 := V.1.2.2.1 hx
  refine W.anew F.1 F.2.1 F.2.2.2.1 (hts _ w1) (va_AO.use F.2.2.2.2.2.2.2.2.2.2.2.2.2.2.2.2.2.2.2.2.2.2.2.2.2.1) rfl hd rfl h1 (by omega) (by omega) (by omega) fun cA kA comp f1 f2 f3 f4 => ?_
  obtain ⟨kA', comp', g1, g2, g3, g4⟩ := (hK.2 3 _ rfl).2
  have e : cA = g.2.2.2.1 3 := Option.some.inj (f1.symm.trans g4)
  subst e
  rw [arrV_new, hsz]
  have hr1 : hr_ g (mm_al h 103 n.toNatClampNeg) (H.push (arrV (g.2.2.2.1 3) n.toNatClampNeg (fun _ => .null))) := by
    refine hr_al V.1 hx (by simp) (fun z hz => by rw [Array.getElem?_push, if_neg (Nat.ne_of_lt hz)]) (hp_103 (by rw [mm_al_S]) ?_)
    rw [← Nat.add_assoc, ← hsz]
    simp only [Array.getElem?_push_size, mm_sz, mm_al_S, mm_al_P]
    rfl
  exact hS.2 g p l e R s m args below meth cd F Q qq _ locs (cells + 1) (slots + n.toNatClampNeg) ls ⟨hr1, ⟨by have := V.2.1.1; simp; omega, fun x b1 b2 => by rw [Array.getElem?_push, if_neg (by have := V.2.1.1; omega)]; exact V.2.1.2.1 x b1 b2, V.2.1.2.2⟩, V.2.2.1, by show cells + 1 + tt_ r.2 ≤ R.cells + (mm_n h + 1 + mm_x h); omega, by show slots + n.toNatClampNeg + mm_s r.2 ≤ R.slots + (mm_s h + n.toNatClampNeg); omega⟩
/-- a return -/
theorem so_ret {v : Option Value} (hrt : rt_ (Z j).2 pc v) : Snd Z (d, j, pc, lv, v.toList, h) (.inl v, h) := by
  refine ⟨⟨Nat.le_refl _, Nat.le_refl _⟩, fun g p l e R s m args below meth cd F Q qq H locs cells slots ls V => ?_⟩
  have hc := ca_le (r := (.inl v, h)) ⟨Nat.le_refl _, Nat.le_refl _⟩ V
  have := qq.1 v pc ls H locs cells slots rfl hrt V.1 V.2.1 hc.1 hc.2
  have e : (v.toList.map (cv_ g)) = (v.map (cv_ g)).toList := by cases v <;> rfl
  show W _ _ _ _ _ _ _ _ _ _ _ _ _ _ _ (F0 m pc ls (v.toList.map (cv_ g)))
  rw [e]
  exact this
end LIB
