/-! ===== old things, choices by an int ===== -/
section OLD
variable {Z : Nat → am_T × ms_T} {d j pc : Nat} {lv : lo_L} {r0 : List Value} {h : mm_M} {r : am_R} {q : UInt32}
theorem so_alenO (hd : decode (Z j).2.2.1 pc = .ok (.arraylength, 1)) (ho : od_i q = true ∨ od_b q = true) (hS : Snd Z (d, j, pc + 1, lv, .int (Int32.ofNat (mm_L h q)) :: r0, h) r) : Snd Z (d, j, pc, lv, .float q :: r0, h) r := by
  refine sn_op hS (fun {g p l e R s m args below meth cd H locs cells slots ls Q} F V k => ?_)
  have hw := F.2.2.2.2.2.2.2.2.2.2.2.2
  have hLL : mm_L h = g.2.2.2.2.2 := V.1.2.2.2.2
  obtain ⟨t, ty, e1, cell, t1, t2, t3, t4, t5, t6, t7⟩ : ∃ (t : Nat) (ty : FieldType), g.2.1 q = some t ∧ va_T ty t (g.2.2.2.2.2 q) (fun j => .int (g.2.2.2.2.1 q j)) (aa_ g) s s.heap := by
    rcases ho with ho | ho
    · obtain ⟨t, a, b⟩ := hw.2.2.1 q ho
      exact ⟨t, .int, a, b⟩
    · obtain ⟨t, a, b⟩ := hw.2.2.2.1 q ho
      exact ⟨t, .byte, a, b⟩
  show W _ _ _ _ _ _ _ _ _ _ _ _ _ _ _ (F0 m pc ls (va_rf (g.2.1 q) :: r0.map (cv_ g)))
  rw [e1]
  rw [hLL] at k
  exact W.alen F.1 F.2.1 (by rw [V.2.1.2.1 t (Array.getElem?_eq_some_iff.mp t1).1 t7]; exact t1) t2 t5 rfl rfl hd k
theorem so_ialdO {i : Int32} (hd : decode (Z j).2.2.1 pc = .ok (.iaload, 1)) (ho : od_i q = true) (hi : vp_in i (mm_L h q)) (hS : Snd Z (d, j, pc + 1, lv, .int (mm_O h q i.toNatClampNeg) :: r0, h) r) : Snd Z (d, j, pc, lv, .int i :: .float q :: r0, h) r := by
  refine sn_op hS (fun {g p l e R s m args below meth cd H locs cells slots ls Q} F V k => ?_)
  have hw := F.2.2.2.2.2.2.2.2.2.2.2.2
  have hLL : mm_L h = g.2.2.2.2.2 := V.1.2.2.2.2
  have hOO : mm_O h = g.2.2.2.2.1 := V.1.2.2.2.1
  obtain ⟨t, e1, cell, t1, t2, t3, t4, t5, t6, t7⟩ := hw.2.2.1 q ho
  show W _ _ _ _ _ _ _ _ _ _ _ _ _ _ _ (F0 m pc ls (.int i :: va_rf (g.2.1 q) :: r0.map (cv_ g)))
  rw [e1]
  rw [hOO] at k
  rw [hLL] at hi
  have hlt : i.toNatClampNeg < g.2.2.2.2.2 q := Nat.not_le.mp fun z => hi (Or.inr z)
  exact W.iald (v := .int (g.2.2.2.2.1 q i.toNatClampNeg)) F.1 F.2.1 (by rw [V.2.1.2.1 t (Array.getElem?_eq_some_iff.mp t1).1 t7]; exact t1) t2 t3 (fun z => hi (z.imp id (fun z => Nat.le_trans t4 z))) (t6 _ hlt) rfl rfl hd k
theorem so_baldO {i : Int32} (hd : decode (Z j).2.2.1 pc = .ok (.baload, 1)) (ho : od_b q = true) (hi : vp_in i (mm_L h q)) (hS : Snd Z (d, j, pc + 1, lv, .int (mm_O h q i.toNatClampNeg) :: r0, h) r) : Snd Z (d, j, pc, lv, .int i :: .float q :: r0, h) r := by
  refine sn_op hS (fun {g p l e R s m args below meth cd H locs cells slots ls Q} F V k => ?_)
  have hw := F.2.2.2.2.2.2.2.2.2.2.2.2
  have hLL : mm_L h = g.2.2.2.2.2 := V.1.2.2.2.2
  have hOO : mm_O h = g.2.2.2.2.1 := V.1.2.2.2.1
  obtain ⟨t, e1, cell, t1, t2, t3, t4, t5, t6, t7⟩ := hw.2.2.2.1 q ho
  show W _ _ _ _ _ _ _ _ _ _ _ _ _ _ _ (F0 m pc ls (.int i :: va_rf (g.2.1 q) :: r0.map (cv_ g)))
  rw [e1]
  rw [hOO] at k
  rw [hLL] at hi
  have hlt : i.toNatClampNeg < g.2.2.2.2.2 q := Nat.not_le.mp fun z => hi (Or.inr z)
  exact W.bald (v := .int (g.2.2.2.2.1 q i.toNatClampNeg)) F.1 F.2.1 (by rw [V.2.1.2.1 t (Array.getElem?_eq_some_iff.mp t1).1 t7]; exact t1) t2 t3 (fun z => hi (z.imp id (fun z => Nat.le_trans t4 z))) (t6 _ hlt) rfl rfl hd k
theorem so_strV {idx : Nat} (hd : decode (Z j).2.2.1 pc = .ok (.getfield idx, 3)) (ho : od_s q = true) (hw : Cond.fieldLink (Z j).2.1.cls idx "java/lang/String" "value" "[B" ∈ lu_) (hS : Snd Z (d, j, pc + 3, lv, .float (q + 100) :: r0, h) r) : Snd Z (d, j, pc, lv, .float q :: r0, h) r := by
  refine sn_op hS (fun {g p l e R s m args below meth cd H locs cells slots ls Q} F V k => ?_)
  obtain ⟨t, u, e1, e2, -, -, b3⟩ := F.2.2.2.2.2.2.2.2.2.2.2.2.2.2.2.2.1 q ho
  show W _ _ _ _ _ _ _ _ _ _ _ _ _ _ _ (F0 m pc ls (va_rf (g.2.1 q) :: r0.map (cv_ g)))
  rw [e1]
  have k : W p l e R s m args below meth cd H locs cells slots Q (F0 m (pc + 3) ls (va_rf (g.2.1 (q + 100)) :: r0.map (cv_ g))) := k
  rw [e2] at k
  exact vk_getf F.1 F.2.1 b3 V.2.1 F.2.2.2.1 (F.2.2.2.2.2.2.2.2.2.2.2.1 _ hw) (fun _ z => z) hd k
theorem so_strC {idx : Nat} (hd : decode (Z j).2.2.1 pc = .ok (.getfield idx, 3)) (ho : od_s q = true) (hw : Cond.fieldLink (Z j).2.1.cls idx "java/lang/String" "coder" "B" ∈ lu_) (hS : Snd Z (d, j, pc + 3, lv, .int 0 :: r0, h) r) : Snd Z (d, j, pc, lv, .float q :: r0, h) r := by
  refine sn_op hS (fun {g p l e R s m args below meth cd H locs cells slots ls Q} F V k => ?_)
  obtain ⟨t, u, e1, e2, -, b2, -⟩ := F.2.2.2.2.2.2.2.2.2.2.2.2.2.2.2.2.1 q ho
  show W _ _ _ _ _ _ _ _ _ _ _ _ _ _ _ (F0 m pc ls (va_rf (g.2.1 q) :: r0.map (cv_ g)))
  rw [e1]
  exact vk_getf F.1 F.2.1 b2 V.2.1 F.2.2.2.1 (F.2.2.2.2.2.2.2.2.2.2.2.1 _ hw) (fun _ z => z) hd k
theorem so_ldcS {idx : Nat} {tx : String} (hd : decode (Z j).2.2.1 pc = .ok (.ldc idx, 2)) (hw : ((Z j).2.1.cls, idx, tx, q) ∈ sr_L) (hS : Snd Z (d, j, pc + 2, lv, .float q :: r0, h) r) : Snd Z (d, j, pc, lv, r0, h) r := by
  refine sn_op hS (fun {g p l e R s m args below meth cd H locs cells slots ls Q} F V k => ?_)
  obtain ⟨t, e1, b1⟩ := F.2.2.2.2.2.2.2.2.2.2.2.2.2.2.2.2.2.2.2.2.2.1 _ hw
  have k : W p l e R s m args below meth cd H locs cells slots Q (F0 m (pc + 2) ls (va_rf (g.2.1 q) :: r0.map (cv_ g))) := k
  rw [e1] at k
  exact va_ldcS F.1 F.2.1 F.2.2.2.1 b1 hd k
theorem so_getsC {idx : Nat} (hd : decode (Z j).2.2.1 pc = .ok (.getstatic idx, 3)) (hw : Cond.fieldLink (Z j).2.1.cls idx "java/lang/String" "COMPACT_STRINGS" "Z" ∈ lu_) (hS : Snd Z (d, j, pc + 3, lv, .int 1 :: r0, h) r) : Snd Z (d, j, pc, lv, r0, h) r :=
  sn_op hS (fun F V k => va_gets F.1 F.2.1 F.2.2.2.2.2.2.2.2.2.2.2.2.2.2.2.2.2.2.2.1 V.2.1 F.2.2.2.1 (F.2.2.2.2.2.2.2.2.2.2.2.1 _ hw) (fun _ z => z) hd k)
theorem so_getsF {idx : Nat} (hd : decode (Z j).2.2.1 pc = .ok (.getstatic idx, 3)) (hw : Cond.fieldLink (Z j).2.1.cls idx "jdk/internal/util/Preconditions" "SIOOBE_FORMATTER" "Ljava/util/function/BiFunction;" ∈ lu_) (hS : Snd Z (d, j, pc + 3, lv, .float 90 :: r0, h) r) : Snd Z (d, j, pc, lv, r0, h) r :=
  sn_op hS (fun F V k => va_gets F.1 F.2.1 F.2.2.2.2.2.2.2.2.2.2.2.2.2.2.2.2.2.2.2.2.1 V.2.1 F.2.2.2.1 (F.2.2.2.2.2.2.2.2.2.2.2.1 _ hw) (fun _ z => z) hd k)
theorem so_getsL {idx : Nat} (hd : decode (Z j).2.2.1 pc = .ok (.getstatic idx, 3)) (hw : Cond.fieldLink (Z j).2.1.cls idx "LastChange$Reader" "LEAST" "[I" ∈ lu_) (hS : Snd Z (d, j, pc + 3, lv, .float 20 :: r0, h) r) : Snd Z (d, j, pc, lv, r0, h) r := by
  refine sn_op hS (fun {g p l e R s m args below meth cd H locs cells slots ls Q} F V k => ?_)
  obtain ⟨t, e1, b1⟩ := F.2.2.2.2.2.2.2.2.2.2.2.2.2.2.2.2.2.1
  have k : W p l e R s m args below meth cd H locs cells slots Q (F0 m (pc + 3) ls (va_rf (g.2.1 20) :: r0.map (cv_ g))) := k
  rw [e1] at k
  exact va_gets F.1 F.2.1 b1 V.2.1 F.2.2.2.1 (F.2.2.2.2.2.2.2.2.2.2.2.1 _ hw) (fun _ z => z) hd k
theorem so_getsM {idx : Nat} (hd : decode (Z j).2.2.1 pc = .ok (.getstatic idx, 3)) (hw : Cond.fieldLink (Z j).2.1.cls idx "LastChange$Reader" "MOST" "[I" ∈ lu_) (hS : Snd Z (d, j, pc + 3, lv, .float 21 :: r0, h) r) : Snd Z (d, j, pc, lv, r0, h) r := by
  refine sn_op hS (fun {g p l e R s m args below meth cd H locs cells slots ls Q} F V k => ?_)
  obtain ⟨t, e1, b1⟩ := F.2.2.2.2.2.2.2.2.2.2.2.2.2.2.2.2.2.2.1
  have k : W p l e R s m args below meth cd H locs cells slots Q (F0 m (pc + 3) ls (va_rf (g.2.1 21) :: r0.map (cv_ g))) := k
  rw [e1] at k
  exact va_gets F.1 F.2.1 b1 V.2.1 F.2.2.2.1 (F.2.2.2.2.2.2.2.2.2.2.2.1 _ hw) (fun _ z => z) hd k
/-! choices -/
theorem sw_some {f : am_C → Option am_R} {v : Int32} {c : am_C} : ∀ {l : List (Int32 × am_C)}, am_sw f v l c = some r → (∃ (i : Nat) (q : Int32 × am_C), l[i]? = some q ∧ v = q.1 ∧ f q.2 = some r) ∨ ((∀ q ∈ l, v ≠ q.1) ∧ f c = some r)
  | [], e => Or.inr ⟨fun _ z => (by cases z), e⟩
  | q :: l, e => by
    unfold am_sw at e
    cases hb : mm_eq v q.1 with
    | true =>
      rw [hb] at e
      exact Or.inl ⟨0, q, rfl, of_decide_eq_true hb, e⟩
    | false =>
      rw [hb] at e
      rcases sw_some (l := l) e with ⟨i, z, h1, h2, h3⟩ | ⟨h1, h2⟩
      · exact Or.inl ⟨i + 1, z, h1, h2, h3⟩
      · refine Or.inr ⟨fun z hz => ?_, h2⟩
        rcases List.mem_cons.mp hz with rfl | hz
        · exact of_decide_eq_false hb
        · exact h1 z hz
theorem so_tab {df lo hi : Int} {offs : Array Int} {len t : Nat} {x : Int32} {sw : List (Int32 × Nat)} {f : am_C → Option am_R} (hf : ∀ c r, f c = some r → Snd Z c r) (hd : decode (Z j).2.2.1 pc = .ok (.tableswitch df lo hi offs, len)) (ht : (pc : Int) + df = (t : Int)) (hhi : hi = lo + offs.size - 1) (hsw : ∀ i : Nat, i < offs.size → ∃ (q : Int32 × Nat) (o : Int), sw[i]? = some q ∧ offs[i]? = some o ∧ q.1.toInt = lo + i ∧ (pc : Int) + o = (q.2 : Int)) (hlen : sw.length = offs.size)
    (hop : am_sw f x (sw.map (fun q => (q.1, (d, j, q.2, lv, r0, h)))) (d, j, t, lv, r0, h) = some r) : Snd Z (d, j, pc, lv, .int x :: r0, h) r := by
  rcases sw_some hop with ⟨i, q, h1, h2, h3⟩ | ⟨h1, h2⟩
  · rw [List.getElem?_map] at h1
    cases hq : sw[i]? with
    | none => rw [hq] at h1; cases h1
    | some z =>
      rw [hq] at h1
      cases h1
      have hi : i < offs.size := by rw [← hlen]; exact (List.getElem?_eq_some_iff.mp hq).1
      obtain ⟨q', o, k1, k2, k3, k4⟩ := hsw i hi
      cases hq.symm.trans k1
      have h2' : x.toInt = lo + i := by rw [h2]; exact k3
      refine sn_op (hf _ _ h3) (fun F _ k => lv_tableIn F.1 F.2.1 hd (by omega) (by omega) (off := o) ?_ k4 k)
      rw [show (x.toInt - lo).toNat = i by omega]
      exact k2
  · refine sn_op (hf _ _ h2) (fun F _ k => lv_tableOut F.1 F.2.1 hd ?_ ht k)
    by_cases c1 : x.toInt < lo
    · exact Or.inl c1
    · by_cases c2 : hi < x.toInt
      · exact Or.inr c2
      · exfalso
        obtain ⟨q', o, k1, k2, k3, k4⟩ := hsw (x.toInt - lo).toNat (by omega)
        refine h1 (q'.1, (d, j, q'.2, lv, r0, h)) (List.mem_map.mpr ⟨q', List.mem_of_getElem? k1, rfl⟩) ?_
        exact Int32.toInt_inj.mp (by rw [k3]; omega)
theorem lk_some {f : am_C → Option am_R} {v : Int32} {df : Int} {t : Nat} (ht : (pc : Int) + df = (t : Int)) : ∀ {sw : List (Int32 × Nat)} {ps : List (Int × Int)}, sw.map (fun q => (q.1.toInt, (q.2 : Int))) = ps.map (fun q => (q.1, (pc : Int) + q.2)) → am_sw f v (sw.map (fun q => (q.1, (d, j, q.2, lv, r0, h)))) (d, j, t, lv, r0, h) = some r →
    ∃ u : Nat, (pc : Int) + Op.lookupswitch.offset ps df v.toInt = (u : Int) ∧ f (d, j, u, lv, r0, h) = some r
  | [], [], _, e => ⟨t, ht, e⟩
  | [], _ :: _, hm, _ => by cases hm
  | _ :: _, [], hm, _ => by cases hm
  | q :: sw, p :: ps, hm, e => by
    simp only [List.map_cons, List.cons.injEq, Prod.mk.injEq] at hm
    obtain ⟨⟨m1, m2⟩, m3⟩ := hm
    simp only [List.map_cons] at e
    unfold am_sw at e
    have hp : p = (p.1, p.2) := rfl
    rw [hp, Op.lookupswitch.offset_cons]
    cases hb : mm_eq v q.1 with
    | true =>
      rw [hb] at e
      have h2 : v = q.1 := of_decide_eq_true hb
      rw [if_pos (by rw [h2, m1])]
      exact ⟨q.2, m2.symm, e⟩
    | false =>
      rw [hb] at e
      have h2 : ¬ v = q.1 := of_decide_eq_false hb
      rw [if_neg (by rw [← m1]; intro z; exact h2 (Int32.toInt_inj.mp z.symm))]
      exact lk_some ht m3 e
theorem so_look {df : Int} {ps : Array (Int × Int)} {len t : Nat} {x : Int32} {sw : List (Int32 × Nat)} {f : am_C → Option am_R} (hf : ∀ c r, f c = some r → Snd Z c r) (hd : decode (Z j).2.2.1 pc = .ok (.lookupswitch df ps, len)) (ht : (pc : Int) + df = (t : Int)) (hp : (ps.toList.zip (ps.toList.drop 1)).all (fun (a, next) => a.1 < next.1) = true) (hsw : sw.map (fun q => (q.1.toInt, (q.2 : Int))) = ps.toList.map (fun q => (q.1, (pc : Int) + q.2)))
    (hop : am_sw f x (sw.map (fun q => (q.1, (d, j, q.2, lv, r0, h)))) (d, j, t, lv, r0, h) = some r) : Snd Z (d, j, pc, lv, .int x :: r0, h) r := by
  obtain ⟨u, h1, h2⟩ := lk_some ht hsw hop
  exact sn_op (hf _ _ h2) (fun F _ k => lv_lookup F.1 F.2.1 hd hp rfl h1 k)
end OLD
