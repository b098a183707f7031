/-! ===== from the law's entry to the abstract machine ===== -/
theorem tp_str {args : Array Value} {s : State} {own : String} {idx : Nat} {A : Nat → Prop} {bs : List Int32} (hA : ∀ a : Nat, a < s.heap.size → ¬ A a) (hN : bs.length < 2 ^ 31) (hex : (Cond.exactly (.string own idx) "java/lang/String").before args s = true) (hco : (Cond.eq (.field (.string own idx) "java/lang/String" "coder" "B") (.int 0)).before args s = true) (har : (Cond.arrayOf (.field (.string own idx) "java/lang/String" "value" "[B") .byte).before args s = true) (hle : (Cond.eq (.length (.field (.string own idx) "java/lang/String" "value" "[B")) (.int (Int32.ofNat bs.length))).before args s = true)
    (hel : ∀ j : Nat, j < bs.length → (Cond.eq (.elem (.field (.string own idx) "java/lang/String" "value" "[B") (.int (Int32.ofNat j))) (.int (bs.getD j 0))).before args s = true) :
    ∃ t u : Nat, (Term.string own idx).eval args s none [] s = some (.ref t) ∧ va_O "java/lang/String" t A s s.heap ∧ va_OF "java/lang/String" "coder" "B" (.int 0) t A s s.heap ∧ va_OF "java/lang/String" "value" "[B" (.ref u) t A s s.heap ∧ va_T .byte u bs.length (fun j => .int (bs.getD j 0)) A s s.heap := by
  obtain ⟨adK, adV, h1, h2⟩ := vk_Sof (N := 1) (tm := fun _ => .string own idx) (len := [bs.length]) (byt := [bs]) (A := A) (fun i hi => by
    have : i = 0 := by omega
    subst this; exact hN) (fun _ _ => hex) (fun _ _ => hco) (fun _ _ => har) (fun i hi => by
    have : i = 0 := by omega
    subst this; exact hle) (fun i hi j hj => by
    have : i = 0 := by omega
    subst this; exact hel j hj) (fun i j hi hj hne => absurd (show i = j by omega) hne) hA
  obtain ⟨a1, a2, a3, a4⟩ := h1.1 0 (by omega)
  exact ⟨adK 0, adV 0, h2 0 (by omega), a1, a2, a3, a4⟩
theorem tp_all {args : Array Value} {s : State} {t : Term} {bs : List Int32} (h : ∀ w ∈ (List.range bs.length).map (fun j => Cond.eq (.elem t (.int (Int32.ofNat j))) (.int (bs.getD j 0))), w.before args s = true) : ∀ j : Nat, j < bs.length → (Cond.eq (.elem t (.int (Int32.ofNat j))) (.int (bs.getD j 0))).before args s = true := fun j hj => h _ (List.mem_map.mpr ⟨j, List.mem_range.mpr hj, rfl⟩)
theorem tp_inst : ∀ c, c < 13 → ∀ r, zc_L[c]? = some r → Cond.instantiable r.1 r.2.2 ∈ lu_ := by
  intro c hc r hr
  have : ∀ c, c < 13 → Cond.instantiable (zc_L.getD c ("", zF_Acts, 0)).1 (zc_L.getD c ("", zF_Acts, 0)).2.2 ∈ lu_ := by decide +kernel
  have h2 := this c hc
  rw [List.getD_eq_getElem?_getD, hr] at h2
  exact h2
theorem tp_nw : ∀ w ∈ nw_L, w ∈ lw_tbl := by decide +kernel
theorem tp_sr : ∀ q ∈ sr_L, Cond.stringRef q.1 q.2.1 q.2.2.1 ∈ lw_tbl := by decide +kernel
theorem tp_ar {s : State} {cA : ClassId} {kA : Class} {comp : ClassId} {ty : FieldType} (h2 : s.vm.classes[cA]? = some kA) (h3 : kA.kind = .array comp ty) : ArrOfT s cA ty := fun n z => ⟨fun k h => (by cases h), kA, h2, comp, h3⟩
def ov_ (b tL tM : Nat) (f : Option Nat) (ts us : List Nat) (q : UInt32) : Option Nat := match q with
  | 0 => some b
  | 20 => some tL
  | 21 => some tM
  | 90 => f
  | 1 => ts[0]?
  | 101 => us[0]?
  | 2 => ts[1]?
  | 102 => us[1]?
  | 3 => ts[2]?
  | 103 => us[2]?
  | 4 => ts[3]?
  | 104 => us[3]?
  | 5 => ts[4]?
  | 105 => us[4]?
  | 6 => ts[5]?
  | 106 => us[5]?
  | 11 => ts[6]?
  | 111 => us[6]?
  | 12 => ts[7]?
  | 112 => us[7]?
  | 13 => ts[8]?
  | 113 => us[8]?
  | 14 => ts[9]?
  | 114 => us[9]?
  | 15 => ts[10]?
  | 115 => us[10]?
  | 16 => ts[11]?
  | 116 => us[11]?
  | _ => none
set_option maxHeartbeats 4000000 in
set_option maxRecDepth 100000 in
theorem tp_wd {s : State} {args : Array Value} {b L : Nat} {xs : Nat → Int32} (hts : ∀ w ∈ lw_tbl, w.before args s = true) (hX : va_X b L xs s s.heap) (hbl : b < s.heap.size) (hgv : (Jvm.Cond.and given_1 narrow_1).before args s = true) :
    ∃ g : cw_G, g.1 + 1 = s.heap.size ∧ g.2.1 0 = some b ∧ g.2.2.2.2.1 = iv_O xs ∧ g.2.2.2.2.2 = iv_N L ∧ wd_ g s s.heap := by
  have hs := flat_of_before _ hgv
  have hlu : ∀ w ∈ lu_, w.before args s = true := fun w hw => hts w (List.mem_filter.mp hw).1
  obtain ⟨B, hB⟩ : ∃ B, B + 1 = s.heap.size := ⟨s.heap.size - 1, by omega⟩
  have hA : ∀ a : Nat, a < s.heap.size → ¬ (fun q : Nat => B < q) a := fun a h => by show ¬ B < a; omega
  have key : ∀ ci : Nat, ∃ (cC : ClassId) (iS : Nat → Nat), ∀ q, zc_L[ci]? = some q → u_Kn s q.1 q.2.1 q.2.2 cC iS := by
    intro ci
    cases hq : zc_L[ci]? with
    | none => exact ⟨0, fun _ => 0, fun q e => by cases e⟩
    | some q =>
      obtain ⟨cC, iS, h⟩ := u_known (C := q.1) (T := q.2.1) (N := q.2.2) (n := q.2.2) hlu (zc_in ci (zc_lt hq) q hq) (hlu _ (tp_inst ci (zc_lt hq) q hq))
      exact ⟨cC, iS, fun q' e => by cases e; exact h⟩
  obtain ⟨dC, hdC⟩ : ∃ dC : Nat → ClassId, ∀ ci, ∃ iS : Nat → Nat, ∀ q, zc_L[ci]? = some q → u_Kn s q.1 q.2.1 q.2.2 (dC ci) iS := ⟨fun ci => (key ci).choose, fun ci => (key ci).choose_spec⟩
  obtain ⟨dI, hdI⟩ : ∃ dI : Nat → Nat → Nat, ∀ ci q, zc_L[ci]? = some q → u_Kn s q.1 q.2.1 q.2.2 (dC ci) (dI ci) := ⟨fun ci => (hdC ci).choose, fun ci => (hdC ci).choose_spec⟩
  obtain ⟨c0, k0, m0, a0, e0, f0⟩ := Cond.arrayClass_spec (hlu _ lb_w.2.2.2.2.1)
  obtain ⟨c1, k1, m1, a1, e1, f1⟩ := Cond.arrayClass_spec (hlu _ lb_w.2.2.2.2.2.1)
  obtain ⟨c2, k2, m2, a2, e2, f2⟩ := Cond.arrayClass_spec (hlu _ lb_w.2.2.2.2.2.2)
  have hAO : (Cond.arrayOver (.object "LastChange$Side")).before args s = true := hts _ (by decide +kernel)
  have hAA : (Cond.arrayOver (.array .int)).before args s = true := hts _ (by decide +kernel)
  obtain ⟨m3, c3, k3, a3, b3, e3, f3, n3⟩ := Cond.arrayOver_spec hAO
  obtain ⟨m4, c4, k4, a4, e4, f4, n4⟩ := mu_specA hAA
  obtain ⟨tL, hvL, hTL⟩ := va_Tof (tm := .static "LastChange$Reader" "LEAST" "[I") (ty := .int) (N := 8) (f := fun j => .int ((iv_g 20).getD j 0)) (A := fun q : Nat => B < q) (by decide) (hs _ (by decide +kernel)) (va_eqt (hs (.eq (.length (.static "LastChange$Reader" "LEAST" "[I")) (.int 8)) (by decide +kernel))) (fun j hj => va_eqt (tp_all (t := .static "LastChange$Reader" "LEAST" "[I") (bs := iv_g 20) (fun w hw => hs w ((by decide +kernel : ∀ w ∈ (List.range (iv_g 20).length).map (fun j => Cond.eq (.elem (.static "LastChange$Reader" "LEAST" "[I") (.int (Int32.ofNat j))) (.int ((iv_g 20).getD j 0))), w ∈ flatC (Jvm.Cond.and given_1 narrow_1)) w hw)) j hj)) hA
  obtain ⟨tM, hvM, hTM⟩ := va_Tof (tm := .static "LastChange$Reader" "MOST" "[I") (ty := .int) (N := 8) (f := fun j => .int ((iv_g 21).getD j 0)) (A := fun q : Nat => B < q) (by decide) (hs _ (by decide +kernel)) (va_eqt (hs (.eq (.length (.static "LastChange$Reader" "MOST" "[I")) (.int 8)) (by decide +kernel))) (fun j hj => va_eqt (tp_all (t := .static "LastChange$Reader" "MOST" "[I") (bs := iv_g 21) (fun w hw => hs w ((by decide +kernel : ∀ w ∈ (List.range (iv_g 21).length).map (fun j => Cond.eq (.elem (.static "LastChange$Reader" "MOST" "[I") (.int (Int32.ofNat j))) (.int ((iv_g 21).getD j 0))), w ∈ flatC (Jvm.Cond.and given_1 narrow_1)) w hw)) j hj)) hA
  have hzF : va_Zq "jdk/internal/util/Preconditions" "SIOOBE_FORMATTER" "Ljava/util/function/BiFunction;" (fun q : Nat => B < q) s s.heap := va_Zqof (hts _ (by decide +kernel)) (hts _ (by decide +kernel)) (hs _ (by decide +kernel)) hA
  obtain ⟨fo, hfo⟩ : ∃ fo : Option Nat, va_Z "jdk/internal/util/Preconditions" "SIOOBE_FORMATTER" "Ljava/util/function/BiFunction;" (va_rf fo) (fun q : Nat => B < q) s s.heap := by
    rcases hzF with h | ⟨t, h⟩
    · exact ⟨none, h⟩
    · exact ⟨some t, h⟩
  obtain ⟨t0, u0, p0, q0, r0, v0, w0⟩ := tp_str (own := "LastChange$Reader") (idx := 91) (bs := iv_g 101) (A := fun q : Nat => B < q) hA (by decide) (hs _ (by decide +kernel)) (hs _ (by decide +kernel)) (hs _ (by decide +kernel)) (hs _ (by decide +kernel)) (tp_all (fun w hw => hs w ((by decide +kernel : ∀ w ∈ (List.range (iv_g 101).length).map (fun j => Cond.eq (.elem (.field (.string "LastChange$Reader" 91) "java/lang/String" "value" "[B") (.int (Int32.ofNat j))) (.int ((iv_g 101).getD j 0))), w ∈ flatC (Jvm.Cond.and given_1 narrow_1)) w hw)))
  obtain ⟨t1, u1, p1, q1, r1, v1, w1⟩ := tp_str (own := "LastChange$Reader") (idx := 125) (bs := iv_g 102) (A := fun q : Nat => B < q) hA (by decide) (hs _ (by decide +kernel)) (hs _ (by decide +kernel)) (hs _ (by decide +kernel)) (hs _ (by decide +kernel)) (tp_all (fun w hw => hs w ((by decide +kernel : ∀ w ∈ (List.range (iv_g 102).length).map (fun j => Cond.eq (.elem (.field (.string "LastChange$Reader" 125) "java/lang/String" "value" "[B") (.int (Int32.ofNat j))) (.int ((iv_g 102).getD j 0))), w ∈ flatC (Jvm.Cond.and given_1 narrow_1)) w hw)))
  obtain ⟨t2, u2, p2, q2, r2, v2, w2⟩ := tp_str (own := "LastChange$Reader") (idx := 110) (bs := iv_g 103) (A := fun q : Nat => B < q) hA (by decide) (hs _ (by decide +kernel)) (hs _ (by decide +kernel)) (hs _ (by decide +kernel)) (hs _ (by decide +kernel)) (tp_all (fun w hw => hs w ((by decide +kernel : ∀ w ∈ (List.range (iv_g 103).length).map (fun j => Cond.eq (.elem (.field (.string "LastChange$Reader" 110) "java/lang/String" "value" "[B") (.int (Int32.ofNat j))) (.int ((iv_g 103).getD j 0))), w ∈ flatC (Jvm.Cond.and given_1 narrow_1)) w hw)))
  obtain ⟨t3, u3, p3, q3, r3, v3, w3⟩ := tp_str (own := "LastChange$Reader") (idx := 130) (bs := iv_g 104) (A := fun q : Nat => B < q) hA (by decide) (hs _ (by decide +kernel)) (hs _ (by decide +kernel)) (hs _ (by decide +kernel)) (hs _ (by decide +kernel)) (tp_all (fun w hw => hs w ((by decide +kernel : ∀ w ∈ (List.range (iv_g 104).length).map (fun j => Cond.eq (.elem (.field (.string "LastChange$Reader" 130) "java/lang/String" "value" "[B") (.int (Int32.ofNat j))) (.int ((iv_g 104).getD j 0))), w ∈ flatC (Jvm.Cond.and given_1 narrow_1)) w hw)))
  obtain ⟨t4, u4, p4, q4, r4, v4, w4⟩ := tp_str (own := "LastChange$Reader") (idx := 140) (bs := iv_g 105) (A := fun q : Nat => B < q) hA (by decide) (hs _ (by decide +kernel)) (hs _ (by decide +kernel)) (hs _ (by decide +kernel)) (hs _ (by decide +kernel)) (tp_all (fun w hw => hs w ((by decide +kernel : ∀ w ∈ (List.range (iv_g 105).length).map (fun j => Cond.eq (.elem (.field (.string "LastChange$Reader" 140) "java/lang/String" "value" "[B") (.int (Int32.ofNat j))) (.int ((iv_g 105).getD j 0))), w ∈ flatC (Jvm.Cond.and given_1 narrow_1)) w hw)))
  obtain ⟨t5, u5, p5, q5, r5, v5, w5⟩ := tp_str (own := "LastChange$Reader") (idx := 123) (bs := iv_g 106) (A := fun q : Nat => B < q) hA (by decide) (hs _ (by decide +kernel)) (hs _ (by decide +kernel)) (hs _ (by decide +kernel)) (hs _ (by decide +kernel)) (tp_all (fun w hw => hs w ((by decide +kernel : ∀ w ∈ (List.range (iv_g 106).length).map (fun j => Cond.eq (.elem (.field (.string "LastChange$Reader" 123) "java/lang/String" "value" "[B") (.int (Int32.ofNat j))) (.int ((iv_g 106).getD j 0))), w ∈ flatC (Jvm.Cond.and given_1 narrow_1)) w hw)))
  obtain ⟨t6, u6, p6, q6, r6, v6, w6⟩ := tp_str (own := "LastChangeModel") (idx := 211) (bs := iv_g 111) (A := fun q : Nat => B < q) hA (by decide) (hs _ (by decide +kernel)) (hs _ (by decide +kernel)) (hs _ (by decide +kernel)) (hs _ (by decide +kernel)) (tp_all (fun w hw => hs w ((by decide +kernel : ∀ w ∈ (List.range (iv_g 111).length).map (fun j => Cond.eq (.elem (.field (.string "LastChangeModel" 211) "java/lang/String" "value" "[B") (.int (Int32.ofNat j))) (.int ((iv_g 111).getD j 0))), w ∈ flatC (Jvm.Cond.and given_1 narrow_1)) w hw)))
  obtain ⟨t7, u7, p7, q7, r7, v7, w7⟩ := tp_str (own := "LastChangeModel") (idx := 193) (bs := iv_g 112) (A := fun q : Nat => B < q) hA (by decide) (hs _ (by decide +kernel)) (hs _ (by decide +kernel)) (hs _ (by decide +kernel)) (hs _ (by decide +kernel)) (tp_all (fun w hw => hs w ((by decide +kernel : ∀ w ∈ (List.range (iv_g 112).length).map (fun j => Cond.eq (.elem (.field (.string "LastChangeModel" 193) "java/lang/String" "value" "[B") (.int (Int32.ofNat j))) (.int ((iv_g 112).getD j 0))), w ∈ flatC (Jvm.Cond.and given_1 narrow_1)) w hw)))
  obtain ⟨t8, u8, p8, q8, r8, v8, w8⟩ := tp_str (own := "LastChangeModel") (idx := 184) (bs := iv_g 113) (A := fun q : Nat => B < q) hA (by decide) (hs _ (by decide +kernel)) (hs _ (by decide +kernel)) (hs _ (by decide +kernel)) (hs _ (by decide +kernel)) (tp_all (fun w hw => hs w ((by decide +kernel : ∀ w ∈ (List.range (iv_g 113).length).map (fun j => Cond.eq (.elem (.field (.string "LastChangeModel" 184) "java/lang/String" "value" "[B") (.int (Int32.ofNat j))) (.int ((iv_g 113).getD j 0))), w ∈ flatC (Jvm.Cond.and given_1 narrow_1)) w hw)))
  obtain ⟨t9, u9, p9, q9, r9, v9, w9⟩ := tp_str (own := "LastChangeModel") (idx := 198) (bs := iv_g 114) (A := fun q : Nat => B < q) hA (by decide) (hs _ (by decide +kernel)) (hs _ (by decide +kernel)) (hs _ (by decide +kernel)) (hs _ (by decide +kernel)) (tp_all (fun w hw => hs w ((by decide +kernel : ∀ w ∈ (List.range (iv_g 114).length).map (fun j => Cond.eq (.elem (.field (.string "LastChangeModel" 198) "java/lang/String" "value" "[B") (.int (Int32.ofNat j))) (.int ((iv_g 114).getD j 0))), w ∈ flatC (Jvm.Cond.and given_1 narrow_1)) w hw)))
  obtain ⟨t10, u10, p10, q10, r10, v10, w10⟩ := tp_str (own := "LastChangeModel") (idx := 200) (bs := iv_g 115) (A := fun q : Nat => B < q) hA (by decide) (hs _ (by decide +kernel)) (hs _ (by decide +kernel)) (hs _ (by decide +kernel)) (hs _ (by decide +kernel)) (tp_all (fun w hw => hs w ((by decide +kernel : ∀ w ∈ (List.range (iv_g 115).length).map (fun j => Cond.eq (.elem (.field (.string "LastChangeModel" 200) "java/lang/String" "value" "[B") (.int (Int32.ofNat j))) (.int ((iv_g 115).getD j 0))), w ∈ flatC (Jvm.Cond.and given_1 narrow_1)) w hw)))
  obtain ⟨t11, u11, p11, q11, r11, v11, w11⟩ := tp_str (own := "LastChangeModel") (idx := 206) (bs := iv_g 116) (A := fun q : Nat => B < q) hA (by decide) (hs _ (by decide +kernel)) (hs _ (by decide +kernel)) (hs _ (by decide +kernel)) (hs _ (by decide +kernel)) (tp_all (fun w hw => hs w ((by decide +kernel : ∀ w ∈ (List.range (iv_g 116).length).map (fun j => Cond.eq (.elem (.field (.string "LastChangeModel" 206) "java/lang/String" "value" "[B") (.int (Int32.ofNat j))) (.int ((iv_g 116).getD j 0))), w ∈ flatC (Jvm.Cond.and given_1 narrow_1)) w hw)))
  refine ⟨(B, ov_ b tL tM fo [t0, t1, t2, t3, t4, t5, t6, t7, t8, t9, t10, t11] [u0, u1, u2, u3, u4, u5, u6, u7, u8, u9, u10, u11], (dC, dI), (fun k => match k with | 0 => c0 | 1 => c1 | 2 => c2 | 3 => c3 | _ => c4), iv_O xs, iv_N L), hB, rfl, rfl, rfl, ?_⟩
  refine ⟨⟨hdI, fun k q hk => ?_⟩, by show B < s.heap.size; omega, fun q hq => ?_, fun q hq => ?_, fun q hq => ?_, ⟨tL, rfl, va_Zof (hts _ (by decide +kernel)) (hts _ (by decide +kernel)) hvL hA⟩, ⟨tM, rfl, va_Zof (hts _ (by decide +kernel)) (hts _ (by decide +kernel)) hvM hA⟩, va_Zof (hts _ (by decide +kernel)) (hts _ (by decide +kernel)) (va_eqi (hs _ (by decide +kernel))) hA, hfo, fun q hq => ?_, vx_Zqof (hts _ (by decide +kernel)) (hts _ (by decide +kernel)) (hs _ (by decide +kernel)) hA, vx_Zqof (hts _ (by decide +kernel)) (hts _ (by decide +kernel)) (hs _ (by decide +kernel)) hA, fun w hw => va_Nw.of (nw_tab w hw) (hts _ (tp_nw w hw)), hAO, ?_, va_Nc.of (hs _ (by decide +kernel)), va_Nc.of (hs _ (by decide +kernel))⟩
  · match k, hk with
    | 0, hk => cases hk; exact ⟨tp_ar e0 f0, a0⟩
    | 1, hk => cases hk; exact ⟨tp_ar e1 f1, a1⟩
    | 2, hk => cases hk; exact ⟨tp_ar e2 f2, a2⟩
    | 3, hk => cases hk; exact ⟨tp_ar e3 f3, k3, m3, e3, f3, a3, n3⟩
    | 4, hk => cases hk; exact ⟨tp_ar e4 f4, n4⟩
  · have hq : q ∈ [0, 20, 21] := List.elem_iff.mp hq
    simp only [List.mem_cons, List.not_mem_nil, or_false] at hq
    rcases hq with rfl | rfl | rfl
    · obtain ⟨scr, h1, h2, h3, h4, h5⟩ := hX
      exact ⟨b, rfl, scr, h1, h2, h3, Nat.le_of_eq h4.symm, by rw [h4]; rfl, fun j hj => h5 j hj, hA b hbl⟩
    · exact ⟨tL, rfl, hTL⟩
    · exact ⟨tM, rfl, hTM⟩
  · have hq : q ∈ [101, 102, 103, 104, 105, 106, 111, 112, 113, 114, 115, 116] := List.elem_iff.mp hq
    simp only [List.mem_cons, List.not_mem_nil, or_false] at hq
    rcases hq with rfl | rfl | rfl | rfl | rfl | rfl | rfl | rfl | rfl | rfl | rfl | rfl
    · exact ⟨u0, rfl, w0⟩
    · exact ⟨u1, rfl, w1⟩
    · exact ⟨u2, rfl, w2⟩
    · exact ⟨u3, rfl, w3⟩
    · exact ⟨u4, rfl, w4⟩
    · exact ⟨u5, rfl, w5⟩
    · exact ⟨u6, rfl, w6⟩
    · exact ⟨u7, rfl, w7⟩
    · exact ⟨u8, rfl, w8⟩
    · exact ⟨u9, rfl, w9⟩
    · exact ⟨u10, rfl, w10⟩
    · exact ⟨u11, rfl, w11⟩
  · have hq : q ∈ [1, 2, 3, 4, 5, 6, 11, 12, 13, 14, 15, 16] := List.elem_iff.mp hq
    simp only [List.mem_cons, List.not_mem_nil, or_false] at hq
    rcases hq with rfl | rfl | rfl | rfl | rfl | rfl | rfl | rfl | rfl | rfl | rfl | rfl
    · exact ⟨t0, u0, rfl, rfl, q0, r0, v0⟩
    · exact ⟨t1, u1, rfl, rfl, q1, r1, v1⟩
    · exact ⟨t2, u2, rfl, rfl, q2, r2, v2⟩
    · exact ⟨t3, u3, rfl, rfl, q3, r3, v3⟩
    · exact ⟨t4, u4, rfl, rfl, q4, r4, v4⟩
    · exact ⟨t5, u5, rfl, rfl, q5, r5, v5⟩
    · exact ⟨t6, u6, rfl, rfl, q6, r6, v6⟩
    · exact ⟨t7, u7, rfl, rfl, q7, r7, v7⟩
    · exact ⟨t8, u8, rfl, rfl, q8, r8, v8⟩
    · exact ⟨t9, u9, rfl, rfl, q9, r9, v9⟩
    · exact ⟨t10, u10, rfl, rfl, q10, r10, v10⟩
    · exact ⟨t11, u11, rfl, rfl, q11, r11, v11⟩
  · simp only [sr_L, List.mem_cons, List.not_mem_nil, or_false] at hq
    rcases hq with rfl | rfl | rfl | rfl | rfl | rfl | rfl | rfl | rfl | rfl | rfl | rfl
    · exact ⟨t0, rfl, vk_R.of (hts _ (tp_sr _ (by decide +kernel))) p0⟩
    · exact ⟨t1, rfl, vk_R.of (hts _ (tp_sr _ (by decide +kernel))) p1⟩
    · exact ⟨t2, rfl, vk_R.of (hts _ (tp_sr _ (by decide +kernel))) p2⟩
    · exact ⟨t3, rfl, vk_R.of (hts _ (tp_sr _ (by decide +kernel))) p3⟩
    · exact ⟨t4, rfl, vk_R.of (hts _ (tp_sr _ (by decide +kernel))) p4⟩
    · exact ⟨t5, rfl, vk_R.of (hts _ (tp_sr _ (by decide +kernel))) p5⟩
    · exact ⟨t6, rfl, vk_R.of (hts _ (tp_sr _ (by decide +kernel))) p6⟩
    · exact ⟨t7, rfl, vk_R.of (hts _ (tp_sr _ (by decide +kernel))) p7⟩
    · exact ⟨t8, rfl, vk_R.of (hts _ (tp_sr _ (by decide +kernel))) p8⟩
    · exact ⟨t9, rfl, vk_R.of (hts _ (tp_sr _ (by decide +kernel))) p9⟩
    · exact ⟨t10, rfl, vk_R.of (hts _ (tp_sr _ (by decide +kernel))) p10⟩
    · exact ⟨t11, rfl, vk_R.of (hts _ (tp_sr _ (by decide +kernel))) p11⟩
  · exact hAA
