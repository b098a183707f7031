/-! ===== from the law's entry to its loop; the pure theorem ===== -/
section CZ
variable {O : UInt32 → Nat → Int32} {L : UInt32 → Nat}
def wm0 : Wd := oAl 13 42 wl11
def wm1 : Wd := wMd wm0 161
theorem lm0 : wm0.1.length = 161 ∧ kd wm0.1 161 = 13 := by decide +kernel
theorem lw11 : wl11.1.length = 160 := by decide +kernel
theorem lm1 : wm1.1.length = 178 := by decide +kernel
theorem mdf1 : MdF wm1.1 := by
  unfold MdF
  decide +kernel
theorem sh_gF : (nu :: (wm1.1 ++ [(102, 1, [])])).map (fun x => (x.1, x.2.1)) = sh_L := by decide +kernel
theorem pt_gF : (nu :: (wm1.1 ++ [(102, 1, [])])).map (fun x => x.2.2) = pt_L := by decide +kernel
theorem sl_m1 : wm1.2.2 ≤ 10000 := by decide +kernel
theorem SH_gF (a : Nat) : SH a = (kd (wm1.1 ++ [(102, 1, [])]) a, zz (wm1.1 ++ [(102, 1, [])]) a) := by
  unfold SH
  rw [← sh_gF, List.getD_eq_getElem?_getD, List.getElem?_map]
  unfold kd zz ob
  rw [List.getD_eq_getElem?_getD]
  cases (nu :: (wm1.1 ++ [(102, 1, [])]))[a]? with
  | none => rfl
  | some x => rfl
theorem PT_gF (a k : Nat) : PT a k = gP (wm1.1 ++ [(102, 1, [])]) a k := by
  unfold PT
  rw [← pt_gF, List.getD_eq_getElem?_getD (l := List.map _ _), List.getElem?_map]
  unfold gP ob
  rw [List.getD_eq_getElem?_getD (l := nu :: _)]
  cases (nu :: (wm1.1 ++ [(102, 1, [])]))[a]? with
  | none => rfl
  | some x => rfl
def St0 : St := (row0, [], (0, fun _ => 0), -1, none, (0, fun _ => 0))
theorem un_00 : un row0 0 = 1 ∧ un row0 1 = 1 := by decide +kernel
theorem WF_row0 : WF row0 := by
  have e := un_00
  refine ⟨by decide +kernel, by decide +kernel, by decide +kernel, ⟨by decide +kernel, by decide +kernel, by decide +kernel, by decide +kernel, by decide +kernel, by decide +kernel, by decide +kernel, fun u h0 h1 => ?_⟩, ⟨by decide +kernel, by decide +kernel, by decide +kernel, by decide +kernel, by decide +kernel, by decide +kernel, by decide +kernel, fun u h0 h1 => ?_⟩⟩
  · have : u = 0 := by omega
    subst this
    decide +kernel
  · have : u = 0 := by omega
    subst this
    decide +kernel
theorem WS_0 : WS St0 := ⟨WF_row0, Nat.zero_le _, (fun τ h => by cases h), ⟨Int.le_refl _, by show (0 : Int) ≤ 500; decide⟩, (fun i a b => by change i < 0 at b; omega), ⟨by show (-1 : Int) ≤ -1; decide, by show (-1 : Int) ≤ 1000; decide⟩, (fun τ h => by cases h), ⟨Int.le_refl _, by show (0 : Int) ≤ 64; decide⟩, (fun i a b => by change i < 0 at b; omega)⟩
theorem TM_0 : TeamAt wm1.2.1 3 row0 0 := by
  have e := un_00
  refine ⟨⟨by decide +kernel, by decide +kernel, by decide +kernel, fun u h0 h1 => ?_⟩, by decide +kernel, by decide +kernel, by decide +kernel, by decide +kernel, fun u h0 h1 => ?_⟩
  · have : u = 0 := by omega
    subst this
    decide +kernel
  · have : u = 0 := by omega
    subst this
    decide +kernel
theorem TM_1 : TeamAt wm1.2.1 10 row0 1 := by
  have e := un_00
  refine ⟨⟨by decide +kernel, by decide +kernel, by decide +kernel, fun u h0 h1 => ?_⟩, by decide +kernel, by decide +kernel, by decide +kernel, by decide +kernel, fun u h0 h1 => ?_⟩
  · have : u = 0 := by omega
    subst this
    decide +kernel
  · have : u = 0 := by omega
    subst this
    decide +kernel
theorem RK_0 : wm1.2.1 2 2 = row0 0 ∧ wm1.2.1 2 3 = row0 1 ∧ wm1.2.1 2 4 = row0 2 := by decide +kernel
theorem AC_0 : wm1.2.1 49 2 = 0 ∧ wm1.2.1 49 1 = 0 ∧ wm1.2.1 32 1 = 0 ∧ wm1.2.1 1 12 = -1 ∧ wm1.2.1 1 11 = 0 ∧ wm1.2.1 158 1 = 0 := by decide +kernel
theorem MD_0 : wm1.2.1 161 8 = 0 ∧ wm1.2.1 161 17 = -1 ∧ wm1.2.1 161 5 = 0 ∧ wm1.2.1 161 41 = 0 := by decide +kernel
theorem CI_0 : CI wm1.2.1 St0 := by
  obtain ⟨a1, a2, a3, a4, a5, a6⟩ := AC_0
  refine ⟨⟨TM_0, TM_1, RK_0⟩, ⟨a1, by rw [a2]; decide, fun i τ h => ?_⟩, ⟨a3, fun i a b => ?_⟩, a4, ⟨a5, fun τ h => by cases h⟩, a6, fun i a b => ?_⟩
  · change ([] : List Rw)[i]? = some τ at h
    rw [List.getElem?_nil] at h
    cases h
  · change i < 0 at b
    omega
  · change i < 0 at b
    omega
theorem iv_TW (n : Nat) (xs : Nat → Int32) : iv_h n xs = TW ([], fun _ _ => 0, 0) (iv_O xs) (iv_N n) := by
  have e : ∀ a, ob [] a = nu := by
    intro a
    cases a with
    | zero => rfl
    | succ a => rw [ob_s]; rfl
  have e1 : (fun (_ _ : Nat) => (0 : Nat)) = fun a k => gP [] a k := by
    funext a k
    unfold gP
    rw [e]
    rfl
  have e2 : (fun (_ : Nat) => ((0 : Nat), (0 : Nat))) = fun a => (kd [] a, zz [] a) := by
    funext a
    unfold kd zz
    rw [e]
    rfl
  unfold iv_h TW
  rw [e1, e2]
  rfl
theorem law_in2 (n : Nat) (xs : Nat → Int32) (w : Wd) (hw : wMd wm0 161 = w) (lm : w.1.length = 178) (mdf : MdF w.1) (shg : ∀ a, SH a = (kd (w.1 ++ [(102, 1, [])]) a, zz (w.1 ++ [(102, 1, [])]) a)) (ptg : ∀ a k, PT a k = gP (w.1 ++ [(102, 1, [])]) a k) (slm : w.2.2 ≤ 10000) (ci0 : CI w.2.1 St0) (md0 : w.2.1 161 8 = 0 ∧ w.2.1 161 17 = -1 ∧ w.2.1 161 5 = 0 ∧ w.2.1 161 41 = 0) : ∃ A s, s ≤ 10001 ∧ D_Law_law 300 (iv_h n xs) 0 = L_Law_law_23 300 (MM A (iv_O xs, iv_N n, fun _ _ => 0, 69, 68, 0, s)) 0 1 161 179 (iI 0) ∧ CI A St0 ∧ MI A St0 := by
  have t1 := i_LC (O := iv_O xs) (L := iv_N n) 299 (by omega)
  have t2 := i_Md0 (w := wm0) (O := iv_O xs) (L := iv_N n) 299 (by omega) 161 (by omega) (by rw [lm0.1]; omega) lm0.2
  obtain ⟨A, x1, x2, x3, x4, x5⟩ := i_Md1 (O := iv_O xs) (L := iv_N n) (s := w.2.2) 299 (by omega) mdf w.2.1
  have t3 : D_Md_init 299 (TW wm0 (iv_O xs) (iv_N n)) 161 = some (.inl none, TW (w.1, A, w.2.2) (iv_O xs) (iv_N n)) := by
    rw [t2, hw]
    exact x1
  have m0 : mm_al (TW ([], fun _ _ => 0, 0) (iv_O xs) (iv_N n)) 12 13 = TW wl0 (iv_O xs) (iv_N n) := al_TW 12 13
  have m1 : mm_al (TW wl11 (iv_O xs) (iv_N n)) 13 42 = TW wm0 (iv_O xs) (iv_N n) := al_TW 13 42
  have m2 : mm_al (TW (w.1, A, w.2.2) (iv_O xs) (iv_N n)) 102 1 = TW (oAl 102 1 (w.1, A, w.2.2)) (iv_O xs) (iv_N n) := al_TW 102 1
  have m3 : TW (oAl 102 1 (w.1, A, w.2.2)) (iv_O xs) (iv_N n) = MM (zA A 179) (iv_O xs, iv_N n, fun _ _ => 0, 69, 68, 0, w.2.2 + 1) := by
    have e1 : (fun a k => gP (w.1 ++ [(102, 1, [])]) a k) = fun a k => if a = 67 then (if k = 5 then 69 else if k = 6 then 68 else PT a k) else PT a k := by
      funext a k
      rw [← ptg]
      by_cases c : a = 67
      · subst c
        rw [if_pos rfl]
        by_cases c5 : k = 5
        · subst c5
          rfl
        · rw [if_neg c5]
          by_cases c6 : k = 6
          · subst c6
            rfl
          · rw [if_neg c6]
      · rw [if_neg c]
    have e2 : (fun a => (kd (w.1 ++ [(102, 1, [])]) a, zz (w.1 ++ [(102, 1, [])]) a)) = SH := by
      funext a
      rw [shg]
    have e3 : (w.1 ++ [(102, 1, [])]).length = 179 := by rw [List.length_append, lm]; rfl
    have e4 : zA A (w.1.length + 1) = zA A 179 := by rw [lm]
    show (((fun (p k : Nat) => iI (zA A (w.1.length + 1) p k)), (fun _ _ => 0), (fun a k => gP (w.1 ++ [(102, 1, [])]) a k), (fun a => (kd (w.1 ++ [(102, 1, [])]) a, zz (w.1 ++ [(102, 1, [])]) a)), iv_O xs, iv_N n, (w.1 ++ [(102, 1, [])]).length, 0, w.2.2 + 1) : mm_M) = _
    rw [e1, e2, e3, e4]
    rfl
  have zp : ∀ p, p ≠ 179 → zA A 179 p = A p := by
    intro p hp
    funext k
    exact if_neg hp
  refine ⟨zA A 179, w.2.2 + 1, by omega, ?_, CI_m ci0 (fun p hp => by rw [zp p (by omega), x5 p (by omega) (by omega) (by omega)]), ?_⟩
  · rw [iv_TW, eD_Law_law, n_TW]
    have c0 : ([] : Gt).length + 1 = 1 := rfl
    have c1 : Nat.blt 0 300 = true := by decide
    have c2 : (300 : Nat) - 1 = 299 := rfl
    have c3 : Nat.blt 0 1 = true := by decide
    have c4 : Nat.blt 0 161 = true := by decide
    have c5 : (w.1, A, w.2.2).1.length = 178 := lm
    simp only [x_TW, bq_0, m0, c0, c1, c2, c3, t1, cV_ok, m1, n_TW, lw11, Nat.reduceAdd, c4, t3, c5, tN_1, ng_1, bk_1, m2, m3, Bool.not_false, Bool.and_self, cond_true]
    rfl
  · obtain ⟨q1, q2, q3, q4⟩ := md0
    have z161 := zp 161 (by decide)
    have z162 := zp 162 (by decide)
    refine ⟨fun i a b => ?_, ⟨?_, fun i τ h => ?_⟩, ⟨?_, fun i a b => ?_⟩, ?_, ⟨?_, fun τ h => by cases h⟩, ?_, fun i a b => ?_⟩
    · rw [z162]; exact x2 i a b
    · rw [z161]; exact x3
    · change ([] : List Rw)[i]? = some τ at h
      rw [List.getElem?_nil] at h
      cases h
    · rw [z161, x4 8 (by decide)]; exact q1
    · change i < 0 at b
      omega
    · rw [z161, x4 17 (by decide)]; exact q2
    · rw [z161, x4 5 (by decide)]; exact q3
    · rw [z161, x4 41 (by decide)]; exact q4
    · change i < 0 at b
      omega
theorem law_in (n : Nat) (xs : Nat → Int32) : ∃ A s, s ≤ 10001 ∧ D_Law_law 300 (iv_h n xs) 0 = L_Law_law_23 300 (MM A (iv_O xs, iv_N n, fun _ _ => 0, 69, 68, 0, s)) 0 1 161 179 (iI 0) ∧ CI A St0 ∧ MI A St0 := law_in2 n xs wm1 (by unfold wm1; rfl) lm1 mdf1 SH_gF PT_gF sl_m1 CI_0 MD_0
theorem law_pure (n : Nat) (xs : Nat → Int32) (hn : n ≤ 3584) : ∃ hE : mm_M, am_X mt_T (300, 273, 0, [(0, .float 0)], [], iv_h n xs) = some (.inl (some (.int 1)), hE) ∧ mm_n hE + mm_x hE ≤ 601024 ∧ mm_s hE ≤ 7293034 := by
  obtain ⟨A, s, h0, h1, h2, h3⟩ := law_in n xs
  have eL0 : eL (iv_O xs, iv_N n, fun _ _ => 0, 69, 68, 0, s) 0 = n := rfl
  obtain ⟨A', E', y1, y2, y3⟩ := law_loop 300 (by omega) 512 0 A (iv_O xs, iv_N n, fun _ _ => 0, 69, 68, 0, s) St0 ⟨xs, n, rfl, rfl⟩ WS_0 h2 h3 (by decide) (by decide) (by rw [eL0]; omega) (by rw [eL0]; omega)
  have y2' : eX E' ≤ 0 + 512 := y2
  have y3' : eS E' ≤ s + 6 * 512 := y3
  refine ⟨MM A' E', h1.trans y1, ?_, ?_⟩
  · show 179 + eX E' ≤ 601024
    omega
  · show eS E' ≤ 7293034
    omega
end CZ
