/-! ===== throwing and catching ===== -/
/-- a handler as the machine has it and as the abstract one: the same range, a store at its place, a class that is named -/
def ht_ (z : ms_T) (q : Nat × Nat × Nat × Nat × Nat) (w : Nat × Nat × Nat × Nat) : Prop :=
  w.1 = q.1 ∧ w.2.1 = q.2.1 ∧ w.2.2.2 ≠ 0 ∧ Cond.classLink z.1.cls w.2.2.2 (xn_ q.2.2.2.1) ∈ lu_ ∧ Cond.castable (xn_ q.2.2.2.1) (xn_ q.2.2.2.1) ∈ nw_L ∧ q.2.2.2.2 < z.2.2.1 ∧ ((∃ k : Fin 4, (k : Nat) = q.2.2.2.2 ∧ decode z.2.1 w.2.2.1 = .ok (.astore_n k, 1) ∧ q.2.2.1 = w.2.2.1 + 1) ∨ (decode z.2.1 w.2.2.1 = .ok (.astore q.2.2.2.2, 2) ∧ q.2.2.1 = w.2.2.1 + 2))
/-- two lists of handlers, place by place -/
def hl_ (z : ms_T) : List (Nat × Nat × Nat × Nat × Nat) → List (Nat × Nat × Nat × Nat) → Prop
  | [], [] => True
  | q :: a, w :: b => ht_ z q w ∧ hl_ z a b
  | _, _ => False
theorem xn_ne {g : cw_G} {s : State} {x y : Nat} (hwd : wd_ g s s.heap) (h : (Nat.beq x 1 == Nat.beq y 1) = false) : va_Nc (xn_ x) (xn_ y) s := by
  have h16 := hwd.2.2.2.2.2.2.2.2.2.2.2.2.2.2.2.1
  have h17 := hwd.2.2.2.2.2.2.2.2.2.2.2.2.2.2.2.2
  by_cases hx : x = 1
  · subst hx
    have hy : y ≠ 1 := by
      intro e
      subst e
      cases h
    have e : xn_ y = "java/util/NoSuchElementException" := by
      unfold xn_
      split
      · exact absurd rfl hy
      · rfl
    rw [e]
    exact h16
  · have hy : y = 1 := by
      by_cases hy : y = 1
      · exact hy
      · rw [nb_f.mpr hx, nb_f.mpr hy] at h
        cases h
    subst hy
    have e : xn_ x = "java/util/NoSuchElementException" := by
      unfold xn_
      split
      · exact absurd rfl hx
      · rfl
    rw [e]
    exact h17
theorem xn_eq {x y : Nat} (h : (Nat.beq x 1 == Nat.beq y 1) = true) : xn_ x = xn_ y := by
  have key : ∀ z : Nat, z ≠ 1 → xn_ z = "java/util/NoSuchElementException" := by
    intro z hz
    unfold xn_
    split
    · exact absurd rfl hz
    · rfl
  by_cases hx : x = 1
  · by_cases hy : y = 1
    · rw [hx, hy]
    · rw [hx, nb_f.mpr hy] at h
      cases h
  · by_cases hy : y = 1
    · rw [hy, nb_f.mpr hx] at h
      cases h
    · rw [key x hx, key y hy]
section EXC
variable {Z : Nat → am_T × ms_T} {d j pc : Nat} {lv : lo_L} {h : mm_M} {r : am_R} {x : Nat}
/-- what goes by one handler or none -/
theorem sx_go {f : am_C → Option am_R} (hf : ∀ c r, f c = some r → Snd Z c r) : ∀ (hs : List (Nat × Nat × Nat × Nat × Nat)) (raw pre : List (Nat × Nat × Nat × Nat)), hl_ (Z j).2 hs raw → pre ++ raw = (Z j).2.2.2.2.2.1 →
    (∀ {g : cw_G} {s : State} {args : Array Value}, wd_ g s s.heap → (∀ w ∈ lu_, w.before args s = true) → ∀ w ∈ pre, (¬ (w.1 ≤ pc ∧ pc < w.2.1)) ∨ (w.2.2.2 ≠ 0 ∧ ∃ nm : String, (Cond.classLink (Z j).2.1.cls w.2.2.2 nm).before args s = true ∧ va_Nc (xn_ x) nm s)) →
    am_hv f d j pc lv hs x h = some r → SndX Z d j pc lv h x r
  | [], [], pre, _, he, hp, e => by
    cases e
    refine ⟨⟨Nat.le_refl _, Nat.le_refl _⟩, fun g p l e R s m args below meth cd F Q qq H locs cells slots ls V q9 ce rest c1 c2 c3 => ?_⟩
    obtain ⟨Qc, XC, free, hQ, hX, hfr⟩ := qq.2 x rfl
    subst hQ
    have hc := ca_le (r := (.inr x, h)) ⟨Nat.le_refl _, Nat.le_refl _⟩ V
    refine vx_outP F.2.2.2.1 F.2.2.2.2.2.1 (fun z hz => ?_) c1 c2 c3 (fun t ht ha => hX t ha (by rw [ht]; exact V.1) (V.2.1.F ht)) (fun z hz => hfr _ (V.2.1.2.2 z hz)) hc.1 hc.2
    rw [F.2.2.2.2.2.2.1, ← he, List.append_nil] at hz
    obtain ⟨w, hw, rfl⟩ := List.mem_map.mp hz
    rcases hp F.2.2.2.2.2.2.2.2.2.2.2.2 F.2.2.2.2.2.2.2.2.2.2.2.1 w hw with a | a
    · left
      show (decide (w.1 ≤ pc) && decide (pc < w.2.1)) = false
      by_cases b1 : w.1 ≤ pc
      · have b2 : ¬ pc < w.2.1 := fun b2 => a ⟨b1, b2⟩
        simp [b2]
      · simp [b1]
    · exact Or.inr a
  | q :: hs, w :: raw, pre, hl, he, hp, e => by
    obtain ⟨ht, hl⟩ := hl
    unfold am_hv at e
    cases hb : ((Nat.ble q.1 pc && Nat.blt pc q.2.1) && (Nat.beq x 1 == Nat.beq q.2.2.2.1 1)) with
    | false =>
      rw [hb] at e
      refine sx_go hf hs raw (pre ++ [w]) hl (by rw [List.append_assoc]; exact he) (fun hwd hts z hz => ?_) e
      rcases List.mem_append.mp hz with hz | hz
      · exact hp hwd hts z hz
      · rw [List.mem_singleton.mp hz]
        by_cases b1 : w.1 ≤ pc ∧ pc < w.2.1
        · right
          have hb2 : (Nat.beq x 1 == Nat.beq q.2.2.2.1 1) = false := by
            rw [ht.1, ht.2.1] at b1
            have n1 : Nat.ble q.1 pc = true := Nat.ble_eq.mpr b1.1
            have n2 : Nat.blt pc q.2.1 = true := Nat.ble_eq.mpr b1.2
            rw [n1, n2] at hb
            exact hb
          exact ⟨ht.2.2.1, _, hts _ ht.2.2.2.1, xn_ne hwd hb2⟩
        · exact Or.inl b1
    | true =>
      rw [hb] at e
      have hS := hf _ _ e
      simp only [Bool.and_eq_true] at hb
      obtain ⟨⟨b1, b2⟩, b3⟩ := hb
      refine ⟨hS.1, fun g p l e R s m args below meth cd F Q qq H locs cells slots ls V q9 ce rest c1 c2 c3 => ?_⟩
      have hwd := F.2.2.2.2.2.2.2.2.2.2.2.2
      have hts := F.2.2.2.2.2.2.2.2.2.2.2.1
      obtain ⟨t1, t2, t3, t4, t5, t6, t7⟩ := ht
      rw [xn_eq b3] at c3
      have hcv : cd.exceptionTable.toList = (tableOf pre) ++ (⟨w.1, w.2.1, w.2.2.1, w.2.2.2⟩ : ExceptionTableEntry) :: tableOf raw := by
        rw [F.2.2.2.2.2.2.1, ← he]
        show List.map _ _ = List.map _ _ ++ _ :: List.map _ _
        rw [List.map_append, List.map_cons]
      have hnot : ∀ z ∈ lo_v g (lo_del lv q.2.2.2.2), z ∈ ((q.2.2.2.2, Value.ref q9) :: (lo_v g lv).filter (fun y => !(y.1 == q.2.2.2.2) && !(y.1 + 1 == q.2.2.2.2 && y.2.category == 2))) := by
        intro z hz
        obtain ⟨z0, hz0, rfl⟩ := List.mem_map.mp hz
        obtain ⟨m1, m2⟩ := List.mem_filter.mp hz0
        simp only [Bool.and_eq_true, Bool.not_eq_true', nb_f, Bool.and_eq_false_iff] at m2
        refine List.mem_cons_of_mem _ (List.mem_filter.mpr ⟨List.mem_map.mpr ⟨z0, m1, rfl⟩, ?_⟩)
        simp only [cv_cat]
        rcases m2.2 with m3 | m3
        · simp [m2.1, m3]
        · simp [m2.1, m3]
      refine vx_catch (E := xn_ q.2.2.2.1) (name := xn_ q.2.2.2.1) F.2.2.2.1 (tableOf pre) ⟨w.1, w.2.1, w.2.2.1, w.2.2.2⟩ (tableOf raw) hcv (fun z hz => ?_) ?_ t3 (hts _ t4) (va_Nw.use rfl (hwd.2.2.2.2.2.2.2.2.2.2.2.2.1 _ t5)) c1 c2 c3 ?_
      · obtain ⟨w', hw', rfl⟩ := List.mem_map.mp hz
        have := hp hwd hts w' hw'
        rw [xn_eq b3] at this
        rcases this with a | a
        · left
          show (decide (w'.1 ≤ pc) && decide (pc < w'.2.1)) = false
          by_cases b1 : w'.1 ≤ pc
          · have b2 : ¬ pc < w'.2.1 := fun b2 => a ⟨b1, b2⟩
            simp [b2]
          · simp [b1]
        · exact Or.inr a
      · show (decide (w.1 ≤ pc) && decide (pc < w.2.1)) = true
        rw [t1, t2]
        have n1 : q.1 ≤ pc := Nat.ble_eq.mp b1
        have n2 : pc < q.2.1 := Nat.ble_eq.mp b2
        simp [n1, n2]
      · have go : ∀ (n : Nat), q.2.2.1 = w.2.2.1 + n → ∀ ls' : Array Slot, lv_has ls' (Z j).2.2.2.1 ((q.2.2.2.2, Value.ref q9) :: (lo_v g lv).filter (fun y => !(y.1 == q.2.2.2.2) && !(y.1 + 1 == q.2.2.2.2 && y.2.category == 2))) → W p l e R s m args below meth cd H locs cells slots Q (F0 m (w.2.2.1 + n) ls' []) := by
          intro n hn ls' hl'
          have := hS.2 g p l e R s m args below meth cd F Q qq H locs cells slots ls' ⟨V.1, V.2.1, ⟨hl'.1, hl'.2.1, fun z hz => hl'.2.2 z (hnot z hz)⟩, V.2.2.2⟩
          have this : W p l e R s m args below meth cd H locs cells slots Q (F0 m q.2.2.1 ls' []) := this
          rw [hn] at this
          exact this
        rcases t7 with ⟨k, u1, u2, u3⟩ | ⟨u2, u3⟩
        · exact lv_astore_n F.1 F.2.1 u2 u1 V.2.2.1 t6 rfl (go 1 u3)
        · exact lv_astore F.1 F.2.1 u2 V.2.2.1 t6 rfl (go 2 u3)
/-- what a handler's list says of a method -/
theorem sx_hw {f : am_C → Option am_R} (hf : ∀ c r, f c = some r → Snd Z c r) (hl : hl_ (Z j).2 (Z j).1.2.2.2.1 (Z j).2.2.2.2.2.1) (e : am_hw f ((Z j).1.2.2.2.1, d, j, pc, lv) x h = some r) : SndX Z d j pc lv h x r :=
  sx_go hf _ _ [] hl rfl (fun _ _ w hw => by cases hw) e
theorem nw_tab : ∀ w ∈ nw_L, w.onTables = true := by decide +kernel
theorem th_1 : (∀ w ∈ (vx_at0 "LastChange" 106 "java/lang/IllegalArgumentException" ["java/lang/RuntimeException", "java/lang/Exception"]).filter goodWord, w ∈ lu_) ∧ (∀ w ∈ (vx_at0 "LastChange" 106 "java/lang/IllegalArgumentException" ["java/lang/RuntimeException", "java/lang/Exception"]).filter (fun w => !goodWord w), w ∈ nw_L) ∧ (∀ w ∈ Cond.classLink "LastChange" 104 "java/lang/IllegalArgumentException" :: Cond.initialized "java/lang/IllegalArgumentException" :: vx_at0 "LastChange" 106 "java/lang/IllegalArgumentException" ["java/lang/RuntimeException", "java/lang/Exception"], vx_ot w = true) ∧ Cond.classLink "LastChange" 104 "java/lang/IllegalArgumentException" ∈ lu_ ∧ Cond.initialized "java/lang/IllegalArgumentException" ∈ lu_ := by decide +kernel
theorem th_2 : (∀ w ∈ (vx_at0 "LastChange" 139 "java/util/NoSuchElementException" ["java/lang/RuntimeException", "java/lang/Exception"]).filter goodWord, w ∈ lu_) ∧ (∀ w ∈ (vx_at0 "LastChange" 139 "java/util/NoSuchElementException" ["java/lang/RuntimeException", "java/lang/Exception"]).filter (fun w => !goodWord w), w ∈ nw_L) ∧ (∀ w ∈ Cond.classLink "LastChange" 137 "java/util/NoSuchElementException" :: Cond.initialized "java/util/NoSuchElementException" :: vx_at0 "LastChange" 139 "java/util/NoSuchElementException" ["java/lang/RuntimeException", "java/lang/Exception"], vx_ot w = true) ∧ Cond.classLink "LastChange" 137 "java/util/NoSuchElementException" ∈ lu_ ∧ Cond.initialized "java/util/NoSuchElementException" ∈ lu_ := by decide +kernel
theorem hr_th {g : cw_G} {H H' : Heap} (hr : hr_ g h H) (ho : ∀ q, q < H.size → H'[q]? = H[q]?) : hr_ g (mm_th h) H' :=
  ⟨fun b => hp_new (hr.1 b) rfl rfl rfl rfl ho, hr.2.1, fun e => absurd e (Nat.succ_ne_zero _), hr.2.2.2.1, hr.2.2.2.2⟩
/-- new X(), thrown at once -/
theorem so_throw {st : List Value} {ik ic : Nat} {cls : String} (hcl : xn_ x = cls) (hown : (Z j).2.1.cls = "LastChange") (hh0 : (Z j).2.2.2.2.2.1 = []) (hfit : Bundle.fit cls = true)
    (hth : (∀ w ∈ (vx_at0 "LastChange" ic cls ["java/lang/RuntimeException", "java/lang/Exception"]).filter goodWord, w ∈ lu_) ∧ (∀ w ∈ (vx_at0 "LastChange" ic cls ["java/lang/RuntimeException", "java/lang/Exception"]).filter (fun w => !goodWord w), w ∈ nw_L) ∧ (∀ w ∈ Cond.classLink "LastChange" ik cls :: Cond.initialized cls :: vx_at0 "LastChange" ic cls ["java/lang/RuntimeException", "java/lang/Exception"], vx_ot w = true) ∧ Cond.classLink "LastChange" ik cls ∈ lu_ ∧ Cond.initialized cls ∈ lu_)
    (d0 : decode (Z j).2.2.1 pc = .ok (.new ik, 3)) (d3 : decode (Z j).2.2.1 (pc + 3) = .ok (.dup, 1)) (d4 : decode (Z j).2.2.1 (pc + 4) = .ok (.invokespecial ic, 3)) (d7 : decode (Z j).2.2.1 (pc + 7) = .ok (.athrow, 1)) (h10 : 10 ≤ d) (hst : st.length ≤ 10) : Snd Z (d, j, pc, lv, st, h) (.inr x, mm_th h) := by
  subst hcl
  refine ⟨⟨by show mm_n h + mm_x h ≤ mm_n h + (mm_x h + 1); omega, by show mm_s h ≤ mm_s h + 6; omega⟩, fun g p l e R s m args below meth cd F Q qq H locs cells slots ls V => ?_⟩
  obtain ⟨Qc, XC, free, hQ, hX, hfr⟩ := qq.2 x rfl
  subst hQ
  have hwd := F.2.2.2.2.2.2.2.2.2.2.2.2
  have hts := F.2.2.2.2.2.2.2.2.2.2.2.1
  have hfr1 := F.2.2.2.2.2.2.2.2.2.1
  have hlo := F.2.2.2.2.2.2.2.2.2.2.1
  have h20 := st_10 (g := g) hst
  have v3 : cells + (mm_n h + (mm_x h + 1)) ≤ R.cells + (mm_n h + mm_x h) := V.2.2.2.1
  have v4 : slots + (mm_s h + 6) ≤ R.slots + mm_s h := V.2.2.2.2
  obtain ⟨q1, q2, q3, q4, q5⟩ := hth
  have hnw := hwd.2.2.2.2.2.2.2.2.2.2.2.2.1
  have hat := vx_hat (args := args) (s := s) (fun w hw => hts w (q1 w hw)) q2 (fun w hw => va_Nw.use (nw_tab w hw) (hnw w hw))
  refine vx_throw0 (own := "LastChange") (names := ["java/lang/RuntimeException", "java/lang/Exception"]) (A := aa_ g) F.1 F.2.1 F.2.2.2.2.2.2.2.2.1 (hown ▸ F.2.2.2.1) hfit (by decide +kernel) (hts _ q4) (hts _ q5) hat q3 hwd.2.2.2.2.2.2.2.2.2.2.1 hwd.2.2.2.2.2.2.2.2.2.2.2.1 V.2.1 (V.2.2.1.1.trans F.2.2.1.symm) d0 d3 d4 d7 (fun z hz => ?_) (by show 2 + 3 < R.frames; omega) (by show ((st.map (cv_ g)).map fun v => v.category).sum + (13 * (2 + 1) + 42) ≤ R.locals; omega) (by omega) (by omega) F.2.2.2.2.2.1 (fun t ha hz ho => hX t ha (hr_th V.1 ho) ⟨Nat.le_trans V.2.1.1 hz, fun q z1 z2 => (ho q (Nat.lt_of_lt_of_le z1 V.2.1.1)).trans (V.2.1.2.1 q z1 z2)⟩) (fun z hz => hfr _ (V.2.1.2.2 z hz)) (by omega) (by omega)
  rw [F.2.2.2.2.2.2.1, hh0] at hz
  cases hz
end EXC
