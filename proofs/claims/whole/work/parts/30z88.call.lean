/-! ===== calls, throws, handlers ===== -/
theorem aw_moved {u U : State} (hvm : u.vm.Alike U.vm) (h : aw_ u) : aw_ U := by
  have h2 : (Cond.arrayOver (.array .int)).before #[] (u.setVm U.vm) = true := by rw [Cond.arrayOver_setVmC hvm]; exact h
  unfold aw_
  simp only [Cond.before, Cond.holds, Cond.value, State.vm_setVm] at h2 ⊢
  exact h2
theorem nw_move {s U : State} (hW : s.WarmedH U.vm) (h : ∀ w ∈ nw_L, va_Nw w s) : ∀ w ∈ nw_L, va_Nw w U := by
  intro w hw
  have hz := h w hw
  simp only [nw_L, List.mem_cons, List.not_mem_nil, or_false] at hw
  rcases hw with rfl | rfl | rfl | rfl | rfl | rfl | rfl | rfl | rfl | rfl | rfl | rfl
  · exact va_Nw.warmM hW hz
  · exact va_Nw.warmM hW hz
  · exact va_Nw.warmM hW hz
  · exact va_Nw.warmM hW hz
  · exact va_Nw.warmM hW hz
  · exact va_Nw.warmM hW hz
  · exact va_Nw.warmF hW hz
  · exact va_Nw.warmC hW hz
  · exact va_Nw.warmC hW hz
  · exact va_Nw.warmD hW hz
  · exact va_Nw.warmD hW hz
  · exact va_Nw.warmD hW hz
theorem wd_move {g : cw_G} {s U : State} (h : wd_ g s s.heap) (hW : s.WarmedH U.vm) (hz : s.heap.size ≤ U.heap.size) (hq : ∀ a : Nat, a < s.heap.size → ¬ aa_ g a → U.heap[a]? = s.heap[a]?) : wd_ g U U.heap := by
  obtain ⟨h1, h2, h3, h4, h5, ⟨t6, e6, h6⟩, ⟨t7, e7, h7⟩, h8, h9, h10, h11, h12, h13, h14, h15, h16, h17⟩ := h
  have hv := hW.alike
  refine ⟨va_K.moved hv h1, Nat.lt_of_lt_of_le h2 hz, fun q hq' => ?_, fun q hq' => ?_, fun q hq' => ?_, ⟨t6, e6, (h6.moved hv).kept hq⟩, ⟨t7, e7, (h7.moved hv).kept hq⟩, (h8.moved hv).kept hq, (h9.moved hv).kept hq, fun q hq' => ?_, (h11.moved hv).kept hq, (h12.moved hv).kept hq, nw_move hW h13, h14.moved hv, aw_moved hv h15, h16.moved hv, h17.moved hv⟩
  · obtain ⟨t, e, b⟩ := h3 q hq'
    exact ⟨t, e, (b.moved hv).kept hq⟩
  · obtain ⟨t, e, b⟩ := h4 q hq'
    exact ⟨t, e, (b.moved hv).kept hq⟩
  · obtain ⟨t, u, e1, e2, b1, b2, b3⟩ := h5 q hq'
    exact ⟨t, u, e1, e2, (b1.moved hv).kept hq, (b2.moved hv).kept hq, (b3.moved hv).kept hq⟩
  · obtain ⟨t, e, b⟩ := h10 q hq'
    exact ⟨t, e, b.warm hW⟩
theorem lg_len (vs : List Value) : (lg_sl vs).length = (vs.map fun v => v.category).sum := by
  induction vs with
  | nil => rfl
  | cons v vs ih =>
    simp only [lg_sl, List.flatMap_cons, List.length_append, List.map_cons, List.sum_cons] at ih ⊢
    rw [ih]
    rcases lv_cat v with e | e <;> simp [e]
/-- the contract that a configuration's result gives -/
def cm_P (g : cw_G) (Av : List Value) (h : mm_M) : Array Value → State → Prop := fun v U => v = (Av.map (cv_ g)).toArray ∧ hr_ g h U.heap ∧ wd_ g U U.heap
def cm_Q (g : cw_G) (r : am_R) : Array Value → State → Outcome → State → Prop := fun _ st o t => (∃ v, r.1 = .inl v ∧ o = .returned (v.map (cv_ g)) ∧ hr_ g r.2 t.heap) ∧ va_F (aa_ g) st t
def cm_X (g : cw_G) (r : am_R) : String → State → State → Prop := fun E st t => ∃ x, r.1 = .inr x ∧ E = xn_ x ∧ hr_ g r.2 t.heap ∧ va_F (aa_ g) st t
def cm_w (z : ms_T) : List Cond := (if z.2.2.2.2.2 = true then Cond.codeWith z.1 z.2.1 z.2.2.1 z.2.2.2.1 z.2.2.2.2.1 else Cond.code z.1 z.2.1 z.2.2.1 z.2.2.2.1) :: lu_
def cm_R (d : Nat) (h : mm_M) (r : am_R) : Room := { frames := d, cells := tt_ r.2 - tt_ h, slots := mm_s r.2 - mm_s h, locals := 100 * d }
section CALL
variable {Z : Nat → am_T × ms_T}
theorem cm_body {g : cw_G} {l : Launch} {y d : Nat} {Av : List Value} {h : mm_M} {r : am_R} (hl : l.stackTraces = false) (hS : Snd Z (d, y, 0, lv_args 0 Av, [], h) r) (hA : (Av.map fun v => v.category).sum ≤ (Z y).2.2.2.1)
    {p : Program} {e : Env} {s : State} {m : MethodId} {args : Array Value} {below : List Frame} {meth : Method} {c : Code} {s₁ : State} (B : BodyLoose p l (Z y).2.1 (headSpec (cm_w (Z y).2) (cm_R d h r)) (Z y).2.2.1 (Z y).2.2.2.1 (Z y).2.2.2.2.1 e s m args below meth c s₁) (hml : c.maxLocals = (Z y).2.2.2.1) (htb : c.exceptionTable.toList = tableOf (Z y).2.2.2.2.2.1) (hv : cm_P g Av h args s) :
    W p l e (headSpec (cm_w (Z y).2) (cm_R d h r)).room s m args below meth c s.heap [] 0 0 (vx_MQ below (cm_Q g r) (cm_X g r) args s (tt_ r.2 - tt_ h) (mm_s r.2 - mm_s h) (fun q => g.1 < q)) (entryFrame m args (Z y).2.2.2.1) := by
  obtain ⟨rfl, hhr, hwd⟩ := hv
  have hts0 := atoms_spec (ws := cm_w (Z y).2) B.pre
  have hts : ∀ w ∈ lu_, w.before (Av.map (cv_ g)).toArray s = true := fun w hw => hts0 w (List.mem_cons_of_mem _ hw)
  have t1 : tt_ h ≤ tt_ r.2 := hS.1.1
  have t2 : mm_s h ≤ mm_s r.2 := hS.1.2
  have F : fx_ Z g p l (cm_R d h r) s m (Av.map (cv_ g)).toArray meth c y d := ⟨B.exec, B.bytes, hml, findClass_of_methodNamed B.named, B.returns, B.notSynchronized, htb, fun hn => (name_of_methodNamed B.named B.method).1.trans hn, hl, Nat.le_refl _, Nat.le_refl _, hts, hwd⟩
  rw [lg_entry_eq]
  refine hS.2 g p l e (cm_R d h r) s m _ below meth c F _ ⟨?_, ?_⟩ s.heap [] 0 0 _ ⟨hhr, va_S.rf, ?_, ?_, ?_⟩
  · intro v pc ls H locs cells slots hrv hrt hr hSS c1 c2
    refine vx_ret (W.widen (k := tt_ r.2 - tt_ h) (n := mm_s r.2 - mm_s h) c1 c2 ?_)
    match v, hrt with
    | none, hrt => exact W.vret B.exec B.bytes (B.returns.trans hrt.2) (fun t ht hW => ⟨⟨none, hrv, rfl, by rw [ht]; exact hr⟩, hSS.F ht⟩) hSS.2.2 hrt.1 B.notSynchronized
    | some (.int x), hrt =>
      obtain ⟨a1, ty, a2, a3⟩ := hrt
      exact W.zret B.exec B.bytes (B.returns.trans a2) a3 (fun t ht hW => ⟨⟨some (.int x), hrv, rfl, by rw [ht]; exact hr⟩, hSS.F ht⟩) hSS.2.2 a1 B.notSynchronized
    | some (.long x), hrt => exact W.lret B.exec B.bytes (B.returns.trans hrt.2) (fun t ht hW => ⟨⟨some (.long x), hrv, rfl, by rw [ht]; exact hr⟩, hSS.F ht⟩) hSS.2.2 hrt.1 B.notSynchronized
    | some (.ref x), hrt =>
      obtain ⟨a1, rt, a2, a3⟩ := hrt
      refine W.aret (v := cv_ g (.ref x)) B.exec B.bytes (B.returns.trans a2) a3 (cv_r g (Or.inl ⟨x, rfl⟩)) (fun t ht hW => ⟨⟨some (.ref x), hrv, rfl, by rw [ht]; exact hr⟩, hSS.F ht⟩) hSS.2.2 a1 B.notSynchronized
  · intro x hx
    exact ⟨cm_Q g r, cm_X g r, fun q => g.1 < q, rfl, fun t _ hr hF => ⟨x, hx, rfl, hr, hF⟩, fun q hq => hq⟩
  · have := lv_entry (Av.map (cv_ g)) (n := (Z y).2.2.2.1) (by rw [lg_len, cv_sum]; exact hA)
    rw [lo_args] at this
    exact this
  · show 0 + tt_ r.2 ≤ (tt_ r.2 - tt_ h) + tt_ h
    omega
  · show 0 + mm_s r.2 ≤ (mm_s r.2 - mm_s h) + mm_s h
    omega
theorem cm_met {g : cw_G} {l : Launch} {y d : Nat} {Av : List Value} {h : mm_M} {r : am_R} (hl : l.stackTraces = false) (hS : Snd Z (d, y, 0, lv_args 0 Av, [], h) r) (hA : (Av.map fun v => v.category).sum ≤ (Z y).2.2.2.1) (hy : plainName (Z y).2.1.cls = true) (hfl : (Z y).2.2.2.2.2.2 = false → (Z y).2.2.2.2.2.1 = []) :
    vx_Met l (Z y).2.1 (cm_w (Z y).2) (cm_R d h r) (cm_P g Av h) (cm_Q g r) (cm_X g r) (tt_ r.2 - tt_ h) (mm_s r.2 - mm_s h) (fun q => g.1 < q) := by
  cases hf : (Z y).2.2.2.2.2.2 with
  | true =>
    refine vx_ofWH (cc := (Z y).2.2.1) (maxL := (Z y).2.2.2.1) (ret := (Z y).2.2.2.2.1) (hh := (Z y).2.2.2.2.2.1) (ws' := lu_) hy (by rw [cm_w, if_pos hf]) ?_
    intro p e s m args below meth c s₁ B hml hv
    have hcw : (Cond.codeWith (Z y).2.1 (Z y).2.2.1 (Z y).2.2.2.1 (Z y).2.2.2.2.1 (Z y).2.2.2.2.2.1).before args s = true := atoms_spec (ws := cm_w (Z y).2) B.pre _ (by rw [cm_w, if_pos hf]; exact List.mem_cons_self)
    exact cm_body hl hS hA B hml (vx_table (x := (Z y).2.1) B hcw) hv
  | false =>
    refine vx_ofW (cc := (Z y).2.2.1) (maxL := (Z y).2.2.2.1) (ret := (Z y).2.2.2.2.1) (ws' := lu_) hy (by rw [cm_w, if_neg (by rw [hf]; decide)]) ?_
    intro p e s m args below meth c s₁ B hml hex hv
    refine cm_body hl hS hA B hml ?_ hv
    rw [hfl hf]
    show c.exceptionTable.toList = []
    cases hc : c.exceptionTable.toList with
    | nil => rfl
    | cons x t => exact absurd (hex x (by rw [hc]; exact List.mem_cons_self)) (fun z => z)
theorem cm_blind (g : cw_G) (Av : List Value) (h : mm_M) : FrameBlind (cm_P g Av h) := fun a U fr mk q => ⟨q.1, q.2.1, wd_move (s := U) (U := U.calling fr mk a) q.2.2 (State.WarmedH.refl U) (Nat.le_refl _) (fun _ _ _ => rfl)⟩
theorem lu_good {w : Cond} (h : w ∈ lu_) : (w.onTables && w.keeps) = true ∨ ∃ ty, w = .arrayClass ty := good_of_word (List.mem_filter.mp h).2
theorem cm_gi {z : ms_T} (hc : (if z.2.2.2.2.2 = true then Cond.codeWith z.1 z.2.1 z.2.2.1 z.2.2.2.1 z.2.2.2.2.1 else Cond.code z.1 z.2.1 z.2.2.1 z.2.2.2.1) ∈ lu_) : GoodIn lu_ (cm_w z) := by
  intro w hw
  rcases List.mem_cons.mp hw with rfl | hw
  · exact ⟨hc, lu_good hc⟩
  · exact ⟨hw, lu_good hw⟩
/-- behind a call: it goes on, or it throws -/
theorem cm_run {p : Program} {l : Launch} {e : Env} {R : Room} {s : State} {m : MethodId} {args : Array Value} {below : List Frame} {meth : Method} {c : Code} {H : Heap} {locs : List Loc} {cells slots mc ms : Nat} {Q : State → Prop} {g : cw_G} {ry : am_R} {pc : Nat} {ls : Array Slot} {st0 rest : List Value} {av : Array Value}
    (hr : vx_Run p l e R s m args below meth c H locs cells slots mc ms (F0 m pc ls st0) rest (cm_Q g ry av) (cm_X g ry) (fun q => g.1 < q)) (hS : va_S (aa_ g) s.heap H locs)
    (kk : ∀ (v : Option Value) (H1 : Heap) (locs1 : List Loc), ry.1 = .inl v → hr_ g ry.2 H1 → va_S (aa_ g) s.heap H1 locs1 → W p l e R s m args below meth c H1 locs1 (cells + mc) (slots + ms) Q (F0 m (pc + 3) ls ((v.map (cv_ g)).toList ++ rest)))
    (kx : ∀ (x : Nat) (ce : Cell) (q9 : Addr) (H1 : Heap) (locs1 : List Loc), ry.1 = .inr x → hr_ g ry.2 H1 → va_S (aa_ g) s.heap H1 locs1 → H1[q9]? = some ce → ce.vm = .none → s.vm.findClass (xn_ x) = some ce.cls → vx_W p l e R s m args below meth c H1 locs1 (cells + mc) (slots + ms) Q (F0 m pc ls rest) q9) :
    W p l e R s m args below meth c H locs cells slots Q (F0 m pc ls st0) := by
  intro T hT X
  rcases hr T hT X with ⟨v, st₀, t, T', L, h0, X', hL, e1, e2, ⟨⟨w, hw1, hw2, hw3⟩, hF⟩, st⟩ | ⟨q, st₀, t, T', L, E, ce, h0, X', hL, e1, e2, ⟨x, hx1, hx2, hx3, hF⟩, hce, hcv, hcl, st⟩
  · cases hw2
    obtain ⟨k1, k2, k3⟩ := vx_keep (A0 := aa_ g) h0 e1 hS (fun _ _ z => z) (fun _ z => z) hL hF
    obtain ⟨t2, a1, b1⟩ := kk w T'.heap (locs ++ L) hw1 (by rw [e1]; exact hw3) k3 T' rfl X'
    exact ⟨t2, st t2 a1, b1⟩
  · subst hx2
    obtain ⟨k1, k2, k3⟩ := vx_keep (A0 := aa_ g) h0 e1 hS (fun _ _ z => z) (fun _ z => z) hL hF
    obtain ⟨t2, a1, b1⟩ := kx x ce q T'.heap (locs ++ L) hx1 (by rw [e1]; exact hx3) k3 (by rw [e1]; exact hce) hcv hcl T' rfl X'
    exact ⟨t2, st.trans a1, b1⟩
end CALL
