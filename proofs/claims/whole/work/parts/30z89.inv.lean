/-! ===== the rules of calls ===== -/
/-- what is known of a method that is called -/
def mk_ (z : am_T × ms_T) : Prop := plainName z.2.1.cls = true ∧ (z.2.2.2.2.2.2 = false → z.2.2.2.2.2.1 = []) ∧ (if z.2.2.2.2.2.2 = true then Cond.codeWith z.2.1 z.2.2.1 z.2.2.2.1 z.2.2.2.2.1 z.2.2.2.2.2.1 else Cond.code z.2.1 z.2.2.1 z.2.2.2.1 z.2.2.2.2.1) ∈ lu_ ∧ Cond.initialized z.2.1.cls ∈ lu_ ∧ (z.2.1.cls ≠ "java/lang/invoke/MethodHandle" ∧ z.2.1.cls ≠ "java/lang/invoke/VarHandle") ∧ z.2.2.2.1 ≤ 80 ∧ z.1.2.2.1 = z.2.2.2.1
/-- an exception on its way, from a call at pc -/
def SndX (Z : Nat → am_T × ms_T) (d j pc : Nat) (lv : lo_L) (h : mm_M) (x : Nat) (r : am_R) : Prop := (tt_ h ≤ tt_ r.2 ∧ mm_s h ≤ mm_s r.2) ∧
  ∀ (g : cw_G) (p : Program) (l : Launch) (e : Env) (R : Room) (s : State) (m : MethodId) (args : Array Value) (below : List Frame) (meth : Method) (cd : Code), fx_ Z g p l R s m args meth cd j d →
  ∀ Q, qf_ Z g p l e R s m args below meth cd j Q r → ∀ H locs cells slots ls, mv_ Z g R s j lv h r H locs cells slots ls → ∀ (q9 : Addr) (ce : Cell) (rest : List Value), H[q9]? = some ce → ce.vm = .none → s.vm.findClass (xn_ x) = some ce.cls →
  vx_W p l e R s m args below meth cd H locs cells slots Q (F0 m pc ls rest) q9
section INV
variable {Z : Nat → am_T × ms_T} {d j pc y : Nat} {lv : lo_L} {st rest Av : List Value} {h : mm_M} {r ry : am_R}
theorem so_call (hSy : Snd Z (d - 1, y, 0, lv_args 0 Av, [], h) ry) (hret : ∀ v, ry.1 = .inl v → Snd Z (d, j, pc + 3, lv, v.toList ++ rest, ry.2) r) (hexc : ∀ x, ry.1 = .inr x → SndX Z d j pc lv ry.2 x r)
    (hrun : ∀ {g : cw_G} {p : Program} {l : Launch} {e : Env} {R : Room} {s : State} {m : MethodId} {args : Array Value} {below : List Frame} {meth : Method} {cd : Code} {H : Heap} {locs : List Loc} {cells slots : Nat} {ls : Array Slot}, fx_ Z g p l R s m args meth cd j d → mv_ Z g R s j lv h r H locs cells slots ls → cells + (tt_ ry.2 - tt_ h) ≤ R.cells ∧ slots + (mm_s ry.2 - mm_s h) ≤ R.slots →
      ∃ av, vx_Run p l e R s m args below meth cd H locs cells slots (tt_ ry.2 - tt_ h) (mm_s ry.2 - mm_s h) (F0 m pc ls (st.map (cv_ g))) (rest.map (cv_ g)) (cm_Q g ry av) (cm_X g ry) (fun q => g.1 < q)) : Snd Z (d, j, pc, lv, st, h) r := by
  have t1 : tt_ h ≤ tt_ ry.2 := hSy.1.1
  have t2 : mm_s h ≤ mm_s ry.2 := hSy.1.2
  have t3 : tt_ ry.2 ≤ tt_ r.2 ∧ mm_s ry.2 ≤ mm_s r.2 := by
    cases hr : ry.1 with
    | inl v => exact (hret v hr).1
    | inr x => exact (hexc x hr).1
  refine ⟨⟨Nat.le_trans t1 t3.1, Nat.le_trans t2 t3.2⟩, fun g p l e R s m args below meth cd F Q qq H locs cells slots ls V => ?_⟩
  have v3 : cells + tt_ r.2 ≤ R.cells + tt_ h := V.2.2.2.1
  have v4 : slots + mm_s r.2 ≤ R.slots + mm_s h := V.2.2.2.2
  obtain ⟨av, hrn⟩ := hrun (e := e) (below := below) F V ⟨by omega, by omega⟩
  refine cm_run hrn V.2.1 (fun v H1 locs1 e1 e2 e3 => ?_) (fun x ce q9 H1 locs1 e1 e2 e3 e4 e5 e6 => ?_)
  · have := (hret v e1).2 g p l e R s m args below meth cd F Q qq H1 locs1 (cells + (tt_ ry.2 - tt_ h)) (slots + (mm_s ry.2 - mm_s h)) ls ⟨e2, e3, V.2.2.1, by show _ + tt_ r.2 ≤ R.cells + tt_ ry.2; omega, by show _ + mm_s r.2 ≤ R.slots + mm_s ry.2; omega⟩
    have e9 : ((v.toList ++ rest).map (cv_ g)) = (v.map (cv_ g)).toList ++ rest.map (cv_ g) := by cases v <;> rfl
    have this : W p l e R s m args below meth cd H1 locs1 (cells + (tt_ ry.2 - tt_ h)) (slots + (mm_s ry.2 - mm_s h)) Q (F0 m (pc + 3) ls ((v.toList ++ rest).map (cv_ g))) := this
    rw [e9] at this
    exact this
  · exact (hexc x e1).2 g p l e R s m args below meth cd F Q qq H1 locs1 _ _ ls ⟨e2, e3, V.2.2.1, by show _ + tt_ r.2 ≤ R.cells + tt_ ry.2; omega, by show _ + mm_s r.2 ≤ R.slots + mm_s ry.2; omega⟩ q9 ce _ e4 e5 e6
theorem iv_P {g : cw_G} {R : Room} {s U : State} {H : Heap} {locs : List Loc} {cells slots : Nat} {ls : Array Slot} (hwd : wd_ g s s.heap) (V : mv_ Z g R s j lv h r H locs cells slots ls) (hU : U.heap = H) (hW : s.WarmedH U.vm) {a : Array Value} (ha : a = (Av.map (cv_ g)).toArray) : cm_P g Av h a U :=
  ⟨ha, by rw [hU]; exact V.1, wd_move hwd hW (by rw [hU]; exact V.2.1.1) (by rw [hU]; exact V.2.1.2.1)⟩
theorem iv_R {R : Room} (hd : 0 < d) (hm : (Z y).2.2.2.1 ≤ 80) (h1 : d ≤ R.frames) (h2 : 100 * d ≤ R.locals) : (cm_R (d - 1) h ry).frames + 1 ≤ R.frames ∧ 8 + ((Z y).2.2.2.1 + 11) + (cm_R (d - 1) h ry).locals ≤ R.locals := by
  show d - 1 + 1 ≤ R.frames ∧ 8 + ((Z y).2.2.2.1 + 11) + 100 * (d - 1) ≤ R.locals
  omega
theorem iv_st {g : cw_G} (hst : st = Av.reverse ++ rest) : st.map (cv_ g) = (Av.map (cv_ g)).reverse ++ rest.map (cv_ g) := by rw [hst, List.map_append, List.map_reverse]
/-- a static method without a table of its own -/
theorem so_callS {idx : Nat} (hd : decode (Z j).2.2.1 pc = .ok (.invokestatic idx, 3)) (hK : mk_ (Z y)) (hfl : (Z y).2.2.2.2.2.2 = false) (hn : (parseMethodDescriptor (Z y).2.1.desc).map (fun d => d.parameters.length) = some Av.length) (hlk : Cond.methodLink (Z j).2.1.cls idx (Z y).2.1 ∈ lu_) (hsta : Cond.static (Z y).2.1 ∈ lu_) (h0 : 0 < d) (hst : st = Av.reverse ++ rest) (h8 : (rest.map fun v => v.category).sum ≤ 8) (hA : (Av.map fun v => v.category).sum ≤ (Z y).2.2.2.1)
    (hSy : Snd Z (d - 1, y, 0, lv_args 0 Av, [], h) ry) (hret : ∀ v, ry.1 = .inl v → Snd Z (d, j, pc + 3, lv, v.toList ++ rest, ry.2) r) (hexc : ∀ x, ry.1 = .inr x → SndX Z d j pc lv ry.2 x r) : Snd Z (d, j, pc, lv, st, h) r := by
  refine so_call hSy hret hexc (fun {g p l e R s m args below meth cd H locs cells slots ls} F V hf => ⟨#[], ?_⟩)
  have hts := F.2.2.2.2.2.2.2.2.2.2.2.1
  have hwd := F.2.2.2.2.2.2.2.2.2.2.2.2
  obtain ⟨k1, k2, k3, k4, k5, k6, k7⟩ := hK
  have hgi := cm_gi (z := (Z y).2) k3
  refine vx_runS (As := Av.map (cv_ g)) (rest := rest.map (cv_ g)) ⟨F.1, F.2.1, F.2.2.1, F.2.2.2.1, hts⟩ (cm_met F.2.2.2.2.2.2.2.2.1 hSy hA k1 k2) ⟨callB_of (ws' := lu_) Av.length hts hgi (by rw [cm_w, if_neg (by rw [hfl]; decide)]) rfl rfl (hts _ k4) (hts _ hlk) ⟨k5.1, k5.2, hn⟩ (iv_R h0 k6 F.2.2.2.2.2.2.2.2.2.1 F.2.2.2.2.2.2.2.2.2.2.1), hts _ hsta⟩ ⟨cm_blind g Av h, fun U hU hW => iv_P hwd V hU hW rfl⟩ rfl (by simp) V.2.2.1.1 (iv_st hst) (lv_room (by rw [cv_sum]; exact h8)) hd hf
/-- a static method with a table of its own -/
theorem so_callX {idx : Nat} (hd : decode (Z j).2.2.1 pc = .ok (.invokestatic idx, 3)) (hK : mk_ (Z y)) (hfl : (Z y).2.2.2.2.2.2 = true) (hn : (parseMethodDescriptor (Z y).2.1.desc).map (fun d => d.parameters.length) = some Av.length) (hlk : Cond.methodLink (Z j).2.1.cls idx (Z y).2.1 ∈ lu_) (hsta : Cond.static (Z y).2.1 ∈ lu_) (h0 : 0 < d) (hst : st = Av.reverse ++ rest) (h8 : (rest.map fun v => v.category).sum ≤ 8) (hA : (Av.map fun v => v.category).sum ≤ (Z y).2.2.2.1)
    (hSy : Snd Z (d - 1, y, 0, lv_args 0 Av, [], h) ry) (hret : ∀ v, ry.1 = .inl v → Snd Z (d, j, pc + 3, lv, v.toList ++ rest, ry.2) r) (hexc : ∀ x, ry.1 = .inr x → SndX Z d j pc lv ry.2 x r) : Snd Z (d, j, pc, lv, st, h) r := by
  refine so_call hSy hret hexc (fun {g p l e R s m args below meth cd H locs cells slots ls} F V hf => ⟨#[], ?_⟩)
  have hts := F.2.2.2.2.2.2.2.2.2.2.2.1
  have hwd := F.2.2.2.2.2.2.2.2.2.2.2.2
  obtain ⟨k1, k2, k3, k4, k5, k6, k7⟩ := hK
  have hgi := cm_gi (z := (Z y).2) k3
  have hgi2 : GoodIn lu_ (va_wsS (Z j).2.1.cls idx (Z y).2.1 (cm_w (Z y).2)) := by
    intro w hw
    rcases List.mem_append.mp hw with hw | hw
    · simp only [List.mem_cons, List.not_mem_nil, or_false] at hw
      rcases hw with rfl | rfl | rfl
      · exact ⟨hlk, lu_good hlk⟩
      · exact ⟨hsta, lu_good hsta⟩
      · exact ⟨k4, lu_good k4⟩
    · exact hgi w hw
  refine vx_runSX (As := Av.map (cv_ g)) (rest := rest.map (cv_ g)) ⟨F.1, F.2.1, F.2.2.1, F.2.2.2.1, hts⟩ (cm_met F.2.2.2.2.2.2.2.2.1 hSy hA k1 k2) (vx_cwSW (ws' := lu_) Av.length hts hgi2 (by rw [cm_w, if_pos hfl]) rfl rfl ⟨k5.1, k5.2, hn⟩ (iv_R h0 k6 F.2.2.2.2.2.2.2.2.2.1 F.2.2.2.2.2.2.2.2.2.2.1)) ⟨cm_blind g Av h, fun U hU hW => iv_P hwd V hU hW rfl⟩ rfl (by simp) V.2.2.1.1 (iv_st hst) (lv_room (by rw [cv_sum]; exact h8)) hd hf
/-- a method of an object whose class is known -/
theorem so_callV {idx : Nat} {v0 : Value} {Ar : List Value} (hd : decode (Z j).2.2.1 pc = .ok (.invokevirtual idx, 3)) (hK : mk_ (Z y)) (hfl : (Z y).2.2.2.2.2.2 = false) (hAv : Av = v0 :: Ar) (hn : (parseMethodDescriptor (Z y).2.1.desc).map (fun d => d.parameters.length) = some Ar.length) (hlk : Cond.methodLink (Z j).2.1.cls idx (Z y).2.1 ∈ lu_) (hins : Cond.instanceMethod (Z y).2.1 ∈ lu_) (hsel : Cond.selects (Z y).2.1.cls (Z y).2.1 (Z y).2.1 ∈ lu_) (h0 : 0 < d) (hst : st = Av.reverse ++ rest) (h8 : (rest.map fun v => v.category).sum ≤ 8) (hA : (Av.map fun v => v.category).sum ≤ (Z y).2.2.2.1)
    (hrec : ∀ {g : cw_G} {s : State} {H : Heap} {locs : List Loc}, wd_ g s s.heap → hr_ g h H → va_S (aa_ g) s.heap H locs → ∃ b, cv_ g v0 = .ref b ∧ ∃ cellB : Cell, H[b]? = some cellB ∧ cellB.vm.isStatics = false ∧ s.vm.findClass (Z y).2.1.cls = some cellB.cls)
    (hSy : Snd Z (d - 1, y, 0, lv_args 0 Av, [], h) ry) (hret : ∀ v, ry.1 = .inl v → Snd Z (d, j, pc + 3, lv, v.toList ++ rest, ry.2) r) (hexc : ∀ x, ry.1 = .inr x → SndX Z d j pc lv ry.2 x r) : Snd Z (d, j, pc, lv, st, h) r := by
  refine so_call hSy hret hexc (fun {g p l e R s m args below meth cd H locs cells slots ls} F V hf => ⟨#[], ?_⟩)
  have hts := F.2.2.2.2.2.2.2.2.2.2.2.1
  have hwd := F.2.2.2.2.2.2.2.2.2.2.2.2
  obtain ⟨k1, k2, k3, k4, k5, k6, k7⟩ := hK
  have hgi := cm_gi (z := (Z y).2) k3
  obtain ⟨b, hb, hcell⟩ := hrec hwd V.1 V.2.1
  refine vx_runV (b := b) (C := (Z y).2.1.cls) (As := Ar.map (cv_ g)) (rest := rest.map (cv_ g)) ⟨F.1, F.2.1, F.2.2.1, F.2.2.2.1, hts⟩ (cm_met F.2.2.2.2.2.2.2.2.1 hSy hA k1 k2) ⟨callB_of (ws' := lu_) Ar.length hts hgi (by rw [cm_w, if_neg (by rw [hfl]; decide)]) rfl rfl (hts _ k4) (hts _ hlk) ⟨k5.1, k5.2, hn⟩ (iv_R h0 k6 F.2.2.2.2.2.2.2.2.2.1 F.2.2.2.2.2.2.2.2.2.2.1), hts _ hins, hts _ hsel⟩ ⟨cm_blind g Av h, hcell, fun U hU hW => iv_P hwd V hU hW (by rw [hAv, List.map_cons, hb])⟩ rfl (by simp) V.2.2.1.1 ?_ (lv_room (by rw [cv_sum]; exact h8)) hd hf
  show st.map (cv_ g) = _
  rw [iv_st hst, hAv, List.map_cons, hb, List.reverse_cons, List.append_assoc]
  rfl
/-- a constructor -/
theorem so_callI {idx a : Nat} {Ar : List Value} (hd : decode (Z j).2.2.1 pc = .ok (.invokespecial idx, 3)) (hK : mk_ (Z y)) (hfl : (Z y).2.2.2.2.2.2 = false) (hrt : (Z y).2.2.2.2.1 = none) (hAv : Av = .ref a :: Ar) (ha : 0 < a) (hn : (parseMethodDescriptor (Z y).2.1.desc).map (fun d => d.parameters.length) = some Ar.length) (hlk : Cond.methodLink (Z j).2.1.cls idx (Z y).2.1 ∈ lu_) (hins : Cond.instanceMethod (Z y).2.1 ∈ lu_) (hnm : (Z y).2.1.name = "<init>") (h0 : 0 < d) (hst : st = Av.reverse ++ rest) (h8 : (rest.map fun v => v.category).sum ≤ 8) (hA : (Av.map fun v => v.category).sum ≤ (Z y).2.2.2.1)
    (hSy : Snd Z (d - 1, y, 0, lv_args 0 Av, [], h) ry) (hret : ∀ v, ry.1 = .inl v → Snd Z (d, j, pc + 3, lv, v.toList ++ rest, ry.2) r) (hexc : ∀ x, ry.1 = .inr x → SndX Z d j pc lv ry.2 x r) : Snd Z (d, j, pc, lv, st, h) r := by
  refine so_call hSy hret hexc (fun {g p l e R s m args below meth cd H locs cells slots ls} F V hf => ⟨#[], ?_⟩)
  have hts := F.2.2.2.2.2.2.2.2.2.2.2.1
  have hwd := F.2.2.2.2.2.2.2.2.2.2.2.2
  obtain ⟨k1, k2, k3, k4, k5, k6, k7⟩ := hK
  have hgi := cm_gi (z := (Z y).2) k3
  have hb : cv_ g (.ref a) = .ref (g.1 + a) := cr_pos ha
  refine vx_runI (b := g.1 + a) (As := Ar.map (cv_ g)) (rest := rest.map (cv_ g)) ⟨F.1, F.2.1, F.2.2.1, F.2.2.2.1, hts⟩ (cm_met F.2.2.2.2.2.2.2.2.1 hSy hA k1 k2) ⟨callB_of (ws' := lu_) Ar.length hts hgi (by rw [cm_w, if_neg (by rw [hfl]; decide), hrt]) rfl rfl (hts _ k4) (hts _ hlk) ⟨k5.1, k5.2, hn⟩ (iv_R h0 k6 F.2.2.2.2.2.2.2.2.2.1 F.2.2.2.2.2.2.2.2.2.2.1), hnm, hts _ hins⟩ ⟨cm_blind g Av h, fun U hU hW => iv_P hwd V hU hW (by rw [hAv, List.map_cons, hb])⟩ rfl (by simp) V.2.2.1.1 ?_ (lv_room (by rw [cv_sum]; exact h8)) hd hf
  show st.map (cv_ g) = _
  rw [iv_st hst, hAv, List.map_cons, hb, List.reverse_cons, List.append_assoc]
  rfl
/-- a private constructor of a nest mate -/
theorem so_callN {idx a : Nat} {Ar : List Value} {host : String} (hd : decode (Z j).2.2.1 pc = .ok (.invokespecial idx, 3)) (hK : mk_ (Z y)) (hfl : (Z y).2.2.2.2.2.2 = false) (hrt : (Z y).2.2.2.2.1 = none) (hAv : Av = .ref a :: Ar) (ha : 0 < a) (hn : (parseMethodDescriptor (Z y).2.1.desc).map (fun d => d.parameters.length) = some Ar.length) (hlk : Cond.methodLinkNest (Z j).2.1.cls idx (Z y).2.1 host ∈ nw_L) (hins : Cond.instanceMethod (Z y).2.1 ∈ lu_) (hnm : (Z y).2.1.name = "<init>") (h0 : 0 < d) (hst : st = Av.reverse ++ rest) (h8 : (rest.map fun v => v.category).sum ≤ 8) (hA : (Av.map fun v => v.category).sum ≤ (Z y).2.2.2.1)
    (hSy : Snd Z (d - 1, y, 0, lv_args 0 Av, [], h) ry) (hret : ∀ v, ry.1 = .inl v → Snd Z (d, j, pc + 3, lv, v.toList ++ rest, ry.2) r) (hexc : ∀ x, ry.1 = .inr x → SndX Z d j pc lv ry.2 x r) : Snd Z (d, j, pc, lv, st, h) r := by
  refine so_call hSy hret hexc (fun {g p l e R s m args below meth cd H locs cells slots ls} F V hf => ⟨#[], ?_⟩)
  have hts := F.2.2.2.2.2.2.2.2.2.2.2.1
  have hwd := F.2.2.2.2.2.2.2.2.2.2.2.2
  obtain ⟨k1, k2, k3, k4, k5, k6, k7⟩ := hK
  have hgi := cm_gi (z := (Z y).2) k3
  have hb : cv_ g (.ref a) = .ref (g.1 + a) := cr_pos ha
  have hnw := hwd.2.2.2.2.2.2.2.2.2.2.2.2.1 _ hlk
  refine vx_runIN (host := host) (b := g.1 + a) (As := Ar.map (cv_ g)) (rest := rest.map (cv_ g)) ⟨F.1, F.2.1, F.2.2.1, F.2.2.2.1, hts⟩ (cm_met F.2.2.2.2.2.2.2.2.1 hSy hA k1 k2) ⟨va_cnB (ws' := lu_) Ar.length hts hgi (by rw [cm_w, if_neg (by rw [hfl]; decide), hrt]) rfl rfl hnw (hts _ k4) ⟨k5.1, k5.2, hn⟩ (iv_R h0 k6 F.2.2.2.2.2.2.2.2.2.1 F.2.2.2.2.2.2.2.2.2.2.1), hnm, hts _ hins⟩ ⟨cm_blind g Av h, fun U hU hW => iv_P hwd V hU hW (by rw [hAv, List.map_cons, hb])⟩ rfl (by simp) V.2.2.1.1 ?_ (lv_room (by rw [cv_sum]; exact h8)) hd hf
  show st.map (cv_ g) = _
  rw [iv_st hst, hAv, List.map_cons, hb, List.reverse_cons, List.append_assoc]
  rfl
end INV
