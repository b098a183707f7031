/-! ===== rules of the memory ===== -/
theorem mm_wI_eq (h : mm_M) (a k : Nat) (x : Int32) : mm_I (mm_wI h a k x) a = upd (mm_I h a) k x := by
  funext q
  show (if a = a ∧ q = k then x else mm_I h a q) = if q = k then x else mm_I h a q
  simp
theorem mm_wI_ne (h : mm_M) (a k : Nat) (x : Int32) {b : Nat} (hb : b ≠ a) : mm_I (mm_wI h a k x) b = mm_I h b := by
  funext q
  show (if b = a ∧ q = k then x else mm_I h b q) = mm_I h b q
  simp [hb]
theorem mm_wJ_ne (h : mm_M) (a k : Nat) (x : Int64) {b : Nat} (hb : b ≠ a) : mm_J (mm_wJ h a k x) b = mm_J h b := by
  funext q
  show (if b = a ∧ q = k then x else mm_J h b q) = mm_J h b q
  simp [hb]
theorem mm_wP_ne (h : mm_M) (a k : Nat) (x : Nat) {b : Nat} (hb : b ≠ a) : mm_P (mm_wP h a k x) b = mm_P h b := by
  funext q
  show (if b = a ∧ q = k then x else mm_P h b q) = mm_P h b q
  simp [hb]
section MEM
variable {Z : Nat → am_T × ms_T} {d j pc : Nat} {lv : lo_L} {r0 : List Value} {h : mm_M} {r : am_R} {a : Nat}
theorem va_Ssz {A : Nat → Prop} {H0 H : Heap} {locs : List Loc} (hS : va_S A H0 H locs) : H0.size ≤ H.size := hS.1
theorem so_iaload {i : Int32} (hd : decode (Z j).2.2.1 pc = .ok (.iaload, 1)) (ht : (mm_S h a).1 = 100) (hi : vp_in i (mm_sz h a)) (hS : Snd Z (d, j, pc + 1, lv, .int (mm_I h a i.toNatClampNeg) :: r0, h) r) : Snd Z (d, j, pc, lv, .int i :: .ref a :: r0, h) r := by
  refine sn_op hS (fun {g p l e R s m args below meth cd H locs cells slots ls Q} F V k => ?_)
  have hlt : i.toNatClampNeg < mm_sz h a := Nat.not_le.mp fun q => hi (Or.inr q)
  have hp : 0 < a := hr_pos V.1 (by rw [ht]; decide)
  show W _ _ _ _ _ _ _ _ _ _ _ _ _ _ _ (F0 m pc ls (.int i :: cr_ g.1 a :: r0.map (cv_ g)))
  rw [cr_pos hp]
  exact W.iald (v := .int (mm_I h a i.toNatClampNeg)) F.1 F.2.1 ((V.1.1 a).1 ht) ((F.2.2.2.2.2.2.2.2.2.2.2.2.1.2 0 _ rfl).1 _ _) (fun q => by cases q) (by rw [arrV_size]; exact hi) (by rw [arrV_read _ _ hlt]) rfl rfl hd k
theorem so_baload {i : Int32} (hd : decode (Z j).2.2.1 pc = .ok (.baload, 1)) (ht : (mm_S h a).1 = 101) (hi : vp_in i (mm_sz h a)) (hS : Snd Z (d, j, pc + 1, lv, .int (mm_I h a i.toNatClampNeg) :: r0, h) r) : Snd Z (d, j, pc, lv, .int i :: .ref a :: r0, h) r := by
  refine sn_op hS (fun {g p l e R s m args below meth cd H locs cells slots ls Q} F V k => ?_)
  have hlt : i.toNatClampNeg < mm_sz h a := Nat.not_le.mp fun q => hi (Or.inr q)
  have hp : 0 < a := hr_pos V.1 (by rw [ht]; decide)
  show W _ _ _ _ _ _ _ _ _ _ _ _ _ _ _ (F0 m pc ls (.int i :: cr_ g.1 a :: r0.map (cv_ g)))
  rw [cr_pos hp]
  exact W.bald (v := .int (mm_I h a i.toNatClampNeg)) F.1 F.2.1 ((V.1.1 a).2.1 ht) ((F.2.2.2.2.2.2.2.2.2.2.2.2.1.2 1 _ rfl).1 _ _) (fun q => by cases q) (by rw [arrV_size]; exact hi) (by rw [arrV_read _ _ hlt]) rfl rfl hd k
theorem so_laload {i : Int32} (hd : decode (Z j).2.2.1 pc = .ok (.laload, 1)) (ht : (mm_S h a).1 = 102) (hi : vp_in i (mm_sz h a)) (hS : Snd Z (d, j, pc + 1, lv, .long (mm_J h a i.toNatClampNeg) :: r0, h) r) : Snd Z (d, j, pc, lv, .int i :: .ref a :: r0, h) r := by
  refine sn_op hS (fun {g p l e R s m args below meth cd H locs cells slots ls Q} F V k => ?_)
  have hlt : i.toNatClampNeg < mm_sz h a := Nat.not_le.mp fun q => hi (Or.inr q)
  have hp : 0 < a := hr_pos V.1 (by rw [ht]; decide)
  show W _ _ _ _ _ _ _ _ _ _ _ _ _ _ _ (F0 m pc ls (.int i :: cr_ g.1 a :: r0.map (cv_ g)))
  rw [cr_pos hp]
  exact W.lald (v := .long (mm_J h a i.toNatClampNeg)) F.1 F.2.1 ((V.1.1 a).2.2.1 ht) ((F.2.2.2.2.2.2.2.2.2.2.2.2.1.2 2 _ rfl).1 _ _) (fun q => by cases q) (by rw [arrV_size]; exact hi) (by rw [arrV_read _ _ hlt]) rfl rfl hd k
theorem so_aaload {i : Int32} (hd : decode (Z j).2.2.1 pc = .ok (.aaload, 1)) (ht : (mm_S h a).1 = 103 ∨ (mm_S h a).1 = 104) (hi : vp_in i (mm_sz h a)) (hS : Snd Z (d, j, pc + 1, lv, .ref (mm_P h a i.toNatClampNeg) :: r0, h) r) : Snd Z (d, j, pc, lv, .int i :: .ref a :: r0, h) r := by
  refine sn_op hS (fun {g p l e R s m args below meth cd H locs cells slots ls Q} F V k => ?_)
  have hlt : i.toNatClampNeg < mm_sz h a := Nat.not_le.mp fun q => hi (Or.inr q)
  have hp : 0 < a := hr_pos V.1 (by rcases ht with ht | ht <;> rw [ht] <;> decide)
  show W _ _ _ _ _ _ _ _ _ _ _ _ _ _ _ (F0 m pc ls (.int i :: cr_ g.1 a :: r0.map (cv_ g)))
  rw [cr_pos hp]
  rcases ht with ht | ht
  · exact W.aald (v := cr_ g.1 (mm_P h a i.toNatClampNeg)) (ty := .object "LastChange$Side") F.1 F.2.1 ((V.1.1 a).2.2.2.1 ht) ((F.2.2.2.2.2.2.2.2.2.2.2.2.1.2 3 _ rfl).1 _ _) rfl (fun q => by cases q) (by rw [arrV_size]; exact hi) (by rw [arrV_read _ _ hlt]) rfl rfl hd k
  · exact W.aald (v := cr_ g.1 (mm_P h a i.toNatClampNeg)) (ty := .array .int) F.1 F.2.1 ((V.1.1 a).2.2.2.2.1 ht) ((F.2.2.2.2.2.2.2.2.2.2.2.2.1.2 4 _ rfl).1 _ _) rfl (fun q => by cases q) (by rw [arrV_size]; exact hi) (by rw [arrV_read _ _ hlt]) rfl rfl hd k
theorem so_alen (hd : decode (Z j).2.2.1 pc = .ok (.arraylength, 1)) (ht : 100 ≤ (mm_S h a).1 ∧ (mm_S h a).1 ≤ 104) (hS : Snd Z (d, j, pc + 1, lv, .int (Int32.ofNat (mm_sz h a)) :: r0, h) r) : Snd Z (d, j, pc, lv, .ref a :: r0, h) r := by
  refine sn_op hS (fun {g p l e R s m args below meth cd H locs cells slots ls Q} F V k => ?_)
  have hp : 0 < a := hr_pos V.1 (by omega)
  show W _ _ _ _ _ _ _ _ _ _ _ _ _ _ _ (F0 m pc ls (cr_ g.1 a :: r0.map (cv_ g)))
  rw [cr_pos hp]
  have K := F.2.2.2.2.2.2.2.2.2.2.2.2.1.2
  rcases (show (mm_S h a).1 = 100 ∨ (mm_S h a).1 = 101 ∨ (mm_S h a).1 = 102 ∨ (mm_S h a).1 = 103 ∨ (mm_S h a).1 = 104 by omega) with t | t | t | t | t
  · exact W.alen F.1 F.2.1 ((V.1.1 a).1 t) ((K 0 _ rfl).1 _ _) (by rw [arrV_size] <;> rfl) rfl rfl hd k
  · exact W.alen F.1 F.2.1 ((V.1.1 a).2.1 t) ((K 1 _ rfl).1 _ _) (by rw [arrV_size] <;> rfl) rfl rfl hd k
  · exact W.alen F.1 F.2.1 ((V.1.1 a).2.2.1 t) ((K 2 _ rfl).1 _ _) (by rw [arrV_size] <;> rfl) rfl rfl hd k
  · exact W.alen F.1 F.2.1 ((V.1.1 a).2.2.2.1 t) ((K 3 _ rfl).1 _ _) (by rw [arrV_size] <;> rfl) rfl rfl hd k
  · exact W.alen F.1 F.2.1 ((V.1.1 a).2.2.2.2.1 t) ((K 4 _ rfl).1 _ _) (by rw [arrV_size] <;> rfl) rfl rfl hd k
theorem so_iastore {i : Int32} {v : Int32} (hd : decode (Z j).2.2.1 pc = .ok (.iastore, 1)) (ht : (mm_S h a).1 = 100) (hi : vp_in i (mm_sz h a)) (hS : Snd Z (d, j, pc + 1, lv, r0, mm_wI h a i.toNatClampNeg v) r) : Snd Z (d, j, pc, lv, .int v :: .int i :: .ref a :: r0, h) r := by
  refine sn_wr hS rfl rfl (fun {g p l e R s m args below meth cd H locs cells slots ls Q} F V k => ?_)
  have hp : 0 < a := hr_pos V.1 (by rw [ht]; decide)
  show W _ _ _ _ _ _ _ _ _ _ _ _ _ _ _ (F0 m pc ls (.int v :: .int i :: cr_ g.1 a :: r0.map (cv_ g)))
  rw [cr_pos hp]
  refine W.iast F.1 F.2.1 ((V.1.1 a).1 ht) ((F.2.2.2.2.2.2.2.2.2.2.2.2.1.2 0 _ rfl).1 _ _) (fun q => by cases q) (by rw [arrV_size]; exact hi) rfl rfl hd fun H' e1 e2 e3 => ?_
  refine k H' _ (hr_upd V.1 rfl (fun b hb => mm_wI_ne _ _ _ _ hb) (fun _ _ => rfl) (fun _ _ => rfl) rfl rfl rfl rfl e2 e3 (hp_100 ht ?_)) (V.2.1.put e2 e3 (show g.1 < g.1 + a by omega))
  rw [e1, arrV_store]
  show some (arrV _ (mm_sz h a) _) = some (arrV _ (mm_sz h a) _)
  refine congrArg some (congrArg (arrV _ _) (funext fun q => ?_))
  show updV _ _ _ q = .int (if a = a ∧ q = i.toNatClampNeg then v else mm_I h a q)
  by_cases hq : q = i.toNatClampNeg
  · simp [updV, hq]
  · simp [updV, hq]
theorem so_bastore {i : Int32} {v : Int32} (hd : decode (Z j).2.2.1 pc = .ok (.bastore, 1)) (ht : (mm_S h a).1 = 101) (hi : vp_in i (mm_sz h a)) (hS : Snd Z (d, j, pc + 1, lv, r0, mm_wI h a i.toNatClampNeg (mm_byt v)) r) : Snd Z (d, j, pc, lv, .int v :: .int i :: .ref a :: r0, h) r := by
  refine sn_wr hS rfl rfl (fun {g p l e R s m args below meth cd H locs cells slots ls Q} F V k => ?_)
  have hp : 0 < a := hr_pos V.1 (by rw [ht]; decide)
  show W _ _ _ _ _ _ _ _ _ _ _ _ _ _ _ (F0 m pc ls (.int v :: .int i :: cr_ g.1 a :: r0.map (cv_ g)))
  rw [cr_pos hp]
  refine W.bast F.1 F.2.1 ((V.1.1 a).2.1 ht) ((F.2.2.2.2.2.2.2.2.2.2.2.2.1.2 1 _ rfl).1 _ _) (fun q => by cases q) (by rw [arrV_size]; exact hi) rfl rfl hd fun H' e1 e2 e3 => ?_
  refine k H' _ (hr_upd V.1 rfl (fun b hb => mm_wI_ne _ _ _ _ hb) (fun _ _ => rfl) (fun _ _ => rfl) rfl rfl rfl rfl e2 e3 (hp_101 ht ?_)) (V.2.1.put e2 e3 (show g.1 < g.1 + a by omega))
  rw [e1, arrV_store]
  show some (arrV _ (mm_sz h a) _) = some (arrV _ (mm_sz h a) _)
  refine congrArg some (congrArg (arrV _ _) (funext fun q => ?_))
  show updV _ _ _ q = .int (if a = a ∧ q = i.toNatClampNeg then (mm_byt v) else mm_I h a q)
  by_cases hq : q = i.toNatClampNeg
  · simp [updV, hq]; try rfl
  · simp [updV, hq]
theorem so_lastore {i : Int32} {v : Int64} (hd : decode (Z j).2.2.1 pc = .ok (.lastore, 1)) (ht : (mm_S h a).1 = 102) (hi : vp_in i (mm_sz h a)) (hS : Snd Z (d, j, pc + 1, lv, r0, mm_wJ h a i.toNatClampNeg v) r) : Snd Z (d, j, pc, lv, .long v :: .int i :: .ref a :: r0, h) r := by
  refine sn_wr hS rfl rfl (fun {g p l e R s m args below meth cd H locs cells slots ls Q} F V k => ?_)
  have hp : 0 < a := hr_pos V.1 (by rw [ht]; decide)
  show W _ _ _ _ _ _ _ _ _ _ _ _ _ _ _ (F0 m pc ls (.long v :: .int i :: cr_ g.1 a :: r0.map (cv_ g)))
  rw [cr_pos hp]
  refine W.last F.1 F.2.1 ((V.1.1 a).2.2.1 ht) ((F.2.2.2.2.2.2.2.2.2.2.2.2.1.2 2 _ rfl).1 _ _) (fun q => by cases q) (by rw [arrV_size]; exact hi) rfl rfl hd fun H' e1 e2 e3 => ?_
  refine k H' _ (hr_upd V.1 rfl (fun _ _ => rfl) (fun b hb => mm_wJ_ne _ _ _ _ hb) (fun _ _ => rfl) rfl rfl rfl rfl e2 e3 (hp_102 ht ?_)) (V.2.1.put e2 e3 (show g.1 < g.1 + a by omega))
  rw [e1, arrV_store]
  show some (arrV _ (mm_sz h a) _) = some (arrV _ (mm_sz h a) _)
  refine congrArg some (congrArg (arrV _ _) (funext fun q => ?_))
  show updV _ _ _ q = .long (if a = a ∧ q = i.toNatClampNeg then v else mm_J h a q)
  by_cases hq : q = i.toNatClampNeg
  · simp [updV, hq]
  · simp [updV, hq]
theorem so_aastore {i : Int32} {v ci : Nat} {q : vw_C} (hd : decode (Z j).2.2.1 pc = .ok (.aastore, 1)) (ht : (mm_S h a).1 = 103) (hi : vp_in i (mm_sz h a)) (hz : zc_L[ci]? = some q) (hq : q.1 = "LastChange$Side") (hv : (mm_S h v).1 = ci + 1) (hS : Snd Z (d, j, pc + 1, lv, r0, mm_wP h a i.toNatClampNeg v) r) : Snd Z (d, j, pc, lv, .ref v :: .int i :: .ref a :: r0, h) r := by
  refine sn_wr hS rfl rfl (fun {g p l e R s m args below meth cd H locs cells slots ls Q} F V k => ?_)
  have hp : 0 < a := hr_pos V.1 (by rw [ht]; decide)
  have hpv : 0 < v := hr_pos V.1 (by omega)
  show W _ _ _ _ _ _ _ _ _ _ _ _ _ _ _ (F0 m pc ls (cr_ g.1 v :: .int i :: cr_ g.1 a :: r0.map (cv_ g)))
  rw [cr_pos hp, cr_pos hpv]
  obtain ⟨cell, w1, w2, w3, -⟩ := (V.1.1 v).2.2.2.2.2 ci q hz hv
  have hK := F.2.2.2.2.2.2.2.2.2.2.2.2.1
  obtain ⟨kA, comp, g1, g2, g3, g4⟩ := (hK.2 3 _ rfl).2
  have hKn := (hK.1 ci q hz).2
  rw [hq] at hKn
  obtain ⟨hfc, kv, hkv, hkind⟩ := hKn
  cases g3.symm.trans hfc
  have hlt : i.toNatClampNeg < mm_sz h a := Nat.not_le.mp fun q => hi (Or.inr q)
  refine W.aast F.1 F.2.1 ((V.1.1 a).2.2.2.1 ht) (fun q => by intro z; cases z) (fun q => by cases q) g1 g2 rfl hkv ⟨fun q => hi (Or.inl q), by rw [arrV_size]; exact hlt⟩ w1 (fun q => by rw [w3]; intro z; cases z) (by rw [w2]; exact hkv) (by rw [w2]; exact va_assign ⟨hfc, kv, hkv, hkind⟩) rfl rfl hd fun H' e1 e2 e3 => ?_
  refine k H' _ (hr_upd V.1 rfl (fun _ _ => rfl) (fun _ _ => rfl) (fun b hb => mm_wP_ne _ _ _ _ hb) rfl rfl rfl rfl e2 e3 (hp_103 ht ?_)) (V.2.1.put e2 e3 (show g.1 < g.1 + a by omega))
  rw [e1, arrV_store]
  show some (arrV _ (mm_sz h a) _) = some (arrV _ (mm_sz h a) _)
  refine congrArg some (congrArg (arrV _ _) (funext fun q => ?_))
  show updV _ _ _ q = cr_ g.1 (if a = a ∧ q = i.toNatClampNeg then v else mm_P h a q)
  by_cases hq : q = i.toNatClampNeg
  · simp [updV, hq, cr_pos hpv]
  · simp [updV, hq]
end MEM
