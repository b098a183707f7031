/-! ===== fields, making, calls, returns: by their checks; and the whole ===== -/
section ASN
variable {Z : Nat → am_T × ms_T} {f : am_C → Option am_R} {d j pc len x y u w : Nat} {lv : lo_L} {st : List Value} {h : mm_M} {r : am_R} {iv : Int32} {lc : Int64} {sw : List (Int32 × Nat)}
theorem ho_k {ci k : Nat} (hk : zc_k ci k = 0) (g : cw_G) (h : mm_M) (a : Nat) : ho_ g h ci a k = .int (mm_I h a k) := by simp only [ho_, hk]
theorem ho_k1 {ci k : Nat} (hk : zc_k ci k = 1) (g : cw_G) (h : mm_M) (a : Nat) : ho_ g h ci a k = cr_ g.1 (mm_P h a k) := by simp only [ho_, hk]
theorem ho_k2 {ci k : Nat} (hk : zc_k ci k = 2) (g : cw_G) (h : mm_M) (a : Nat) : ho_ g h ci a k = .long (mm_J h a k) := by simp only [ho_, hk]
theorem zc_yk : ∀ c, c < 13 → ∀ r, zc_L[c]? = some r → ∀ k, k < r.2.2 → (zc_y c k = .int → zc_k c k = 0) ∧ (zc_y c k = .boolean → zc_k c k = 0) ∧ (zc_y c k = .long → zc_k c k = 2) ∧ (zc_k c k = 1 → (∃ n, zc_y c k = .object n) ∨ ∃ t, zc_y c k = .array t) := by
  intro c hc r hr
  have : ∀ c, c < 13 → ∀ k, k < ((zc_L.getD c ("", zF_Acts, 0)).2.2) → (zc_y c k = .int → zc_k c k = 0) ∧ (zc_y c k = .boolean → zc_k c k = 0) ∧ (zc_y c k = .long → zc_k c k = 2) ∧ (zc_k c k = 1 → (zc_y c k).isReference = true) := by decide +kernel
  have h2 := this c hc
  rw [List.getD_eq_getElem?_getD, hr] at h2
  intro k hk
  obtain ⟨a1, a2, a3, a4⟩ := h2 k hk
  refine ⟨a1, a2, a3, fun e => ?_⟩
  have := a4 e
  cases hy : zc_y c k with
  | object n => exact Or.inl ⟨n, rfl⟩
  | array t => exact Or.inr ⟨t, rfl⟩
  | _ => rw [hy] at this; cases this
theorem so_getf2 {ci k idx a : Nat} {q : vw_C} {v : Value} {r0 : List Value} (hd : decode (Z j).2.2.1 pc = .ok (.getfield idx, 3)) (hz : zc_L[ci]? = some q) (hk : k < q.2.2) (hw : lu_w w (.fieldLink (Z j).2.1.cls idx (q.2.1 k).1 (q.2.1 k).2.1 (q.2.1 k).2.2.1) = true ∨ Cond.fieldLinkNest (Z j).2.1.cls idx (q.2.1 k).1 (q.2.1 k).2.1 (q.2.1 k).2.2.1 "LastChange" ∈ nw_L) (ht : (mm_S h a).1 = ci + 1) (hv : ∀ g, ho_ g h ci a k = cv_ g v)
    (hS : Snd Z (d, j, pc + 3, lv, v :: r0, h) r) : Snd Z (d, j, pc, lv, .ref a :: r0, h) r := by
  rcases hw with hw | hw
  · exact so_getf hd hz hk (lu_in hw) ht hv hS
  · exact so_getN hd hz hk hw ht hv hS
theorem sp_getf {k : Nat} (hf : ∀ c r, f c = some r → Snd Z c r) (hd : decode (Z j).2.2.1 pc = .ok (.getfield k, len)) (hj : ej_ Z (Z j).2 pc (.getfield k) len x y u w iv lc sw = true) (hop : am_do f (am_op (ag_T Z) d j pc lv st h (.getfield k) (pc + len) x y u iv lc sw) = some r) : Snd Z (d, j, pc, lv, st, h) r := by
  simp only [am_op] at hop
  split at hop
  · rename_i a r0
    split at hop
    · simp only [ej_, Bool.and_eq_true, nb_t] at hj
      obtain ⟨rfl, hj⟩ := hj
      split at hj
      · cases hj
      · rename_i ci
        split at hj
        · rename_i q hz
          simp only [Bool.and_eq_true, Bool.or_eq_true, decide_eq_true_eq] at hj
          obtain ⟨⟨h1, h2⟩, h3⟩ := hj
          obtain ⟨b1, b2⟩ := ag_if hop
          exact so_getf2 (w := w) (v := .int (mm_I h a y)) hd hz h1 h3 (of_decide_eq_true b1) (fun g => ho_k h2 g h a) (hf _ _ b2)
        · cases hj
    · simp only [ej_, Bool.and_eq_true, nb_t] at hj
      obtain ⟨rfl, hj⟩ := hj
      split at hj
      · cases hj
      · rename_i ci
        split at hj
        · rename_i q hz
          simp only [Bool.and_eq_true, Bool.or_eq_true, decide_eq_true_eq] at hj
          obtain ⟨⟨h1, h2⟩, h3⟩ := hj
          obtain ⟨b1, b2⟩ := ag_if hop
          exact so_getf2 (w := w) (v := .ref (mm_P h a y)) hd hz h1 h3 (of_decide_eq_true b1) (fun g => ho_k1 h2 g h a) (hf _ _ b2)
        · cases hj
    · simp only [ej_, Bool.and_eq_true, nb_t] at hj
      obtain ⟨rfl, hj⟩ := hj
      split at hj
      · cases hj
      · rename_i ci
        split at hj
        · rename_i q hz
          simp only [Bool.and_eq_true, Bool.or_eq_true, decide_eq_true_eq] at hj
          obtain ⟨⟨h1, h2⟩, h3⟩ := hj
          obtain ⟨b1, b2⟩ := ag_if hop
          exact so_getf2 (w := w) (v := .long (mm_J h a y)) hd hz h1 h3 (of_decide_eq_true b1) (fun g => ho_k2 h2 g h a) (hf _ _ b2)
        · cases hj
    · cases hop
  · rename_i a r0
    split at hop
    · simp only [ej_, Bool.and_eq_true, nb_t] at hj
      obtain ⟨rfl, hj⟩ := hj
      obtain ⟨b1, b2⟩ := ag_if hop
      exact so_strV hd b1 (lu_in hj) (hf _ _ b2)
    · simp only [ej_, Bool.and_eq_true, nb_t] at hj
      obtain ⟨rfl, hj⟩ := hj
      obtain ⟨b1, b2⟩ := ag_if hop
      exact so_strC hd b1 (lu_in hj) (hf _ _ b2)
    · cases hop
  · cases hop
theorem pf_fin {b : Bool} {P Q : Prop} [Decidable P] [Decidable Q] (h : (!b || (decide P && decide Q)) = true) : b = false ∨ (b = true ∧ P ∧ Q) := by
  cases b with
  | false => exact Or.inl rfl
  | true =>
    simp only [Bool.not_true, Bool.false_or, Bool.and_eq_true, decide_eq_true_eq] at h
    exact Or.inr ⟨rfl, h⟩
theorem pf_I {g : cw_G} {h : mm_M} {ci a k i : Nat} {v : Int32} (hk : zc_k ci k = 0) : updV (ho_ g h ci a) k (.int v) i = ho_ g (mm_wI h a k v) ci a i := by
  by_cases e : i = k
  · subst e
    rw [ho_k hk]
    simp [updV, mm_wI, mm_I]
  · have e1 : mm_I (mm_wI h a k v) a i = mm_I h a i := by simp [mm_wI, mm_I, e]
    simp only [updV, e, if_false, ho_, e1]
    rfl
theorem pf_P {g : cw_G} {h : mm_M} {ci a k i : Nat} {v : Nat} (hk : zc_k ci k = 1) : updV (ho_ g h ci a) k (cr_ g.1 v) i = ho_ g (mm_wP h a k v) ci a i := by
  by_cases e : i = k
  · subst e
    rw [ho_k1 hk]
    simp [updV, mm_wP, mm_P]
  · have e1 : mm_P (mm_wP h a k v) a i = mm_P h a i := by simp [mm_wP, mm_P, e]
    simp only [updV, e, if_false, ho_, e1]
    rfl
theorem pf_J {g : cw_G} {h : mm_M} {ci a k i : Nat} {v : Int64} (hk : zc_k ci k = 2) : updV (ho_ g h ci a) k (.long v) i = ho_ g (mm_wJ h a k v) ci a i := by
  by_cases e : i = k
  · subst e
    rw [ho_k2 hk]
    simp [updV, mm_wJ, mm_J]
  · have e1 : mm_J (mm_wJ h a k v) a i = mm_J h a i := by simp [mm_wJ, mm_J, e]
    simp only [updV, e, if_false, ho_, e1]
    rfl
theorem nr_bool {v : Int32} (h : mm_nr 1 v = true) : v = 0 ∨ v = 1 := by
  simp only [mm_nr, mm_eq, Bool.or_eq_true, decide_eq_true_eq] at h
  exact h
theorem sp_putf {k : Nat} (hf : ∀ c r, f c = some r → Snd Z c r) (hd : decode (Z j).2.2.1 pc = .ok (.putfield k, len)) (hj : ej_ Z (Z j).2 pc (.putfield k) len x y u w iv lc sw = true) (hop : am_do f (am_op (ag_T Z) d j pc lv st h (.putfield k) (pc + len) x y u iv lc sw) = some r) : Snd Z (d, j, pc, lv, st, h) r := by
  simp only [ej_, Bool.and_eq_true, nb_t] at hj
  obtain ⟨rfl, hj⟩ := hj
  split at hj
  · cases hj
  · rename_i ci
    split at hj
    · rename_i q hz
      simp only [Bool.and_eq_true, decide_eq_true_eq] at hj
      obtain ⟨⟨⟨h1, h2⟩, h3⟩, h4⟩ := hj
      have hfin := pf_fin h3
      obtain ⟨y1, y2, y3, y4⟩ := zc_yk ci (zc_lt hz) q hz y h1
      split at h4
      · simp only [decide_eq_true_eq] at h4
        simp only [am_op] at hop
        split at hop
        · rename_i v a r0
          obtain ⟨b1, b2⟩ := ag_if hop
          simp only [Bool.and_eq_true] at b1
          exact so_putf (h' := mm_wI h a y v) hd hz h1 (lu_in h2) hfin (of_decide_eq_true b1.1) (fun g => by rw [h4]; rfl) (fun g => by rw [h4]; rfl) rfl (fun b hb => mm_wI_ne _ _ _ _ hb) (fun _ _ => rfl) (fun _ _ => rfl) rfl rfl rfl rfl rfl (fun g i _ => pf_I (y1 h4)) (hf _ _ b2)
        · cases hop
      · simp only [decide_eq_true_eq] at h4
        simp only [am_op] at hop
        split at hop
        · rename_i v a r0
          obtain ⟨b1, b2⟩ := ag_if hop
          simp only [Bool.and_eq_true] at b1
          have hn := nr_bool b1.2
          exact so_putf (h' := mm_wI h a y v) hd hz h1 (lu_in h2) hfin (of_decide_eq_true b1.1) (fun g => by rw [h4]; rcases hn with rfl | rfl <;> rfl) (fun g => by rw [h4]; rcases hn with rfl | rfl <;> rfl) rfl (fun b hb => mm_wI_ne _ _ _ _ hb) (fun _ _ => rfl) (fun _ _ => rfl) rfl rfl rfl rfl rfl (fun g i _ => pf_I (y2 h4)) (hf _ _ b2)
        · cases hop
      · simp only [decide_eq_true_eq] at h4
        simp only [am_op] at hop
        split at hop
        · rename_i v a r0
          obtain ⟨b1, b2⟩ := ag_if hop
          have hr : ∀ g : cw_G, cv_ g (.ref v) = .null ∨ ∃ t, cv_ g (.ref v) = .ref t := fun g => cv_r g (Or.inl ⟨v, rfl⟩)
          refine so_putf (h' := mm_wP h a y v) hd hz h1 (lu_in h2) hfin (of_decide_eq_true b1) (fun g => ?_) (fun g => ?_) rfl (fun _ _ => rfl) (fun _ _ => rfl) (fun b hb => mm_wP_ne _ _ _ _ hb) rfl rfl rfl rfl rfl (fun g i _ => pf_P h4) (hf _ _ b2)
          · rcases hr g with e | ⟨t, e⟩ <;> rw [e] <;> rcases y4 h4 with ⟨n, z⟩ | ⟨n, z⟩ <;> rw [z] <;> rfl
          · rcases hr g with e | ⟨t, e⟩ <;> rw [e] <;> rcases y4 h4 with ⟨n, z⟩ | ⟨n, z⟩ <;> rw [z] <;> rfl
        · cases hop
      · simp only [decide_eq_true_eq] at h4
        simp only [am_op] at hop
        split at hop
        · rename_i v a r0
          obtain ⟨b1, b2⟩ := ag_if hop
          exact so_putf (h' := mm_wJ h a y v) hd hz h1 (lu_in h2) hfin (of_decide_eq_true b1) (fun g => by rw [h4]; rfl) (fun g => by rw [h4]; rfl) rfl (fun _ _ => rfl) (fun b hb => mm_wJ_ne _ _ _ _ hb) (fun _ _ => rfl) rfl rfl rfl rfl rfl (fun g i _ => pf_J (y3 h4)) (hf _ _ b2)
        · cases hop
      · cases h4
    · cases hj
theorem sp_gets {k : Nat} (hf : ∀ c r, f c = some r → Snd Z c r) (hd : decode (Z j).2.2.1 pc = .ok (.getstatic k, len)) (hj : ej_ Z (Z j).2 pc (.getstatic k) len x y u w iv lc sw = true) (hop : am_do f (am_op (ag_T Z) d j pc lv st h (.getstatic k) (pc + len) x y u iv lc sw) = some r) : Snd Z (d, j, pc, lv, st, h) r := by
  match x, hj, hop with
  | 0, hj, hop =>
    simp only [ej_, Bool.and_eq_true, nb_t, decide_eq_true_eq] at hj
    obtain ⟨rfl, h1, h2⟩ := hj
    subst h2
    exact so_getsC hd (lu_in h1) (hf _ _ (ag_go hop))
  | x + 1, hk, hop =>
    simp only [ej_, Bool.and_eq_true, nb_t] at hk
    obtain ⟨rfl, hk2⟩ := hk
    split at hk2
    · exact so_getsL hd (lu_in hk2) (hf _ _ (ag_go hop))
    · exact so_getsM hd (lu_in hk2) (hf _ _ (ag_go hop))
    · exact so_getsF hd (lu_in hk2) (hf _ _ (ag_go hop))
    · cases hk2
theorem sp_newa {t : ArrayType} (hf : ∀ c r, f c = some r → Snd Z c r) (hd : decode (Z j).2.2.1 pc = .ok (.newarray t, len)) (hj : ej_ Z (Z j).2 pc (.newarray t) len x y u w iv lc sw = true) (hop : am_do f (am_op (ag_T Z) d j pc lv st h (.newarray t) (pc + len) x y u iv lc sw) = some r) : Snd Z (d, j, pc, lv, st, h) r := by
  simp only [ej_, Bool.and_eq_true, nb_t] at hj
  obtain ⟨rfl, hj⟩ := hj
  simp only [am_op] at hop
  split at hop
  · obtain ⟨b1, b2⟩ := ag_if hop
    simp only [Bool.and_eq_true, Bool.not_eq_true', decide_eq_false_iff_not, nb_t] at b1
    obtain ⟨⟨b3, b4⟩, b5⟩ := b1
    have b4 := Nat.ble_eq.mp b4
    split at hj
    · exact so_newa_int hd lb_w.2.2.2.2.1 b3 b4 b5 (hf _ _ b2)
    · exact so_newa_byte hd lb_w.2.2.2.2.2.1 b3 b4 b5 (hf _ _ b2)
    · exact so_newa_long hd lb_w.2.2.2.2.2.2 b3 b4 b5 (hf _ _ b2)
    · cases hj
  · cases hop
theorem sp_anew {k : Nat} (hf : ∀ c r, f c = some r → Snd Z c r) (hd : decode (Z j).2.2.1 pc = .ok (.anewarray k, len)) (hj : ej_ Z (Z j).2 pc (.anewarray k) len x y u w iv lc sw = true) (hop : am_do f (am_op (ag_T Z) d j pc lv st h (.anewarray k) (pc + len) x y u iv lc sw) = some r) : Snd Z (d, j, pc, lv, st, h) r := by
  simp only [ej_, Bool.and_eq_true, nb_t] at hj
  obtain ⟨⟨rfl, rfl⟩, hj⟩ := hj
  simp only [am_op] at hop
  split at hop
  · obtain ⟨b1, b2⟩ := ag_if hop
    simp only [Bool.and_eq_true, Bool.not_eq_true', decide_eq_false_iff_not, nb_t] at b1
    obtain ⟨⟨b3, b4⟩, b5⟩ := b1
    exact so_anew hd (lu_in hj) b3 (Nat.ble_eq.mp b4) b5 (hf _ _ b2)
  · cases hop
theorem sp_mna {k n : Nat} (hf : ∀ c r, f c = some r → Snd Z c r) (hd : decode (Z j).2.2.1 pc = .ok (.multianewarray k n, len)) (hj : ej_ Z (Z j).2 pc (.multianewarray k n) len x y u w iv lc sw = true) (hop : am_do f (am_op (ag_T Z) d j pc lv st h (.multianewarray k n) (pc + len) x y u iv lc sw) = some r) : Snd Z (d, j, pc, lv, st, h) r := by
  simp only [ej_, Bool.and_eq_true, nb_t] at hj
  obtain ⟨⟨rfl, rfl⟩, hj⟩ := hj
  simp only [am_op] at hop
  split at hop
  · obtain ⟨b1, b2⟩ := ag_if hop
    simp only [Bool.and_eq_true, Bool.not_eq_true', decide_eq_false_iff_not, nb_t] at b1
    obtain ⟨⟨⟨b3, b4⟩, b5, b6⟩, b7⟩ := b1
    exact so_mna hd (lu_in hj) lb_w.2.2.2.2.1 b3 (Nat.ble_eq.mp b4) b5 (Nat.ble_eq.mp b6) b7 (hf _ _ b2)
  · cases hop
theorem sp_new {k : Nat} (hf : ∀ c r, f c = some r → Snd Z c r) (hd : decode (Z j).2.2.1 pc = .ok (.new k, len)) (hj : ej_ Z (Z j).2 pc (.new k) len x y u w iv lc sw = true) (hop : am_do f (am_op (ag_T Z) d j pc lv st h (.new k) (pc + len) x y u iv lc sw) = some r) : Snd Z (d, j, pc, lv, st, h) r := by
  match u, hj, hop with
  | 0, hk, hop =>
    simp only [ej_, Bool.and_eq_true, nb_t] at hk
    obtain ⟨rfl, hk2⟩ := hk
    split at hk2
    · cases hk2
    · rename_i ci
      split at hk2
      · rename_i q hz
        simp only [Bool.and_eq_true, decide_eq_true_eq] at hk2
        obtain ⟨⟨h1, h2⟩, h3, h4⟩ := hk2
        subst h4
        obtain ⟨b1, b2⟩ := ag_if hop
        exact so_new hd hz (lu_in h1) (lu_bi h2) (lu_bi h3) (nb_t.mp b1) (hf _ _ b2)
      · cases hk2
  | u + 1, hj, hop =>
    simp only [ej_, Bool.and_eq_true, nb_t, decide_eq_true_eq, List.isEmpty_iff] at hj
    obtain ⟨rfl, ⟨h1, h2⟩, ⟨h3, h4⟩, h5⟩ := hj
    obtain ⟨b1, b2⟩ := ag_fin hop
    simp only [Bool.and_eq_true] at b1
    have b3 := Nat.ble_eq.mp b1.1
    have b4 := Nat.ble_eq.mp b1.2
    subst b2
    split at h5
    · simp only [Bool.and_eq_true, decide_eq_true_eq] at h5
      obtain ⟨rfl, h6⟩ := h5
      exact so_throw (cls := "java/lang/IllegalArgumentException") rfl h1 h2 (by decide +kernel) th_1 hd h3 h6 h4 b4 b3
    · simp only [Bool.and_eq_true, decide_eq_true_eq] at h5
      obtain ⟨rfl, h6⟩ := h5
      exact so_throw (cls := "java/util/NoSuchElementException") rfl h1 h2 (by decide +kernel) th_2 hd h3 h6 h4 b4 b3
    · cases h5
theorem sp_ireturn (hf : ∀ c r, f c = some r → Snd Z c r) (hd : decode (Z j).2.2.1 pc = .ok (.ireturn, len)) (hj : ej_ Z (Z j).2 pc (.ireturn) len x y u w iv lc sw = true) (hop : am_do f (am_op (ag_T Z) d j pc lv st h (.ireturn) (pc + len) x y u iv lc sw) = some r) : Snd Z (d, j, pc, lv, st, h) r := by
  simp only [ej_, Bool.and_eq_true, nb_t] at hj
  obtain ⟨rfl, hj⟩ := hj
  simp only [am_op] at hop
  split at hop
  · rename_i v
    obtain ⟨b1, b2⟩ := ag_fin hop
    subst b2
    refine so_ret (v := some (.int v)) ⟨hd, ?_⟩
    split at hj
    · exact ⟨.int, of_decide_eq_true hj, rfl⟩
    · refine ⟨.boolean, of_decide_eq_true hj, ?_⟩
      rcases nr_bool b1 with rfl | rfl <;> rfl
    · exact ⟨.byte, of_decide_eq_true hj, congrArg Value.int (of_decide_eq_true b1)⟩
    · exact ⟨.char, of_decide_eq_true hj, congrArg Value.int (of_decide_eq_true b1)⟩
    · cases hj
  · cases hop
theorem sp_lreturn (hf : ∀ c r, f c = some r → Snd Z c r) (hd : decode (Z j).2.2.1 pc = .ok (.lreturn, len)) (hj : ej_ Z (Z j).2 pc (.lreturn) len x y u w iv lc sw = true) (hop : am_do f (am_op (ag_T Z) d j pc lv st h (.lreturn) (pc + len) x y u iv lc sw) = some r) : Snd Z (d, j, pc, lv, st, h) r := by
  simp only [ej_, Bool.and_eq_true, nb_t, decide_eq_true_eq] at hj
  obtain ⟨rfl, hj⟩ := hj
  simp only [am_op] at hop
  split at hop
  · rename_i v
    obtain ⟨b1, b2⟩ := ag_fin hop
    subst b2
    exact so_ret (v := some (.long v)) ⟨hd, hj⟩
  · cases hop
theorem sp_areturn (hf : ∀ c r, f c = some r → Snd Z c r) (hd : decode (Z j).2.2.1 pc = .ok (.areturn, len)) (hj : ej_ Z (Z j).2 pc (.areturn) len x y u w iv lc sw = true) (hop : am_do f (am_op (ag_T Z) d j pc lv st h (.areturn) (pc + len) x y u iv lc sw) = some r) : Snd Z (d, j, pc, lv, st, h) r := by
  simp only [ej_, Bool.and_eq_true, nb_t] at hj
  obtain ⟨rfl, hj⟩ := hj
  simp only [am_op] at hop
  split at hop
  · rename_i v
    obtain ⟨b1, b2⟩ := ag_fin hop
    subst b2
    refine so_ret (v := some (.ref v)) ⟨hd, ?_⟩
    split at hj
    · rename_i n e
      exact ⟨_, e, Or.inl ⟨n, rfl⟩⟩
    · rename_i n e
      exact ⟨_, e, Or.inr ⟨n, rfl⟩⟩
    · cases hj
  · cases hop
theorem sp_return (hf : ∀ c r, f c = some r → Snd Z c r) (hd : decode (Z j).2.2.1 pc = .ok (.return_, len)) (hj : ej_ Z (Z j).2 pc (.return_) len x y u w iv lc sw = true) (hop : am_do f (am_op (ag_T Z) d j pc lv st h (.return_) (pc + len) x y u iv lc sw) = some r) : Snd Z (d, j, pc, lv, st, h) r := by
  simp only [ej_, Bool.and_eq_true, nb_t, decide_eq_true_eq] at hj
  obtain ⟨rfl, hj⟩ := hj
  simp only [am_op] at hop
  split at hop
  · obtain ⟨b1, b2⟩ := ag_fin hop
    subst b2
    exact so_ret (v := none) ⟨hd, hj⟩
  · cases hop
theorem ag_K {b : Bool} {tag : Nat} {c1 : am_C} {k : Option Value → mm_M → am_C} {z : am_H} (e : am_do f (b, .inr (.inl (tag, c1, k, z))) = some r) : b = true ∧ ∃ ry : am_R, f c1 = some ry ∧ (∀ v, ry.1 = .inl v → f (k v ry.2) = some r) ∧ (∀ q, ry.1 = .inr q → am_hw f z q ry.2 = some r) := by
  cases b with
  | false =>
    match tag, e with
    | 0, e => cases e
    | 1, e => cases e
    | 2, e => cases e
    | _ + 3, e => cases e
  | true =>
    refine ⟨rfl, ?_⟩
    match tag, e with
    | 0, e =>
      have e : am_cV (f c1) (fun h => f (k none h)) (am_hw f z) = some r := e
      cases hc : f c1 with
      | none => rw [hc] at e; cases e
      | some ry =>
        rw [hc] at e
        refine ⟨ry, rfl, ?_⟩
        match ry, e with
        | (.inl none, h2), e => exact ⟨fun v q => (by cases q; exact e), fun v q => (by cases q)⟩
        | (.inr x2, h2), e => exact ⟨fun v q => (by cases q), fun v q => (by cases q; exact e)⟩
    | 1, e =>
      have e : am_cI (f c1) (fun v h => f (k (some (.int v)) h)) (am_hw f z) = some r := e
      cases hc : f c1 with
      | none => rw [hc] at e; cases e
      | some ry =>
        rw [hc] at e
        refine ⟨ry, rfl, ?_⟩
        match ry, e with
        | (.inl (some (.int v2)), h2), e => exact ⟨fun v q => (by cases q; exact e), fun v q => (by cases q)⟩
        | (.inr x2, h2), e => exact ⟨fun v q => (by cases q), fun v q => (by cases q; exact e)⟩
    | 2, e =>
      have e : am_cR (f c1) (fun v h => f (k (some (.ref v)) h)) (am_hw f z) = some r := e
      cases hc : f c1 with
      | none => rw [hc] at e; cases e
      | some ry =>
        rw [hc] at e
        refine ⟨ry, rfl, ?_⟩
        match ry, e with
        | (.inl (some (.ref v2)), h2), e => exact ⟨fun v q => (by cases q; exact e), fun v q => (by cases q)⟩
        | (.inr x2, h2), e => exact ⟨fun v q => (by cases q), fun v q => (by cases q; exact e)⟩
    | _ + 3, e =>
      have e : am_cJ (f c1) (fun v h => f (k (some (.long v)) h)) (am_hw f z) = some r := e
      cases hc : f c1 with
      | none => rw [hc] at e; cases e
      | some ry =>
        rw [hc] at e
        refine ⟨ry, rfl, ?_⟩
        match ry, e with
        | (.inl (some (.long v2)), h2), e => exact ⟨fun v q => (by cases q; exact e), fun v q => (by cases q)⟩
        | (.inr x2, h2), e => exact ⟨fun v q => (by cases q), fun v q => (by cases q; exact e)⟩
theorem ag_call {g : Bool} {nx c : Nat} (e : am_do f (am_call (ag_T Z) g d j pc nx lv st h c) = some r) : ((Z c).1.1 ≤ st.length ∧ ((st.drop (Z c).1.1).map fun v => v.category).sum ≤ 8 ∧ ((st.take (Z c).1.1).map fun v => v.category).sum ≤ (Z c).1.2.2.1) ∧ g = true ∧ 0 < d ∧ ∃ ry : am_R, f (d - 1, c, 0, lv_args 0 (st.take (Z c).1.1).reverse, [], h) = some ry ∧ (∀ v, ry.1 = .inl v → f (d, j, nx, lv, v.toList ++ st.drop (Z c).1.1, ry.2) = some r) ∧ (∀ q, ry.1 = .inr q → am_hw f ((Z j).1.2.2.2.1, d, j, pc, lv) q ry.2 = some r) := by
  obtain ⟨b, ry, h1, h2, h3⟩ := ag_K e
  simp only [Bool.and_eq_true] at b
  obtain ⟨⟨⟨b1, b2⟩, b3⟩, b4, b5⟩ := b
  exact ⟨⟨Nat.ble_eq.mp b1, Nat.ble_eq.mp b2, Nat.ble_eq.mp b3⟩, b4, Nat.ble_eq.mp b5, ry, h1, h2, h3⟩
theorem rv_sum (l : List Value) : (l.reverse.map fun v => v.category).sum = (l.map fun v => v.category).sum := by
  rw [List.map_reverse, List.sum_reverse]
theorem st_eq (n : Nat) : st = (st.take n).reverse.reverse ++ st.drop n := by rw [List.reverse_reverse, List.take_append_drop]
theorem sp_invS {k : Nat} (hf : ∀ c r, f c = some r → Snd Z c r) (hM : ∀ j, j < 273 → mb_ (Z j) = true) (hL : ∀ j, hl_ (Z j).2 (Z j).1.2.2.2.1 (Z j).2.2.2.2.2.1) (hd : decode (Z j).2.2.1 pc = .ok (.invokestatic k, len)) (hj : ej_ Z (Z j).2 pc (.invokestatic k) len x y u w iv lc sw = true) (hop : am_do f (am_op (ag_T Z) d j pc lv st h (.invokestatic k) (pc + len) x y u iv lc sw) = some r) : Snd Z (d, j, pc, lv, st, h) r := by
  simp only [ej_, Bool.and_eq_true, nb_t] at hj
  obtain ⟨rfl, hj⟩ := hj
  simp only [am_op] at hop
  split at hj
  · simp only at hop
    split at hop
    · obtain ⟨b1, b2⟩ := ag_if hop
      simp only [Bool.and_eq_true] at b1
      exact so_max hd (lu_in hj) lb_w.1.1 lb_w.1.2.1 lb_w.1.2.2 (Nat.ble_eq.mp b1.2) (Nat.ble_eq.mp b1.1) (hf _ _ b2)
    · cases hop
  · simp only at hop
    split at hop
    · obtain ⟨b1, b2⟩ := ag_if hop
      simp only [Bool.and_eq_true] at b1
      exact so_min hd (lu_in hj) lb_w.2.1.1 lb_w.1.2.1 lb_w.2.1.2 (Nat.ble_eq.mp b1.2) (Nat.ble_eq.mp b1.1) (hf _ _ b2)
    · cases hop
  · simp only at hop
    split at hop
    · obtain ⟨b1, b2⟩ := ag_if hop
      simp only [Bool.and_eq_true, Bool.not_eq_true', decide_eq_false_iff_not] at b1
      obtain ⟨⟨b3, b4⟩, ⟨⟨b5, b6⟩, b7, b8⟩, b9, b10, b11⟩ := b1
      exact so_copy hd (lu_in hj) lb_w.2.2.1.1 lb_w.2.2.1.2.1 lb_w.2.2.1.2.2 (Nat.ble_eq.mp b4) (Nat.ble_eq.mp b3) (of_decide_eq_true b5) (of_decide_eq_true b6) b7 b8 b9 (Nat.ble_eq.mp b10) (Nat.ble_eq.mp b11) (hf _ _ b2)
    · cases hop
  · cases hop
  · simp only [Bool.and_eq_true, kb_, decide_eq_true_eq] at hj
    obtain ⟨hx, ⟨h1, h2⟩, h3⟩ := hj
    split at hop
    · exact absurd (Eq.refl 1001) (by assumption)
    · exact absurd (Eq.refl 1002) (by assumption)
    · exact absurd (Eq.refl 1003) (by assumption)
    · exact absurd (Eq.refl 9999) (by assumption)
    · obtain ⟨⟨a1, a2, a3⟩, -, a4, ry, c1, c2, c3⟩ := ag_call hop
      have hm := mb_ok (hM x (Nat.ble_eq.mp hx))
      have hlen : (st.take (Z x).1.1).reverse.length = (Z x).1.1 := by rw [List.length_reverse, List.length_take, Nat.min_eq_left a1]
      have hA : ((st.take (Z x).1.1).reverse.map fun v => v.category).sum ≤ (Z x).2.2.2.1 := by rw [rv_sum, ← hm.1.2.2.2.2.2.2]; exact a3
      cases hfl : (Z x).2.2.2.2.2.2 with
      | false => exact so_callS hd hm.1 hfl (by rw [hlen]; exact h3) (lu_in h1) (lu_bi h2) a4 (st_eq _) a2 hA (hf _ _ c1) (fun v e => hf _ _ (c2 v e)) (fun q e => sx_hw hf (hL j) (c3 q e))
      | true => exact so_callX hd hm.1 hfl (by rw [hlen]; exact h3) (lu_in h1) (lu_bi h2) a4 (st_eq _) a2 hA (hf _ _ c1) (fun v e => hf _ _ (c2 v e)) (fun q e => sx_hw hf (hL j) (c3 q e))
/-- the last of the arguments on the stack is the receiver -/
theorem rc_eq {n : Nat} {v : Value} (h : st[n]? = some v) (hn : n + 1 ≤ st.length) : (st.take (n + 1)).reverse = v :: (st.take n).reverse := by
  obtain ⟨hl, he⟩ := List.getElem?_eq_some_iff.mp h
  rw [List.take_succ, h]
  simp
theorem sp_invI {k : Nat} (hf : ∀ c r, f c = some r → Snd Z c r) (hM : ∀ j, j < 273 → mb_ (Z j) = true) (hL : ∀ j, hl_ (Z j).2 (Z j).1.2.2.2.1 (Z j).2.2.2.2.2.1) (hd : decode (Z j).2.2.1 pc = .ok (.invokespecial k, len)) (hj : ej_ Z (Z j).2 pc (.invokespecial k) len x y u w iv lc sw = true) (hop : am_do f (am_op (ag_T Z) d j pc lv st h (.invokespecial k) (pc + len) x y u iv lc sw) = some r) : Snd Z (d, j, pc, lv, st, h) r := by
  simp only [ej_, Bool.and_eq_true, nb_t] at hj
  obtain ⟨rfl, hj⟩ := hj
  simp only [am_op] at hop
  split at hj
  · simp only at hop
    split at hop
    · obtain ⟨b1, b2⟩ := ag_if hop
      simp only [Bool.and_eq_true] at b1
      obtain ⟨⟨b3, b4⟩, b5⟩ := b1
      exact so_obj hd (lu_in hj) lb_w.2.2.2.1.1 lb_w.2.2.2.1.2 (Nat.ble_eq.mp b4) (Nat.ble_eq.mp b3) (Nat.ble_eq.mp b5) (hf _ _ b2)
    · cases hop
  · simp only [Bool.and_eq_true, Bool.or_eq_true, decide_eq_true_eq] at hj
    obtain ⟨hx, ⟨h1, h2, h3⟩, ⟨h4, h5⟩, h6⟩ := hj
    split at hop
    · exact absurd (Eq.refl 1000) (by assumption)
    · split at hop
      · rename_i a hy
        obtain ⟨⟨a1, a2, a3⟩, a0, a4, ry, c1, c2, c3⟩ := ag_call hop
        have hm := mb_ok (hM x (Nat.ble_eq.mp hx))
        have hA : ((st.take (Z x).1.1).reverse.map fun v => v.category).sum ≤ (Z x).2.2.2.1 := by rw [rv_sum, ← hm.1.2.2.2.2.2.2]; exact a3
        cases hn : (Z x).1.1 with
        | zero => rw [hn] at h6; cases h6
        | succ n =>
          rw [hn] at h6 a1 a2 a3 c1 c2 hA
          simp only [Bool.and_eq_true, kb_, decide_eq_true_eq, nb_t] at h6
          obtain ⟨h6, rfl⟩ := h6
          have hrc := rc_eq hy a1
          have hlen : (st.take y).reverse.length = y := by rw [List.length_reverse, List.length_take, Nat.min_eq_left (by omega)]
          rcases h1 with h1 | h1
          · exact so_callI hd hm.1 h5 h4 hrc (Nat.ble_eq.mp a0) (by rw [hlen]; exact h6) (lu_in h1) (lu_bi h2) h3 a4 (st_eq _) a2 hA (hf _ _ c1) (fun v e => hf _ _ (c2 v e)) (fun q e => sx_hw hf (hL j) (c3 q e))
          · exact so_callN hd hm.1 h5 h4 hrc (Nat.ble_eq.mp a0) (by rw [hlen]; exact h6) h1 (lu_bi h2) h3 a4 (st_eq _) a2 hA (hf _ _ c1) (fun v e => hf _ _ (c2 v e)) (fun q e => sx_hw hf (hL j) (c3 q e))
      · cases hop
theorem sp_invV {k : Nat} (hf : ∀ c r, f c = some r → Snd Z c r) (hM : ∀ j, j < 273 → mb_ (Z j) = true) (hL : ∀ j, hl_ (Z j).2 (Z j).1.2.2.2.1 (Z j).2.2.2.2.2.1) (hd : decode (Z j).2.2.1 pc = .ok (.invokevirtual k, len)) (hj : ej_ Z (Z j).2 pc (.invokevirtual k) len x y u w iv lc sw = true) (hop : am_do f (am_op (ag_T Z) d j pc lv st h (.invokevirtual k) (pc + len) x y u iv lc sw) = some r) : Snd Z (d, j, pc, lv, st, h) r := by
  simp only [ej_, Bool.and_eq_true, nb_t, decide_eq_true_eq] at hj
  obtain ⟨rfl, hx, ⟨⟨h1, h2⟩, h3, h4⟩, h5, h6⟩ := hj
  simp only [am_op] at hop
  split at hop
  · rename_i a hy
    obtain ⟨⟨a1, a2, a3⟩, a0, a4, ry, c1, c2, c3⟩ := ag_call hop
    have hm := mb_ok (hM x (Nat.ble_eq.mp hx))
    have hA : ((st.take (Z x).1.1).reverse.map fun v => v.category).sum ≤ (Z x).2.2.2.1 := by rw [rv_sum, ← hm.1.2.2.2.2.2.2]; exact a3
    simp only [Bool.and_eq_true] at a0
    cases hn : (Z x).1.1 with
    | zero => rw [hn] at h5; cases h5
    | succ n =>
      rw [hn] at h5 a1 a2 a3 c1 c2 hA
      simp only [Bool.and_eq_true, kb_, decide_eq_true_eq, nb_t] at h5
      obtain ⟨h5, rfl⟩ := h5
      have hrc := rc_eq hy a1
      have hlen : (st.take y).reverse.length = y := by rw [List.length_reverse, List.length_take, Nat.min_eq_left (by omega)]
      match u, h6, a0 with
      | 0, h6, a0 => exact absurd a0.1 (by decide)
      | ci + 1, h6, a0 =>
        have h6 : (match zc_L[ci]? with | some q => decide (q.1 = (Z x).2.1.cls) | none => false) = true := h6
        split at h6
        · rename_i q hz
          have h6 := of_decide_eq_true h6
          have ht : (mm_S h a).1 = ci + 1 := of_decide_eq_true a0.2
          refine so_callV hd hm.1 h4 hrc (by rw [hlen]; exact h5) (lu_in h1) (lu_bi h2) (lu_bi h3) a4 (st_eq _) a2 hA (fun {g s H locs} hwd hr hS => ?_) (hf _ _ c1) (fun v e => hf _ _ (c2 v e)) (fun q e => sx_hw hf (hL j) (c3 q e))
          have hp := hr_pos hr (a := a) (by omega)
          obtain ⟨cell, q1, q2, q3, -⟩ := (hr.1 a).2.2.2.2.2 ci q hz ht
          have hcl := (hwd.1.1 ci q hz).2.1
          rw [h6] at hcl
          exact ⟨g.1 + a, cr_pos hp, cell, q1, by rw [q3]; rfl, by rw [q2]; exact hcl⟩
        · cases h6
  · rename_i q0 hy
    obtain ⟨⟨a1, a2, a3⟩, a0, a4, ry, c1, c2, c3⟩ := ag_call hop
    have hm := mb_ok (hM x (Nat.ble_eq.mp hx))
    have hA : ((st.take (Z x).1.1).reverse.map fun v => v.category).sum ≤ (Z x).2.2.2.1 := by rw [rv_sum, ← hm.1.2.2.2.2.2.2]; exact a3
    simp only [Bool.and_eq_true, nb_t] at a0
    obtain ⟨rfl, a5⟩ := a0
    cases hn : (Z x).1.1 with
    | zero => rw [hn] at h5; cases h5
    | succ n =>
      rw [hn] at h5 a1 a2 a3 c1 c2 hA
      simp only [Bool.and_eq_true, kb_, decide_eq_true_eq, nb_t] at h5
      obtain ⟨h5, rfl⟩ := h5
      have hrc := rc_eq hy a1
      have hlen : (st.take y).reverse.length = y := by rw [List.length_reverse, List.length_take, Nat.min_eq_left (by omega)]
      have h6 : (Z x).2.1.cls = "java/lang/String" := of_decide_eq_true h6
      refine so_callV hd hm.1 h4 hrc (by rw [hlen]; exact h5) (lu_in h1) (lu_bi h2) (lu_bi h3) a4 (st_eq _) a2 hA (fun {g s H locs} hwd hr hS => ?_) (hf _ _ c1) (fun v e => hf _ _ (c2 v e)) (fun q e => sx_hw hf (hL j) (c3 q e))
      obtain ⟨t, u, e1, e2, b1, -⟩ := hwd.2.2.2.2.1 q0 a5
      obtain ⟨cell, q1, q2, q3⟩ := va_Orecv b1 hS
      exact ⟨t, by show va_rf (g.2.1 q0) = _; rw [e1]; rfl, cell, q1, q2, by rw [h6]; exact q3⟩
  · cases hop
end ASN
