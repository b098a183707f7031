/-! ===== rules of fields and of making ===== -/
theorem hp_new {g : cw_G} {h h' : mm_M} {H H' : Heap} {b : Nat} (hp : hp_ g h H b) (hS : mm_S h' b = mm_S h b) (hI : mm_I h' b = mm_I h b) (hJ : mm_J h' b = mm_J h b) (hP : mm_P h' b = mm_P h b) (ho : ∀ q, q < H.size → H'[q]? = H[q]?) : hp_ g h' H' b := by
  have key : ∀ c : Cell, H[g.1 + b]? = some c → H'[g.1 + b]? = some c := fun c hc => by
    rw [ho _ (Array.getElem?_eq_some_iff.mp hc).1]; exact hc
  obtain ⟨h1, h2, h3, h4, h5, h6⟩ := hp
  refine ⟨?_, ?_, ?_, ?_, ?_, ?_⟩
  · intro e; rw [mm_sz, hS, hI]; exact key _ (h1 (by rw [← hS]; exact e))
  · intro e; rw [mm_sz, hS, hI]; exact key _ (h2 (by rw [← hS]; exact e))
  · intro e; rw [mm_sz, hS, hJ]; exact key _ (h3 (by rw [← hS]; exact e))
  · intro e; rw [mm_sz, hS, hP]; exact key _ (h4 (by rw [← hS]; exact e))
  · intro e; rw [mm_sz, hS, hP]; exact key _ (h5 (by rw [← hS]; exact e))
  · intro ci r hc e
    obtain ⟨cell, q1, q2⟩ := h6 ci r hc (by rw [← hS]; exact e)
    refine (show t_OB (g.1 + b) (g.2.2.1.1 ci) r.2.2 (g.2.2.1.2 ci) H' (ho_ g h ci b) from ⟨cell, key _ q1, q2⟩).to fun k _ => ?_
    simp only [ho_, hI, hJ, hP]
theorem hr_al {g : cw_G} {h : mm_M} {H H' : Heap} {t z : Nat} (hr : hr_ g h H) (hx : mm_x h = 0) (hz : H'.size = H.size + 1) (ho : ∀ q, q < H.size → H'[q]? = H[q]?) (ha : hp_ g (mm_al h t z) H' (mm_n h + 1)) : hr_ g (mm_al h t z) H' := by
  obtain ⟨h1, h2, h3, h4, h5⟩ := hr
  refine ⟨fun b => ?_, ?_, fun _ => ?_, h4, h5⟩
  · by_cases hb : b = mm_n h + 1
    · rw [hb]; exact ha
    · refine hp_new (h1 b) ?_ ?_ ?_ ?_ ho
      · show (if b = mm_n h + 1 then (t, z) else mm_S h b) = mm_S h b
        rw [if_neg hb]
      · funext q; show (if b = mm_n h + 1 then 0 else mm_I h b q) = mm_I h b q
        rw [if_neg hb]
      · funext q; show (if b = mm_n h + 1 then 0 else mm_J h b q) = mm_J h b q
        rw [if_neg hb]
      · funext q; show (if b = mm_n h + 1 then 0 else mm_P h b q) = mm_P h b q
        rw [if_neg hb]
  · show (if 0 = mm_n h + 1 then (t, z) else mm_S h 0).1 = 0
    rw [if_neg (by omega)]; exact h2
  · rw [hz, h3 hx]; rfl
theorem mm_al_S (h : mm_M) (t z : Nat) : mm_S (mm_al h t z) (mm_n h + 1) = (t, z) := by
  show (if mm_n h + 1 = mm_n h + 1 then (t, z) else mm_S h (mm_n h + 1)) = (t, z)
  rw [if_pos rfl]
theorem mm_al_I (h : mm_M) (t z k : Nat) : mm_I (mm_al h t z) (mm_n h + 1) k = 0 := by
  show (if mm_n h + 1 = mm_n h + 1 then (0 : Int32) else mm_I h (mm_n h + 1) k) = 0
  rw [if_pos rfl]
theorem mm_al_J (h : mm_M) (t z k : Nat) : mm_J (mm_al h t z) (mm_n h + 1) k = 0 := by
  show (if mm_n h + 1 = mm_n h + 1 then (0 : Int64) else mm_J h (mm_n h + 1) k) = 0
  rw [if_pos rfl]
theorem mm_al_P (h : mm_M) (t z k : Nat) : mm_P (mm_al h t z) (mm_n h + 1) k = 0 := by
  show (if mm_n h + 1 = mm_n h + 1 then (0 : Nat) else mm_P h (mm_n h + 1) k) = 0
  rw [if_pos rfl]
theorem zc_df : ∀ c, c < 13 → ∀ r, zc_L[c]? = some r → ∀ k, k < r.2.2 → (zc_k c k = 0 → defaultValue (zc_y c k) = .int 0) ∧ (zc_k c k = 1 → defaultValue (zc_y c k) = .null) ∧ (zc_k c k = 2 → defaultValue (zc_y c k) = .long 0) ∧ zc_k c k < 3 := by
  intro c hc r hr
  have : ∀ c, c < 13 → ∀ k, k < ((zc_L.getD c ("", zF_Acts, 0)).2.2) → (zc_k c k = 0 → defaultValue (zc_y c k) = .int 0) ∧ (zc_k c k = 1 → defaultValue (zc_y c k) = .null) ∧ (zc_k c k = 2 → defaultValue (zc_y c k) = .long 0) ∧ zc_k c k < 3 := by decide +kernel
  have h2 := this c hc
  rw [List.getD_eq_getElem?_getD, hr] at h2
  exact h2
section OBJ
variable {Z : Nat → am_T × ms_T} {d j pc : Nat} {lv : lo_L} {r0 : List Value} {h h' : mm_M} {r : am_R} {a : Nat}
theorem so_getf {ci k idx : Nat} {q : vw_C} {v : Value} (hd : decode (Z j).2.2.1 pc = .ok (.getfield idx, 3)) (hz : zc_L[ci]? = some q) (hk : k < q.2.2) (hw : Cond.fieldLink (Z j).2.1.cls idx (q.2.1 k).1 (q.2.1 k).2.1 (q.2.1 k).2.2.1 ∈ lu_) (ht : (mm_S h a).1 = ci + 1) (hv : ∀ g, ho_ g h ci a k = cv_ g v)
    (hS : Snd Z (d, j, pc + 3, lv, v :: r0, h) r) : Snd Z (d, j, pc, lv, .ref a :: r0, h) r := by
  refine sn_op hS (fun {g p l e R s m args below meth cd H locs cells slots ls Q} F V kk => ?_)
  have hp : 0 < a := hr_pos V.1 (by omega)
  show W _ _ _ _ _ _ _ _ _ _ _ _ _ _ _ (F0 m pc ls (cr_ g.1 a :: r0.map (cv_ g)))
  rw [cr_pos hp]
  have hts := F.2.2.2.2.2.2.2.2.2.2.2.1
  have hK := F.2.2.2.2.2.2.2.2.2.2.2.2.1
  obtain ⟨cell, q1, q2, q3, q4⟩ := (V.1.1 a).2.2.2.2.2 ci q hz ht
  obtain ⟨hSl, hfc, kC, hkC, hkind⟩ := hK.1 ci _ hz
  obtain ⟨cf, kf, fi, f, hi, hsl⟩ := hSl k hk
  refine W.getf F.1 F.2.1 F.2.2.2.1 (hts _ hw) hi (u_facts hfc hkC (u_lays hts (zc_in ci (zc_lt hz) q hz) hk) hi).1 q1 (by rw [q3]; exact fun z => by cases z) (v := cv_ g v) ?_ rfl rfl hd kk
  rw [hsl, q4 k hk, hv]
theorem so_getN {ci k idx : Nat} {q : vw_C} {v : Value} {host : String} (hd : decode (Z j).2.2.1 pc = .ok (.getfield idx, 3)) (hz : zc_L[ci]? = some q) (hk : k < q.2.2) (hw : Cond.fieldLinkNest (Z j).2.1.cls idx (q.2.1 k).1 (q.2.1 k).2.1 (q.2.1 k).2.2.1 host ∈ nw_L) (ht : (mm_S h a).1 = ci + 1) (hv : ∀ g, ho_ g h ci a k = cv_ g v)
    (hS : Snd Z (d, j, pc + 3, lv, v :: r0, h) r) : Snd Z (d, j, pc, lv, .ref a :: r0, h) r := by
  refine sn_op hS (fun {g p l e R s m args below meth cd H locs cells slots ls Q} F V kk => ?_)
  have hp : 0 < a := hr_pos V.1 (by omega)
  show W _ _ _ _ _ _ _ _ _ _ _ _ _ _ _ (F0 m pc ls (cr_ g.1 a :: r0.map (cv_ g)))
  rw [cr_pos hp]
  have hts := F.2.2.2.2.2.2.2.2.2.2.2.1
  have hK := F.2.2.2.2.2.2.2.2.2.2.2.2.1
  obtain ⟨cell, q1, q2, q3, q4⟩ := (V.1.1 a).2.2.2.2.2 ci q hz ht
  obtain ⟨hSl, hfc, kC, hkC, hkind⟩ := hK.1 ci _ hz
  obtain ⟨cf, kf, fi, f, hi, hsl⟩ := hSl k hk
  refine va_Wgetf F.1 F.2.1 F.2.2.2.1 (va_Nw.use rfl (F.2.2.2.2.2.2.2.2.2.2.2.2.2.2.2.2.2.2.2.2.2.2.2.2.1 _ hw)) hi (u_facts hfc hkC (u_lays hts (zc_in ci (zc_lt hz) q hz) hk) hi).1 q1 (by rw [q3]; exact fun z => by cases z) (v := cv_ g v) ?_ rfl rfl hd kk
  rw [hsl, q4 k hk, hv]
/-- a field is written; fin: a final one, by a constructor of its class -/
theorem so_putf {ci k idx : Nat} {q : vw_C} {v : Value} (hd : decode (Z j).2.2.1 pc = .ok (.putfield idx, 3)) (hz : zc_L[ci]? = some q) (hk : k < q.2.2) (hw : Cond.fieldLink (Z j).2.1.cls idx (q.2.1 k).1 (q.2.1 k).2.1 (q.2.1 k).2.2.1 ∈ lu_) (hfin : (q.2.1 k).2.2.2 = false ∨ ((q.2.1 k).2.2.2 = true ∧ (Z j).2.1.name = "<init>" ∧ (q.2.1 k).1 = (Z j).2.1.cls)) (ht : (mm_S h a).1 = ci + 1)
    (hn : ∀ g, narrow (zc_y ci k) (cv_ g v) = cv_ g v) (hfit : ∀ g, fits (zc_y ci k) (cv_ g v) = true)
    (hmS : mm_S h' = mm_S h) (hI : ∀ b, b ≠ a → mm_I h' b = mm_I h b) (hJ : ∀ b, b ≠ a → mm_J h' b = mm_J h b) (hP : ∀ b, b ≠ a → mm_P h' b = mm_P h b) (hmn : mm_n h' = mm_n h) (hmx : mm_x h' = mm_x h) (hms : mm_s h' = mm_s h) (hO : mm_O h' = mm_O h) (hL : mm_L h' = mm_L h) (hho : ∀ g i, i < q.2.2 → updV (ho_ g h ci a) k (cv_ g v) i = ho_ g h' ci a i)
    (hS : Snd Z (d, j, pc + 3, lv, r0, h') r) : Snd Z (d, j, pc, lv, v :: .ref a :: r0, h) r := by
  refine sn_wr hS (by rw [tt_, hmn, hmx]; rfl) hms (fun {g p l e R s m args below meth cd H locs cells slots ls Q} F V kk => ?_)
  have hp : 0 < a := hr_pos V.1 (by omega)
  show W _ _ _ _ _ _ _ _ _ _ _ _ _ _ _ (F0 m pc ls (cv_ g v :: cr_ g.1 a :: r0.map (cv_ g)))
  rw [cr_pos hp]
  have hts := F.2.2.2.2.2.2.2.2.2.2.2.1
  have hK := F.2.2.2.2.2.2.2.2.2.2.2.2.1
  have hl13 := zc_lt hz
  have hin := zc_in ci hl13 q hz
  have hty := zc_ty ci hl13 q hz
  have hap := va_apart (own := (Z j).2.1.cls) (C := q.1) (T := q.2.1) (N := q.2.2) hts hin (zc_y ci) hty (zc_nm ci hl13 q hz) hK hz
  obtain ⟨cell, q1, q2, q3, q4⟩ := (V.1.1 a).2.2.2.2.2 ci q hz ht
  obtain ⟨hSl, hfc, kC, hkC, hkind⟩ := hK.1 ci _ hz
  obtain ⟨cf, kf, fi, f, hi, hsl⟩ := hSl k hk
  have hst := (u_facts hfc hkC (u_lays hts hin hk) hi).1
  have hlay := hts _ (hin _ (u_in_lay hk))
  have fin : ∀ H', H'[g.1 + a]? = some (cell.setSlot (g.2.2.1.2 ci k) (cv_ g v)) → H'.size = H.size → (∀ z, z ≠ g.1 + a → H'[z]? = H[z]?) → hr_ g h' H' := fun H' e1 e2 e3 =>
    hr_upd V.1 hmS hI hJ hP hmn hmx hO hL e2 e3 (hp_ob hz (by rw [hmS]; exact ht) (t_OB.to (V := updV (ho_ g h ci a) k (cv_ g v)) ⟨_, e1, q2, q3, t_set q4 hap hk (cv_ g v)⟩ (fun i hi => hho g i hi)))
  unfold u_lay at hlay
  rcases hfin with hfin | ⟨hfin, hin1, hin2⟩
  · rw [if_neg (by rw [hfin]; decide)] at hlay
    have h6 := u_store hfc hkC hkind hlay hi (hty k hk) (hn g) (hfit g)
    refine W.putK F.1 F.2.1 (f := f) ⟨F.2.2.2.1, hts _ hw, ⟨_, _, _, hi⟩, hst⟩ (by rw [q2]; exact h6) q1 q3 (by rw [hsl]; exact k2_hasslot (q4 k hk)) rfl rfl hd fun H' e1 e2 e3 => ?_
    rw [hsl] at e1 ⊢
    exact kk H' _ (fin H' e1 e2 e3) (V.2.1.put e2 e3 (show g.1 < g.1 + a by omega))
  · rw [if_pos hfin] at hlay
    have hcf : m.cls = cf := by
      obtain ⟨_, _, c', _, _, _, -, -, hf', -, -, -, hown2, -⟩ := Cond.laysFinal_spec hlay
      have e1 : c' = cf := by have := hi.symm.trans hf'; simp at this; exact this.1.symm
      rw [hin2] at hown2
      rw [← e1]; exact Option.some.inj (F.2.2.2.1.symm.trans hown2)
    have h6 := u_fits hfc hkC hkind (Or.inr hlay) hi (hty k hk) (hn g) (hfit g)
    refine W.putFinK F.1 F.2.1 F.2.2.2.1 (hts _ hw) hi hst hcf (F.2.2.2.2.2.2.2.1 hin1) (by rw [q2]; exact h6) q1 q3 (by rw [hsl]; exact k2_hasslot (q4 k hk)) rfl rfl hd fun H' e1 e2 e3 => ?_
    rw [hsl] at e1 ⊢
    exact kk H' _ (fin H' e1 e2 e3) (V.2.1.put e2 e3 (show g.1 < g.1 + a by omega))
theorem so_new {ci idx : Nat} {q : vw_C} (hd : decode (Z j).2.2.1 pc = .ok (.new idx, 3)) (hz : zc_L[ci]? = some q) (hcl : Cond.classLink (Z j).2.1.cls idx q.1 ∈ lu_) (hinst : Cond.instantiable q.1 q.2.2 ∈ lu_) (hini : Cond.initialized q.1 ∈ lu_) (hx : mm_x h = 0)
    (hS : Snd Z (d, j, pc + 3, lv, .ref (mm_n h + 1) :: r0, mm_al h (ci + 1) q.2.2) r) : Snd Z (d, j, pc, lv, r0, h) r := by
  have h1 : mm_n h + 1 + mm_x h ≤ tt_ r.2 := hS.1.1
  have h2 : mm_s h + q.2.2 ≤ mm_s r.2 := hS.1.2
  refine ⟨⟨by show mm_n h + mm_x h ≤ _; omega, by show mm_s h ≤ _; omega⟩, fun g p l e R s m args below meth cd F Q qq H locs cells slots ls V => ?_⟩
  have hts := F.2.2.2.2.2.2.2.2.2.2.2.1
  have hK := F.2.2.2.2.2.2.2.2.2.2.2.2.1
  have v3 : cells + tt_ r.2 ≤ R.cells + (mm_n h + mm_x h) := V.2.2.2.1
  have v4 : slots + mm_s r.2 ≤ R.slots + mm_s h := V.2.2.2.2
  have hKn := hK.1 ci _ hz
  have hsz : H.size = g.1 + mm_n h + 1 := V.1.2.2.1 hx
  refine W.newcK F.1 F.2.1 F.2.2.2.1 (hts _ hcl) (hts _ hinst) (hts _ hini) rfl hd (by omega) (by omega) hKn.2.1 hsz fun H1 kC hkC e1 z1 o1 => ?_
  have hb := (u_born (zc_y ci) hts (zc_in ci (zc_lt hz) q hz) hKn hkC e1 (zc_ty ci (zc_lt hz) q hz))
  have hr1 : hr_ g (mm_al h (ci + 1) q.2.2) H1 := by
    refine hr_al V.1 hx (by rw [z1, hsz]) (fun z hz => o1 z (by omega)) (hp_ob hz (by rw [mm_al_S]) ?_)
    refine t_OB.to (V := fun k => defaultValue (zc_y ci k)) (by rw [← Nat.add_assoc]; exact hb) fun k hk => ?_
    obtain ⟨d0, d1, d2, d3⟩ := zc_df ci (zc_lt hz) q hz k hk
    show defaultValue (zc_y ci k) = ho_ _ _ _ _ _
    unfold ho_
    rcases (show zc_k ci k = 0 ∨ zc_k ci k = 1 ∨ zc_k ci k = 2 by omega) with e | e | e
    · rw [d0 e, e, mm_al_I]; rfl
    · rw [d1 e, e, mm_al_P]; rfl
    · rw [d2 e, e, mm_al_J]; rfl
  have hk := hS.2 g p l e R s m args below meth cd F Q qq H1 locs (cells + 1) (slots + q.2.2) ls ⟨hr1, ⟨by have := V.2.1.1; omega, fun x a1 a2 => (o1 x (by have := V.2.1.1; omega)).trans (V.2.1.2.1 x a1 a2), V.2.1.2.2⟩, V.2.2.1, by show cells + 1 + tt_ r.2 ≤ R.cells + (mm_n h + 1 + mm_x h); omega, by show slots + q.2.2 + mm_s r.2 ≤ R.slots + (mm_s h + q.2.2); omega⟩
  exact hk
end OBJ
