/-! ===== new int[n][k] ===== -/
theorem mn_out (c : ClassId) (N h0 : Nat) : ∀ i : Nat, Jvm.Free.Multi.outerC c N h0 i = arrV c N (fun j => if j < i then Value.ref (h0 + 1 + j) else .null)
  | 0 => by
    show ({ cls := c, slots := Array.replicate N .null, vm := .none } : Cell) = _
    rw [arrV_new]
    refine congrArg (arrV c N) (funext fun j => ?_)
    simp
  | i + 1 => by
    show (Jvm.Free.Multi.outerC c N h0 i).setSlot i (.ref (h0 + 1 + i)) = _
    rw [mn_out c N h0 i, arrV_store]
    refine congrArg (arrV c N) (funext fun j => ?_)
    by_cases e : j = i
    · subst e
      simp [updV]
    · by_cases h : j < i
      · simp [updV, e, h, Nat.lt_succ_of_lt h]
      · simp [updV, e, h, show ¬ j < i + 1 by omega]
section MNA
variable {Z : Nat → am_T × ms_T} {d j pc : Nat} {lv : lo_L} {r0 : List Value} {h : mm_M} {r : am_R}
theorem so_mna {idx : Nat} {n k : Int32} (hd : decode (Z j).2.2.1 pc = .ok (.multianewarray idx 2, 4)) (w1 : Cond.classLink (Z j).2.1.cls idx ("[" ++ (FieldType.array .int).toString) ∈ lu_) (w2 : Cond.arrayClass .int ∈ lu_) (h1 : ¬ n < 0) (h2 : n.toNatClampNeg ≤ 1000) (h3 : ¬ k < 0) (h4 : k.toNatClampNeg ≤ 1000) (hx : mm_x h = 0)
    (hS : Snd Z (d, j, pc + 4, lv, .ref (mm_n h + 1) :: r0, mm_al2 h n.toNatClampNeg k.toNatClampNeg) r) : Snd Z (d, j, pc, lv, .int k :: .int n :: r0, h) r := by
  have a1 : mm_n h + 1 + n.toNatClampNeg + mm_x h ≤ tt_ r.2 := hS.1.1
  have a2 : mm_s h + n.toNatClampNeg + n.toNatClampNeg * k.toNatClampNeg ≤ mm_s r.2 := hS.1.2
  refine ⟨⟨by show mm_n h + mm_x h ≤ _; omega, by show mm_s h ≤ _; omega⟩, fun g p l e R s m args below meth cd F Q qq H locs cells slots ls V => ?_⟩
  have hts := F.2.2.2.2.2.2.2.2.2.2.2.1
  have hwd := F.2.2.2.2.2.2.2.2.2.2.2.2
  have hK := hwd.1
  have v3 : cells + tt_ r.2 ≤ R.cells + (mm_n h + mm_x h) := V.2.2.2.1
  have v4 : slots + mm_s r.2 ≤ R.slots + mm_s h := V.2.2.2.2
  have hsz : H.size = g.1 + mm_n h + 1 := V.1.2.2.1 hx
  generalize hN : n.toNatClampNeg = N at *
  generalize hM : k.toNatClampNeg = K at *
  intro T hT Xs
  obtain ⟨vm₁, cA, comp, -, fA, fC, -, -, X', step⟩ := Xs.multianewarray2F F.1 F.2.2.2.1 (hts _ w1) (hwd.2.2.2.2.2.2.2.2.2.2.2.2.2.2.1) (hts _ w2) (g := F0 m pc ls (.int k :: .int n :: r0.map (cv_ g))) rfl (by rw [F.2.1]; exact hd) rfl h1 h3 (by rw [hN]; omega) (by rw [hM]; show K * 4 ≤ _; omega) (by rw [hM]; omega) rfl rfl (by rw [hN]; omega) (by rw [hN, hM]; omega)
  rw [hN, hM] at X' step
  have eA : cA = g.2.2.2.1 4 := Option.some.inj (fA.symm.trans (hK.2 4 _ rfl).2)
  have eC : comp = g.2.2.2.1 0 := Option.some.inj (fC.symm.trans (hK.2 0 _ rfl).2)
  subst eA
  subst eC
  have hTh : (T.setVm vm₁).heap = H := hT
  obtain ⟨f1, f2, -, -⟩ := Jvm.Free.Multi.fill_facts (T.setVm vm₁) (g.2.2.2.1 4) (g.2.2.2.1 0) N K (defaultValue .int) N
  have hold : ∀ x : Nat, x < H.size → (Jvm.Free.Multi.fill (T.setVm vm₁) (g.2.2.2.1 4) (g.2.2.2.1 0) N K (defaultValue .int) N).heap[x]? = H[x]? := fun x hx => by
    have := Jvm.Free.Multi.fill_old (T.setVm vm₁) (g.2.2.2.1 4) (g.2.2.2.1 0) N K (defaultValue .int) (a := x) (by rw [hTh]; exact hx) N
    rw [hTh] at this
    exact this
  have hrow : ∀ q : Nat, q < N → (Jvm.Free.Multi.fill (T.setVm vm₁) (g.2.2.2.1 4) (g.2.2.2.1 0) N K (defaultValue .int) N).heap[H.size + 1 + q]? = some (arrV (g.2.2.2.1 0) K (fun _ => .int 0)) := fun q hq => by
    have := Jvm.Free.Multi.fill_inner (T.setVm vm₁) (g.2.2.2.1 4) (g.2.2.2.1 0) N K (defaultValue .int) N q hq
    rw [hTh] at this
    rw [this]
    exact congrArg some (arrV_new _ _ _)
  rw [hTh] at f1 f2
  rw [mn_out] at f2
  generalize hF : Jvm.Free.Multi.fill (T.setVm vm₁) (g.2.2.2.1 4) (g.2.2.2.1 0) N K (defaultValue .int) N = G at *
  have hr1 : hr_ g (mm_al2 h N K) G.heap := by
    obtain ⟨q1, q2, q3, q4, q5⟩ := V.1
    refine ⟨fun b => ?_, ?_, fun _ => ?_, q4, q5⟩
    · by_cases b1 : b = mm_n h + 1
      · subst b1
        have es : mm_S (mm_al2 h N K) (mm_n h + 1) = (104, N) := by
          show (if mm_n h + 1 = mm_n h + 1 then (104, N) else _) = _
          rw [if_pos rfl]
        refine hp_104 (by rw [es]) ?_
        rw [← Nat.add_assoc, ← hsz, f2]
        show some (arrV _ N _) = some (arrV _ (mm_S (mm_al2 h N K) (mm_n h + 1)).2 _)
        rw [es]
        refine congrArg some (congrArg (arrV _ _) (funext fun q => ?_))
        show (if q < N then Value.ref (H.size + 1 + q) else .null) = cr_ g.1 (if mm_n h + 1 = mm_n h + 1 then (if q < N then mm_n h + 2 + q else 0) else mm_P h (mm_n h + 1) q)
        rw [if_pos rfl]
        by_cases hq : q < N
        · rw [if_pos hq, if_pos hq, cr_pos (by omega), hsz]
          have hh : g.1 + mm_n h + 1 + 1 + q = g.1 + (mm_n h + 2 + q) := by omega
          exact congrArg Value.ref hh
        · rw [if_neg hq, if_neg hq]
          rfl
      · by_cases b2 : mm_n h + 1 < b ∧ b ≤ mm_n h + 1 + N
        · have es : mm_S (mm_al2 h N K) b = (100, K) := by
            show (if b = mm_n h + 1 then (104, N) else if mm_n h + 1 < b ∧ b ≤ mm_n h + 1 + N then (100, K) else mm_S h b) = _
            rw [if_neg b1, if_pos b2]
          refine hp_100 (by rw [es]) ?_
          have := hrow (b - (mm_n h + 2)) (by omega)
          rw [show H.size + 1 + (b - (mm_n h + 2)) = g.1 + b by omega] at this
          rw [this]
          show some (arrV _ K _) = some (arrV _ (mm_S (mm_al2 h N K) b).2 _)
          rw [es]
          refine congrArg some (congrArg (arrV _ _) (funext fun q => ?_))
          show Value.int 0 = .int (if mm_n h < b ∧ b ≤ mm_n h + 1 + N then 0 else mm_I h b q)
          rw [if_pos (by omega)]
        · refine hp_new (q1 b) ?_ ?_ rfl ?_ hold
          · show (if b = mm_n h + 1 then (104, N) else if mm_n h + 1 < b ∧ b ≤ mm_n h + 1 + N then (100, K) else mm_S h b) = _
            rw [if_neg b1, if_neg b2]
          · funext q
            show (if mm_n h < b ∧ b ≤ mm_n h + 1 + N then 0 else mm_I h b q) = mm_I h b q
            rw [if_neg (by omega)]
          · funext q
            show (if b = mm_n h + 1 then (if q < N then mm_n h + 2 + q else 0) else mm_P h b q) = mm_P h b q
            rw [if_neg b1]
    · show (if 0 = mm_n h + 1 then (104, N) else if mm_n h + 1 < 0 ∧ 0 ≤ mm_n h + 1 + N then (100, K) else mm_S h 0).1 = 0
      rw [if_neg (by omega), if_neg (by omega)]
      exact q2
    · rw [f1, hsz]
      show _ = g.1 + (mm_n h + 1 + N) + 1
      omega
  have hW := hS.2 g p l e R s m args below meth cd F Q qq G.heap locs (cells + 1 + N) (slots + N + N * K) ls ⟨hr1, ⟨by have := V.2.1.1; omega, fun x b1 b2 => (hold x (by have := V.2.1.1; omega)).trans (V.2.1.2.1 x b1 b2), V.2.1.2.2⟩, V.2.2.1, by show cells + 1 + N + tt_ r.2 ≤ R.cells + (mm_n h + 1 + N + mm_x h); omega, by show slots + N + N * K + mm_s r.2 ≤ R.slots + (mm_s h + N + N * K); omega⟩
  have hW : W p l e R s m args below meth cd G.heap locs (cells + 1 + N) (slots + N + N * K) Q (F0 m (pc + 4) ls (.ref (g.1 + (mm_n h + 1)) :: r0.map (cv_ g))) := hW
  obtain ⟨t, c1, c2⟩ := hW G rfl X'
  rw [hT, hsz] at step
  exact ⟨t, step t c1, c2⟩
end MNA
