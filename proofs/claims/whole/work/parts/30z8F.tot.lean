/-! ===== THE ABSTRACT MACHINE IS SOUND ===== -/
section TOT
variable {Z : Nat → am_T × ms_T} {f : am_C → Option am_R} {d j pc len x y u w : Nat} {lv : lo_L} {st : List Value} {h : mm_M} {r : am_R} {iv : Int32} {lc : Int64} {sw : List (Int32 × Nat)}
set_option maxHeartbeats 4000000 in
theorem sp_all {ins : Instr} (hf : ∀ c r, f c = some r → Snd Z c r) (hM : ∀ j, j < 273 → mb_ (Z j) = true) (hL : ∀ j, hl_ (Z j).2 (Z j).1.2.2.2.1 (Z j).2.2.2.2.2.1) (hd : decode (Z j).2.2.1 pc = .ok (ins, len)) (hj : ej_ Z (Z j).2 pc ins len x y u w iv lc sw = true) (hop : am_do f (am_op (ag_T Z) d j pc lv st h ins (pc + len) x y u iv lc sw) = some r) : Snd Z (d, j, pc, lv, st, h) r := by
  cases ins with
  | iconst _ => exact sp_iconst hf hd hj hop
  | bipush _ => exact sp_bipush hf hd hj hop
  | sipush _ => exact sp_sipush hf hd hj hop
  | lconst _ => exact sp_lconst hf hd hj hop
  | ldc_w _ => exact sp_ldcw hf hd hj hop
  | ldc2_w _ => exact sp_ldc2 hf hd hj hop
  | ldc _ => exact sp_ldc hf hd hj hop
  | iload _ => exact sp_iload hf hd hj hop
  | lload _ => exact sp_lload hf hd hj hop
  | aload _ => exact sp_aload hf hd hj hop
  | iload_n _ => exact sp_iload_n hf hd hj hop
  | lload_n _ => exact sp_lload_n hf hd hj hop
  | aload_n _ => exact sp_aload_n hf hd hj hop
  | istore _ => exact sp_istore hf hd hj hop
  | lstore _ => exact sp_lstore hf hd hj hop
  | astore _ => exact sp_astore hf hd hj hop
  | istore_n _ => exact sp_istore_n hf hd hj hop
  | lstore_n _ => exact sp_lstore_n hf hd hj hop
  | astore_n _ => exact sp_astore_n hf hd hj hop
  | iinc _ _ => exact sp_iinc hf hd hj hop
  | goto _ => exact sp_goto hf hd hj hop
  | tableswitch _ _ _ _ => exact sp_tab hf hd hj hop
  | lookupswitch _ _ => exact sp_look hf hd hj hop
  | arraylength => exact sp_alen hf hd hj hop
  | getfield _ => exact sp_getf hf hd hj hop
  | putfield _ => exact sp_putf hf hd hj hop
  | getstatic _ => exact sp_gets hf hd hj hop
  | newarray _ => exact sp_newa hf hd hj hop
  | anewarray _ => exact sp_anew hf hd hj hop
  | multianewarray _ _ => exact sp_mna hf hd hj hop
  | new _ => exact sp_new hf hd hj hop
  | ireturn => exact sp_ireturn hf hd hj hop
  | lreturn => exact sp_lreturn hf hd hj hop
  | areturn => exact sp_areturn hf hd hj hop
  | return_ => exact sp_return hf hd hj hop
  | iadd => exact sp_iadd hf hd hj hop
  | isub => exact sp_isub hf hd hj hop
  | imul => exact sp_imul hf hd hj hop
  | iand => exact sp_iand hf hd hj hop
  | ior => exact sp_ior hf hd hj hop
  | ishl => exact sp_ishl hf hd hj hop
  | ishr => exact sp_ishr hf hd hj hop
  | ineg => exact sp_ineg hf hd hj hop
  | i2l => exact sp_i2l hf hd hj hop
  | l2i => exact sp_l2i hf hd hj hop
  | i2b => exact sp_i2b hf hd hj hop
  | i2c => exact sp_i2c hf hd hj hop
  | ladd => exact sp_ladd hf hd hj hop
  | lsub => exact sp_lsub hf hd hj hop
  | lmul => exact sp_lmul hf hd hj hop
  | lcmp => exact sp_lcmp hf hd hj hop
  | idiv => exact sp_idiv hf hd hj hop
  | irem => exact sp_irem hf hd hj hop
  | ldiv => exact sp_ldiv hf hd hj hop
  | dup => exact sp_dup hf hd hj hop
  | dup2 => exact sp_dup2 hf hd hj hop
  | pop => exact sp_pop hf hd hj hop
  | iaload => exact sp_iaload hf hd hj hop
  | baload => exact sp_baload hf hd hj hop
  | laload => exact sp_laload hf hd hj hop
  | iastore => exact sp_iastore hf hd hj hop
  | bastore => exact sp_bastore hf hd hj hop
  | lastore => exact sp_lastore hf hd hj hop
  | aaload => exact sp_aaload hf hd hj hop
  | aastore => exact sp_aastore hf hd hj hop
  | invokestatic _ => exact sp_invS hf hM hL hd hj hop
  | invokespecial _ => exact sp_invI hf hM hL hd hj hop
  | invokevirtual _ => exact sp_invV hf hM hL hd hj hop
  | ifCond c t =>
    cases c with
    | eq => exact sp_if_eq hf hd hj hop
    | ne => exact sp_if_ne hf hd hj hop
    | lt => exact sp_if_lt hf hd hj hop
    | ge => exact sp_if_ge hf hd hj hop
    | gt => exact sp_if_gt hf hd hj hop
    | le => exact sp_if_le hf hd hj hop
  | if_icmp c t =>
    cases c with
    | eq => exact sp_icmp_eq hf hd hj hop
    | ne => exact sp_icmp_ne hf hd hj hop
    | lt => exact sp_icmp_lt hf hd hj hop
    | ge => exact sp_icmp_ge hf hd hj hop
    | gt => exact sp_icmp_gt hf hd hj hop
    | le => exact sp_icmp_le hf hd hj hop
  | _ => cases hop
theorem fd_ok : ∀ {l : List am_E} {pc : Nat} {e : am_E}, am_find l pc = some e → e ∈ l ∧ e.1 = pc
  | [], _, _, h => by cases h
  | q :: l, pc, e, h => by
    unfold am_find at h
    cases hb : Nat.beq q.1 pc with
    | true =>
      rw [hb] at h
      cases h
      exact ⟨List.mem_cons_self, nb_t.mp hb⟩
    | false =>
      rw [hb] at h
      have := fd_ok (l := l) h
      exact ⟨List.mem_cons_of_mem _ this.1, this.2⟩
theorem sp_step (hf : ∀ c r, f c = some r → Snd Z c r) (hM : ∀ j, j < 273 → mb_ (Z j) = true) (hL : ∀ j, hl_ (Z j).2 (Z j).1.2.2.2.1 (Z j).2.2.2.2.2.1) (hE : ∀ j, (Z j).1.2.2.2.2.all (ek_ Z (Z j).2) = true) (c : am_C) (r : am_R) (e : am_step (ag_T Z) f c = some r) : Snd Z c r := by
  obtain ⟨d, j, pc, lv, st, h⟩ := c
  unfold am_step at e
  simp only [am_act] at e
  split at e
  · cases e
  · rename_i q pc' ins len x y u w iv lc lab sw hq
    obtain ⟨m1, m2⟩ := fd_ok hq
    have hk := List.all_eq_true.mp (hE j) _ m1
    simp only at m2
    subst m2
    simp only [ek_, Bool.and_eq_true, decide_eq_true_eq] at hk
    refine sn_keep (lv' := am_lv lab lv) (sp_all hf hM hL hk.1 hk.2 e) (fun z hz => ?_)
    cases lab with
    | none => exact hz
    | some ks => exact (List.mem_filter.mp hz).1
theorem am_sound (hM : ∀ j, j < 273 → mb_ (Z j) = true) (hL : ∀ j, hl_ (Z j).2 (Z j).1.2.2.2.1 (Z j).2.2.2.2.2.1) (hE : ∀ j, (Z j).1.2.2.2.2.all (ek_ Z (Z j).2) = true) {c : am_C} {r : am_R} (e : am_X (ag_T Z) c = some r) : Snd Z c r := by
  obtain ⟨n, hn⟩ := (am_X_iff _ _ _).mp e
  have key : ∀ n c r, am_run (ag_T Z) n c = some r → Snd Z c r := by
    intro n
    induction n with
    | zero => intro c r e; cases e
    | succ n ih => exact fun c r e => sp_step ih hM hL hE c r e
  exact key n c r hn
end TOT
