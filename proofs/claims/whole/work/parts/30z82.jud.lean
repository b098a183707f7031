/-! ===== the judgement: a configuration that comes to a result stands for the machine's walk ===== -/
/-- places and exceptions so far -/
def tt_ (h : mm_M) : Nat := mm_n h + mm_x h
/-- where a string constant stands: class, entry, text, number among the old things -/
def sr_L : List (String × Nat × String × UInt32) := [("LastChange$Reader", 91, "clock", 1), ("LastChange$Reader", 125, "team", 2), ("LastChange$Reader", 110, "last", 3), ("LastChange$Reader", 130, "line", 4), ("LastChange$Reader", 140, "pair", 5), ("LastChange$Reader", 123, "extra", 6), ("LastChangeModel", 211, "clock", 11), ("LastChangeModel", 193, "team", 12), ("LastChangeModel", 184, "last", 13), ("LastChangeModel", 198, "line", 14), ("LastChangeModel", 200, "pair", 15), ("LastChangeModel", 206, "extra", 16)]
/-- the array types of the array classes -/
def ty_L (g : cw_G) : List (ClassId × FieldType) := [(g.2.2.2.1 0, .int), (g.2.2.2.1 1, .byte), (g.2.2.2.1 2, .long), (g.2.2.2.1 3, .object "LastChange$Side"), (g.2.2.2.1 4, .array .int)]
abbrev aa_ (g : cw_G) : Nat → Prop := fun q => g.1 < q
/-- words that are not among the good ones: by themselves -/
def nw_L : List Cond := [.methodLinkNest "LastChange" 9 ⟨"LastChange$Rink", "<init>", "()V"⟩ "LastChange", .methodLinkNest "LastChange" 21 ⟨"LastChange$Reader", "<init>", "()V"⟩ "LastChange", .methodLinkNest "LastChange$Reader" 11 ⟨"LastChange$Rink", "<init>", "()V"⟩ "LastChange", .methodLinkNest "LastChange" 28 ⟨"LastChange$Acts", "<init>", "()V"⟩ "LastChange", .methodLinkNest "LastChange" 60 ⟨"LastChange$Pull", "<init>", "()V"⟩ "LastChange", .methodLinkNest "LastChange" 76 ⟨"LastChange$Speech", "<init>", "()V"⟩ "LastChange", .fieldLinkNest "LastChange$Rotation" 28 "LastChange$Ahead" "rink" "LLastChange$Rink;" "LastChange", .castable "java/lang/IllegalArgumentException" "java/lang/IllegalArgumentException", .castable "java/util/NoSuchElementException" "java/util/NoSuchElementException", .declares ⟨"java/lang/RuntimeException", "<init>", "()V"⟩, .declares ⟨"java/lang/Exception", "<init>", "()V"⟩, .declares ⟨"java/lang/Throwable", "<init>", "()V"⟩]
/-- the class of int[][] can be made -/
def aw_ (s : State) : Prop := (Cond.arrayOver (.array .int)).before #[] s = true
/-- what the tables and the old things say at a method's entry -/
def wd_ (g : cw_G) (s : State) (H : Heap) : Prop :=
  va_K g.2.2.1 zc_L (ty_L g) s ∧ g.1 < H.size ∧
  (∀ q, od_i q = true → ∃ t, g.2.1 q = some t ∧ va_T .int t (g.2.2.2.2.2 q) (fun j => .int (g.2.2.2.2.1 q j)) (aa_ g) s H) ∧
  (∀ q, od_b q = true → ∃ t, g.2.1 q = some t ∧ va_T .byte t (g.2.2.2.2.2 q) (fun j => .int (g.2.2.2.2.1 q j)) (aa_ g) s H) ∧
  (∀ q, od_s q = true → ∃ t u, g.2.1 q = some t ∧ g.2.1 (q + 100) = some u ∧ va_O "java/lang/String" t (aa_ g) s H ∧ va_OF "java/lang/String" "coder" "B" (.int 0) t (aa_ g) s H ∧ va_OF "java/lang/String" "value" "[B" (.ref u) t (aa_ g) s H) ∧
  (∃ t, g.2.1 20 = some t ∧ va_Z "LastChange$Reader" "LEAST" "[I" (.ref t) (aa_ g) s H) ∧ (∃ t, g.2.1 21 = some t ∧ va_Z "LastChange$Reader" "MOST" "[I" (.ref t) (aa_ g) s H) ∧
  va_Z "java/lang/String" "COMPACT_STRINGS" "Z" (.int 1) (aa_ g) s H ∧ va_Z "jdk/internal/util/Preconditions" "SIOOBE_FORMATTER" "Ljava/util/function/BiFunction;" (va_rf (g.2.1 90)) (aa_ g) s H ∧
  (∀ q ∈ sr_L, ∃ t, g.2.1 q.2.2.2 = some t ∧ vk_R q.1 q.2.1 q.2.2.1 t s) ∧
  vx_Zq Bundle.tN "UNASSIGNED_STACK" Bundle.steD (aa_ g) s H ∧ vx_Zq Bundle.tN "SUPPRESSED_SENTINEL" Bundle.listD (aa_ g) s H ∧
  (∀ w ∈ nw_L, va_Nw w s) ∧ va_AO "LastChange$Side" s ∧ aw_ s ∧ va_Nc "java/lang/IllegalArgumentException" "java/util/NoSuchElementException" s ∧ va_Nc "java/util/NoSuchElementException" "java/lang/IllegalArgumentException" s
section JUD
variable (Z : Nat → am_T × ms_T)
def fx_ (g : cw_G) (p : Program) (l : Launch) (R : Room) (s : State) (m : MethodId) (args : Array Value) (meth : Method) (c : Code) (j d : Nat) : Prop :=
  p.tables.exec = Jvm.exec ∧ c.code = (Z j).2.2.1 ∧ c.maxLocals = (Z j).2.2.2.1 ∧ s.vm.findClass (Z j).2.1.cls = some m.cls ∧ meth.sig.returnType = (Z j).2.2.2.2.1 ∧ meth.locks = false ∧ c.exceptionTable.toList = tableOf (Z j).2.2.2.2.2.1 ∧ ((Z j).2.1.name = "<init>" → meth.name = "<init>") ∧ l.stackTraces = false ∧ d ≤ R.frames ∧ 100 * d ≤ R.locals ∧ (∀ w ∈ lu_, w.before args s = true) ∧ wd_ g s s.heap
def mv_ (g : cw_G) (R : Room) (s : State) (j : Nat) (lv : lo_L) (h : mm_M) (r : am_R) (H : Heap) (locs : List Loc) (cells slots : Nat) (ls : Array Slot) : Prop :=
  hr_ g h H ∧ va_S (aa_ g) s.heap H locs ∧ lv_has ls (Z j).2.2.2.1 (lo_v g lv) ∧ cells + tt_ r.2 ≤ R.cells + tt_ h ∧ slots + mm_s r.2 ≤ R.slots + mm_s h
/-- a return that fits its instruction and the method's type -/
def rt_ (z : ms_T) (pc : Nat) (v : Option Value) : Prop := match v with
  | none => decode z.2.1 pc = .ok (.return_, 1) ∧ z.2.2.2.1 = none
  | some (.int x) => decode z.2.1 pc = .ok (.ireturn, 1) ∧ ∃ ty, z.2.2.2.1 = some ty ∧ narrow ty (.int x) = .int x
  | some (.long _) => decode z.2.1 pc = .ok (.lreturn, 1) ∧ z.2.2.2.1 = some .long
  | some (.ref _) => decode z.2.1 pc = .ok (.areturn, 1) ∧ ∃ rt, z.2.2.2.1 = some rt ∧ ((∃ n, rt = .object n) ∨ ∃ t, rt = .array t)
  | _ => False
def xn_ (e : Nat) : String := match e with
  | 1 => "java/lang/IllegalArgumentException"
  | _ => "java/util/NoSuchElementException"
def qf_ (g : cw_G) (p : Program) (l : Launch) (e : Env) (R : Room) (s : State) (m : MethodId) (args : Array Value) (below : List Frame) (meth : Method) (c : Code) (j : Nat) (Q : State → Prop) (r : am_R) : Prop :=
  (∀ v pc ls H locs cells slots, r.1 = .inl v → rt_ (Z j).2 pc v → hr_ g r.2 H → va_S (aa_ g) s.heap H locs → cells ≤ R.cells → slots ≤ R.slots → W p l e R s m args below meth c H locs cells slots Q (F0 m pc ls (v.map (cv_ g)).toList)) ∧
  (∀ x, r.1 = .inr x → ∃ (Qc : Array Value → State → Outcome → State → Prop) (XC : String → State → State → Prop) (free : Addr → Prop), Q = vx_MQ below Qc XC args s R.cells R.slots free ∧ (∀ t : State, s.vm.Alike t.vm → hr_ g r.2 t.heap → va_F (aa_ g) s t → XC (xn_ x) s t) ∧ ∀ q, g.1 < q → free q)
def Snd (c : am_C) (r : am_R) : Prop := (tt_ c.2.2.2.2.2 ≤ tt_ r.2 ∧ mm_s c.2.2.2.2.2 ≤ mm_s r.2) ∧
  ∀ (g : cw_G) (p : Program) (l : Launch) (e : Env) (R : Room) (s : State) (m : MethodId) (args : Array Value) (below : List Frame) (meth : Method) (cd : Code), fx_ Z g p l R s m args meth cd c.2.1 c.1 →
  ∀ Q, qf_ Z g p l e R s m args below meth cd c.2.1 Q r → ∀ H locs cells slots ls, mv_ Z g R s c.2.1 c.2.2.2.1 c.2.2.2.2.2 r H locs cells slots ls →
  W p l e R s m args below meth cd H locs cells slots Q (F0 m c.2.2.1 ls (c.2.2.2.2.1.map (cv_ g)))
end JUD
section OPS
variable {Z : Nat → am_T × ms_T} {d j pc pc' : Nat} {lv lv' : lo_L} {st st' : List Value} {h h' : mm_M} {r : am_R}
/-- locals that are forgotten -/
theorem sn_keep (hS : Snd Z (d, j, pc, lv', st, h) r) (hs : ∀ q ∈ lv', q ∈ lv) : Snd Z (d, j, pc, lv, st, h) r :=
  ⟨hS.1, fun g p l e R s m args below meth cd F Q q H locs cells slots ls V => hS.2 g p l e R s m args below meth cd F Q q H locs cells slots ls ⟨V.1, V.2.1, lo_sub hs V.2.2.1, V.2.2.2⟩⟩
/-- an instruction that leaves locals and memory -/
theorem sn_op (hS : Snd Z (d, j, pc', lv, st', h) r) (hW : ∀ {g : cw_G} {p : Program} {l : Launch} {e : Env} {R : Room} {s : State} {m : MethodId} {args : Array Value} {below : List Frame} {meth : Method} {cd : Code} {H : Heap} {locs : List Loc} {cells slots : Nat} {ls : Array Slot} {Q : State → Prop}, fx_ Z g p l R s m args meth cd j d → mv_ Z g R s j lv h r H locs cells slots ls →
      W p l e R s m args below meth cd H locs cells slots Q (F0 m pc' ls (st'.map (cv_ g))) → W p l e R s m args below meth cd H locs cells slots Q (F0 m pc ls (st.map (cv_ g)))) : Snd Z (d, j, pc, lv, st, h) r :=
  ⟨hS.1, fun g p l e R s m args below meth cd F Q q H locs cells slots ls V => hW F V (hS.2 g p l e R s m args below meth cd F Q q H locs cells slots ls V)⟩
/-- an instruction that changes locals -/
theorem sn_lo (hS : Snd Z (d, j, pc', lv', st', h) r) (hW : ∀ {g : cw_G} {p : Program} {l : Launch} {e : Env} {R : Room} {s : State} {m : MethodId} {args : Array Value} {below : List Frame} {meth : Method} {cd : Code} {H : Heap} {locs : List Loc} {cells slots : Nat} {ls : Array Slot} {Q : State → Prop}, fx_ Z g p l R s m args meth cd j d → mv_ Z g R s j lv h r H locs cells slots ls →
      (∀ ls', lv_has ls' (Z j).2.2.2.1 (lo_v g lv') → W p l e R s m args below meth cd H locs cells slots Q (F0 m pc' ls' (st'.map (cv_ g)))) → W p l e R s m args below meth cd H locs cells slots Q (F0 m pc ls (st.map (cv_ g)))) : Snd Z (d, j, pc, lv, st, h) r :=
  ⟨hS.1, fun g p l e R s m args below meth cd F Q q H locs cells slots ls V => hW F V (fun ls' hl => hS.2 g p l e R s m args below meth cd F Q q H locs cells slots ls' ⟨V.1, V.2.1, hl, V.2.2.2⟩)⟩
/-- an instruction that writes to the memory -/
theorem sn_wr (hS : Snd Z (d, j, pc', lv, st', h') r) (ht : tt_ h' = tt_ h) (hsl : mm_s h' = mm_s h) (hW : ∀ {g : cw_G} {p : Program} {l : Launch} {e : Env} {R : Room} {s : State} {m : MethodId} {args : Array Value} {below : List Frame} {meth : Method} {cd : Code} {H : Heap} {locs : List Loc} {cells slots : Nat} {ls : Array Slot} {Q : State → Prop}, fx_ Z g p l R s m args meth cd j d → mv_ Z g R s j lv h r H locs cells slots ls →
      (∀ H' locs', hr_ g h' H' → va_S (aa_ g) s.heap H' locs' → W p l e R s m args below meth cd H' locs' cells slots Q (F0 m pc' ls (st'.map (cv_ g)))) → W p l e R s m args below meth cd H locs cells slots Q (F0 m pc ls (st.map (cv_ g)))) : Snd Z (d, j, pc, lv, st, h) r := by
  have h1 := hS.1
  refine ⟨⟨ht ▸ h1.1, hsl ▸ h1.2⟩, fun g p l e R s m args below meth cd F Q q H locs cells slots ls V => hW F V (fun H' locs' hr hs => hS.2 g p l e R s m args below meth cd F Q q H' locs' cells slots ls ⟨hr, hs, V.2.2.1, ?_, ?_⟩)⟩
  · have : cells + tt_ r.2 ≤ R.cells + tt_ h := V.2.2.2.1
    show cells + tt_ r.2 ≤ R.cells + tt_ h'
    omega
  · have : slots + mm_s r.2 ≤ R.slots + mm_s h := V.2.2.2.2
    show slots + mm_s r.2 ≤ R.slots + mm_s h'
    omega
end OPS
