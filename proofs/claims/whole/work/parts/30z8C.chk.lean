/-! ===== the code tables checked against the machine's: what an entry must be ===== -/
theorem lu_m {w : Cond} (h : w ∈ lw_tbl) (hg : goodWord w = true) : w ∈ lu_ := List.mem_filter.mpr ⟨h, hg⟩
def lu_b (w : Cond) : Bool := decide (w ∈ lw_tbl) && goodWord w
theorem lu_bi {w : Cond} (h : lu_b w = true) : w ∈ lu_ := by
  simp only [lu_b, Bool.and_eq_true, decide_eq_true_eq] at h
  exact lu_m h.1 h.2
def cw_ (z : ms_T) : Cond := if z.2.2.2.2.2 = true then Cond.codeWith z.1 z.2.1 z.2.2.1 z.2.2.2.1 z.2.2.2.2.1 else Cond.code z.1 z.2.1 z.2.2.1 z.2.2.2.1
/-- a handler, place by place -/
def hb_ (z : ms_T) (q : Nat × Nat × Nat × Nat × Nat) (w : Nat × Nat × Nat × Nat) : Bool :=
  ((decide (w.1 = q.1) && decide (w.2.1 = q.2.1)) && (decide (w.2.2.2 ≠ 0) && lu_b (Cond.classLink z.1.cls w.2.2.2 (xn_ q.2.2.2.1)))) && ((decide (Cond.castable (xn_ q.2.2.2.1) (xn_ q.2.2.2.1) ∈ nw_L) && decide (q.2.2.2.2 < z.2.2.1)) && (match decode z.2.1 w.2.2.1 with
    | .ok (.astore_n k, 1) => decide ((k : Nat) = q.2.2.2.2) && decide (q.2.2.1 = w.2.2.1 + 1)
    | .ok (.astore k, 2) => decide (k = q.2.2.2.2) && decide (q.2.2.1 = w.2.2.1 + 2)
    | _ => false))
def hc_ (z : ms_T) : List (Nat × Nat × Nat × Nat × Nat) → List (Nat × Nat × Nat × Nat) → Bool
  | [], [] => true
  | q :: a, w :: b => hb_ z q w && hc_ z a b
  | _, _ => false
theorem hb_ok {z : ms_T} {q : Nat × Nat × Nat × Nat × Nat} {w : Nat × Nat × Nat × Nat} (h : hb_ z q w = true) : ht_ z q w := by
  simp only [hb_, Bool.and_eq_true, decide_eq_true_eq] at h
  obtain ⟨⟨⟨h1, h2⟩, h3, h4⟩, ⟨h5, h6⟩, h7⟩ := h
  refine ⟨h1, h2, h3, lu_bi h4, h5, h6, ?_⟩
  split at h7
  · rename_i k hk
    simp only [Bool.and_eq_true, decide_eq_true_eq] at h7
    exact Or.inl ⟨k, h7.1, hk, h7.2⟩
  · rename_i k hk
    simp only [Bool.and_eq_true, decide_eq_true_eq] at h7
    exact Or.inr ⟨by rw [hk, h7.1], h7.2⟩
  · cases h7
theorem hc_ok {z : ms_T} : ∀ {a : List (Nat × Nat × Nat × Nat × Nat)} {b : List (Nat × Nat × Nat × Nat)}, hc_ z a b = true → hl_ z a b
  | [], [], _ => trivial
  | q :: a, w :: b, h => by
    simp only [hc_, Bool.and_eq_true] at h
    exact ⟨hb_ok h.1, hc_ok h.2⟩
  | [], _ :: _, h => by cases h
  | _ :: _, [], h => by cases h
/-- a method's own check -/
def mb_ (z : am_T × ms_T) : Bool := (((plainName z.2.1.cls && (z.2.2.2.2.2.2 || z.2.2.2.2.2.1.isEmpty)) && (lu_b (cw_ z.2) && lu_b (Cond.initialized z.2.1.cls))) && ((decide (z.2.1.cls ≠ "java/lang/invoke/MethodHandle") && decide (z.2.1.cls ≠ "java/lang/invoke/VarHandle")) && (decide (z.2.2.2.1 ≤ 80) && decide (z.1.2.2.1 = z.2.2.2.1)))) && hc_ z.2 z.1.2.2.2.1 z.2.2.2.2.2.1
theorem mb_ok {z : am_T × ms_T} (h : mb_ z = true) : mk_ z ∧ hl_ z.2 z.1.2.2.2.1 z.2.2.2.2.2.1 := by
  simp only [mb_, Bool.and_eq_true, Bool.or_eq_true, decide_eq_true_eq] at h
  obtain ⟨⟨⟨⟨h1, h2⟩, h3, h4⟩, ⟨h5, h6⟩, h7, h8⟩, h9⟩ := h
  refine ⟨⟨h1, fun e => ?_, lu_bi h3, lu_bi h4, ⟨h5, h6⟩, h7, h8⟩, hc_ok h9⟩
  rcases h2 with h2 | h2
  · rw [e] at h2; cases h2
  · exact List.isEmpty_iff.mp h2
/-- a call's check: y is called, its arguments are n beside the receiver -/
def kb_ (z : am_T × ms_T) (n : Nat) : Bool := decide ((parseMethodDescriptor z.2.1.desc).map (fun d => d.parameters.length) = some n)
def ej_ (Z : Nat → am_T × ms_T) (z : ms_T) (pc : Nat) (ins : Instr) (len x y u w : Nat) (iv : Int32) (lc : Int64) (sw : List (Int32 × Nat)) : Bool := match ins with
  | .iconst n => Nat.beq len 1 && decide (Int32.ofInt n = iv)
  | .bipush n => Nat.beq len 2 && decide ((Int8.ofInt n).toInt32 = iv)
  | .sipush n => Nat.beq len 3 && decide ((Int16.ofInt n).toInt32 = iv)
  | .ldc k => Nat.beq len 2 && (match x with
    | 0 => lu_w w (.constant z.1.cls k iv)
    | _ => sr_L.any (fun q => decide (q.1 = z.1.cls ∧ q.2.1 = k ∧ q.2.2.2 = UInt32.ofNat y)))
  | .ldc_w k => Nat.beq len 3 && lu_w w (.constant z.1.cls k iv)
  | .lconst n => Nat.beq len 1 && decide (Int64.ofNat (n : Nat) = lc)
  | .ldc2_w k => Nat.beq len 3 && lu_w w (.constantLong z.1.cls k lc)
  | .iload i => Nat.beq len 2 && Nat.beq x i
  | .lload i => Nat.beq len 2 && Nat.beq x i
  | .aload i => Nat.beq len 2 && Nat.beq x i
  | .iload_n i => Nat.beq len 1 && decide ((i : Nat) = x)
  | .lload_n i => Nat.beq len 1 && decide ((i : Nat) = x)
  | .aload_n i => Nat.beq len 1 && decide ((i : Nat) = x)
  | .istore i => (Nat.beq len 2 && Nat.beq x i) && decide (x < z.2.2.1)
  | .astore i => (Nat.beq len 2 && Nat.beq x i) && decide (x < z.2.2.1)
  | .lstore i => (Nat.beq len 2 && Nat.beq x i) && decide (x + 1 < z.2.2.1)
  | .istore_n i => (Nat.beq len 1 && decide ((i : Nat) = x)) && decide (x < z.2.2.1)
  | .astore_n i => (Nat.beq len 1 && decide ((i : Nat) = x)) && decide (x < z.2.2.1)
  | .lstore_n i => (Nat.beq len 1 && decide ((i : Nat) = x)) && decide (x + 1 < z.2.2.1)
  | .iinc i n => ((Nat.beq len 3 && Nat.beq x i) && decide (Int32.ofInt n = iv)) && decide (x < z.2.2.1)
  | .iadd => Nat.beq len 1
  | .isub => Nat.beq len 1
  | .imul => Nat.beq len 1
  | .idiv => Nat.beq len 1
  | .irem => Nat.beq len 1
  | .iand => Nat.beq len 1
  | .ior => Nat.beq len 1
  | .ishl => Nat.beq len 1
  | .ishr => Nat.beq len 1
  | .ineg => Nat.beq len 1
  | .i2l => Nat.beq len 1
  | .l2i => Nat.beq len 1
  | .i2b => Nat.beq len 1
  | .i2c => Nat.beq len 1
  | .ladd => Nat.beq len 1
  | .lsub => Nat.beq len 1
  | .lmul => Nat.beq len 1
  | .ldiv => Nat.beq len 1
  | .lcmp => Nat.beq len 1
  | .dup => Nat.beq len 1
  | .dup2 => Nat.beq len 1
  | .pop => Nat.beq len 1
  | .arraylength => Nat.beq len 1
  | .iaload => Nat.beq len 1
  | .baload => Nat.beq len 1
  | .laload => Nat.beq len 1
  | .aaload => Nat.beq len 1
  | .iastore => Nat.beq len 1
  | .bastore => Nat.beq len 1
  | .lastore => Nat.beq len 1
  | .aastore => Nat.beq len 1 && decide (x = 9)
  | .goto t => Nat.beq len 3 && decide ((pc : Int) + t = (x : Int))
  | .ifCond _ t => Nat.beq len 3 && decide ((pc : Int) + t = (x : Int))
  | .if_icmp _ t => Nat.beq len 3 && decide ((pc : Int) + t = (x : Int))
  | .tableswitch df lo hi offs => (decide ((pc : Int) + df = (x : Int)) && decide (hi = lo + offs.size - 1)) && (decide (sw.length = offs.size) && (List.range offs.size).all (fun i => match sw[i]?, offs[i]? with
    | some q, some o => decide (q.1.toInt = lo + i) && decide ((pc : Int) + o = (q.2 : Int))
    | _, _ => false))
  | .lookupswitch df ps => (decide ((pc : Int) + df = (x : Int)) && (ps.toList.zip (ps.toList.drop 1)).all (fun (a, next) => a.1 < next.1)) && decide (sw.map (fun q => (q.1.toInt, (q.2 : Int))) = ps.toList.map (fun q => (q.1, (pc : Int) + q.2)))
  | .getfield k => Nat.beq len 3 && (match u with
    | 10 => lu_w w (.fieldLink z.1.cls k "java/lang/String" "value" "[B")
    | 11 => lu_w w (.fieldLink z.1.cls k "java/lang/String" "coder" "B")
    | _ => match x with
      | 0 => false
      | ci + 1 => match zc_L[ci]? with
        | some q => (decide (y < q.2.2) && decide (zc_k ci y = u)) && (lu_w w (.fieldLink z.1.cls k (q.2.1 y).1 (q.2.1 y).2.1 (q.2.1 y).2.2.1) || decide (Cond.fieldLinkNest z.1.cls k (q.2.1 y).1 (q.2.1 y).2.1 (q.2.1 y).2.2.1 "LastChange" ∈ nw_L))
        | none => false)
  | .putfield k => Nat.beq len 3 && (match x with
    | 0 => false
    | ci + 1 => match zc_L[ci]? with
      | some q => ((decide (y < q.2.2) && lu_w w (.fieldLink z.1.cls k (q.2.1 y).1 (q.2.1 y).2.1 (q.2.1 y).2.2.1)) && (!(q.2.1 y).2.2.2 || (decide (z.1.name = "<init>") && decide ((q.2.1 y).1 = z.1.cls)))) && (match u with
        | 0 => decide (zc_y ci y = .int)
        | 1 => decide (zc_y ci y = .boolean)
        | 4 => decide (zc_k ci y = 1)
        | 5 => decide (zc_y ci y = .long)
        | _ => false)
      | none => false)
  | .getstatic k => Nat.beq len 3 && (match x with
    | 0 => lu_w w (.fieldLink z.1.cls k "java/lang/String" "COMPACT_STRINGS" "Z") && decide (iv = 1)
    | _ => match y with
      | 20 => lu_w w (.fieldLink z.1.cls k "LastChange$Reader" "LEAST" "[I")
      | 21 => lu_w w (.fieldLink z.1.cls k "LastChange$Reader" "MOST" "[I")
      | 90 => lu_w w (.fieldLink z.1.cls k "jdk/internal/util/Preconditions" "SIOOBE_FORMATTER" "Ljava/util/function/BiFunction;")
      | _ => false)
  | .newarray t => Nat.beq len 2 && (match t, x with
    | .int, 100 => true
    | .byte, 101 => true
    | .long, 102 => true
    | _, _ => false)
  | .anewarray k => (Nat.beq len 3 && Nat.beq x 103) && lu_w w (.classLink z.1.cls k "LastChange$Side")
  | .multianewarray k n => (Nat.beq len 4 && Nat.beq n 2) && lu_w w (.classLink z.1.cls k ("[" ++ (FieldType.array .int).toString))
  | .new k => Nat.beq len 3 && (match u with
    | 0 => match x with
      | 0 => false
      | ci + 1 => match zc_L[ci]? with
        | some q => (lu_w w (.classLink z.1.cls k q.1) && lu_b (.instantiable q.1 q.2.2)) && (lu_b (.initialized q.1) && decide (y = q.2.2))
        | none => false
    | _ => (decide (z.1.cls = "LastChange") && z.2.2.2.2.1.isEmpty) && ((decide (decode z.2.1 (pc + 3) = .ok (.dup, 1)) && decide (decode z.2.1 (pc + 7) = .ok (.athrow, 1))) && (match x with
      | 1 => decide (k = 104) && decide (decode z.2.1 (pc + 4) = .ok (.invokespecial 106, 3))
      | 2 => decide (k = 137) && decide (decode z.2.1 (pc + 4) = .ok (.invokespecial 139, 3))
      | _ => false)))
  | .invokestatic k => Nat.beq len 3 && (match x with
    | 1001 => lu_w w (.methodLink z.1.cls k Lib.Math.max.name)
    | 1002 => lu_w w (.methodLink z.1.cls k Lib.Math.min.name)
    | 1003 => lu_w w (.methodLink z.1.cls k arraycopyName)
    | 9999 => true
    | _ => Nat.blt x 273 && ((lu_w w (.methodLink z.1.cls k (Z x).2.1) && lu_b (.static (Z x).2.1)) && kb_ (Z x) (Z x).1.1))
  | .invokespecial k => Nat.beq len 3 && (match x with
    | 1000 => lu_w w (.methodLink z.1.cls k Lib.objectInit)
    | _ => Nat.blt x 273 && (((lu_w w (.methodLink z.1.cls k (Z x).2.1) || decide (Cond.methodLinkNest z.1.cls k (Z x).2.1 "LastChange" ∈ nw_L)) && (lu_b (.instanceMethod (Z x).2.1) && decide ((Z x).2.1.name = "<init>"))) && ((decide ((Z x).2.2.2.2.1 = none) && decide ((Z x).2.2.2.2.2.2 = false)) && (match (Z x).1.1 with
      | 0 => false
      | n + 1 => kb_ (Z x) n && Nat.beq y n))))
  | .invokevirtual k => Nat.beq len 3 && (Nat.blt x 273 && (((lu_w w (.methodLink z.1.cls k (Z x).2.1) && lu_b (.instanceMethod (Z x).2.1)) && (lu_b (.selects (Z x).2.1.cls (Z x).2.1 (Z x).2.1) && decide ((Z x).2.2.2.2.2.2 = false))) && ((match (Z x).1.1 with
      | 0 => false
      | n + 1 => kb_ (Z x) n && Nat.beq y n) && (match u with
        | 0 => decide ((Z x).2.1.cls = "java/lang/String")
        | ci + 1 => match zc_L[ci]? with
          | some q => decide (q.1 = (Z x).2.1.cls)
          | none => false))))
  | .ireturn => Nat.beq len 1 && (match x with
    | 0 => decide (z.2.2.2.1 = some .int)
    | 1 => decide (z.2.2.2.1 = some .boolean)
    | 2 => decide (z.2.2.2.1 = some .byte)
    | 3 => decide (z.2.2.2.1 = some .char)
    | _ => false)
  | .lreturn => Nat.beq len 1 && decide (z.2.2.2.1 = some .long)
  | .areturn => Nat.beq len 1 && (match z.2.2.2.1 with
    | some (.object _) => true
    | some (.array _) => true
    | _ => false)
  | .return_ => Nat.beq len 1 && decide (z.2.2.2.1 = none)
  | _ => true
def ek_ (Z : Nat → am_T × ms_T) (z : ms_T) (e : am_E) : Bool := match e with
  | (pc, ins, len, x, y, u, w, iv, lc, _, sw) => decide (decode z.2.1 pc = .ok (ins, len)) && ej_ Z z pc ins len x y u w iv lc sw
/-- the words that the library's own methods need -/
theorem lb_w : (Cond.static Lib.Math.max.name ∈ lu_ ∧ Cond.initialized "java/lang/Math" ∈ lu_ ∧ Cond.code Lib.Math.max.name Lib.Math.max.code 2 (some .int) ∈ lu_) ∧ (Cond.static Lib.Math.min.name ∈ lu_ ∧ Cond.code Lib.Math.min.name Lib.Math.min.code 2 (some .int) ∈ lu_) ∧ (Cond.native arraycopyName ∈ lu_ ∧ Cond.static arraycopyName ∈ lu_ ∧ Cond.initialized "java/lang/System" ∈ lu_) ∧ (Cond.instanceMethod Lib.objectInit ∈ lu_ ∧ Cond.code Lib.objectInit ⟨#[0xb1]⟩ 1 none ∈ lu_) ∧ Cond.arrayClass .int ∈ lu_ ∧ Cond.arrayClass .byte ∈ lu_ ∧ Cond.arrayClass .long ∈ lu_ := by decide +kernel

