/-! ===== new int[n][k]: over the machine itself, by cells pushed and slots stored ===== -/
def mu_i (cI : ClassId) (K : Nat) : Cell := { cls := cI, slots := Array.replicate K (.int 0), vm := .none }
def mu_o (cA : ClassId) (N h0 : Nat) : Nat → Cell
  | 0 => { cls := cA, slots := Array.replicate N .null, vm := .none }
  | i + 1 => (mu_o cA N h0 i).setSlot i (.ref (h0 + 1 + i))
def mu_f (S : State) (cA cI : ClassId) (N K : Nat) : Nat → State
  | 0 => S.pushCell (mu_o cA N S.heap.size 0)
  | i + 1 => ((mu_f S cA cI N K i).pushCell (mu_i cI K)).setCell S.heap.size (mu_o cA N S.heap.size (i + 1))
def mu_l (locs : List Loc) (a : Addr) : Nat → List Loc
  | 0 => locs
  | i + 1 => mu_l locs a i ++ [⟨a, i⟩]
theorem mu_oV (cA : ClassId) (N h0 : Nat) : ∀ i : Nat, mu_o cA N h0 i = arrV cA N (fun j => if j < i then Value.ref (h0 + 1 + j) else .null)
  | 0 => by
    show ({ cls := cA, slots := Array.replicate N .null, vm := .none } : Cell) = _
    rw [arrV_new]
    refine congrArg (arrV cA N) (funext fun j => ?_)
    simp
  | i + 1 => by
    show (mu_o cA N h0 i).setSlot i (.ref (h0 + 1 + i)) = _
    rw [mu_oV cA N h0 i, arrV_store]
    refine congrArg (arrV cA N) (funext fun j => ?_)
    by_cases e : j = i
    · subst e
      simp [updV]
    · by_cases h : j < i
      · simp [updV, e, h, Nat.lt_succ_of_lt h]
      · simp [updV, e, h, show ¬ j < i + 1 by omega]
theorem mu_facts (S : State) (cA cI : ClassId) (N K : Nat) : ∀ i : Nat, (mu_f S cA cI N K i).heap.size = S.heap.size + 1 + i ∧ (mu_f S cA cI N K i).heap[S.heap.size]? = some (mu_o cA N S.heap.size i) ∧ (∀ x : Nat, x < S.heap.size → (mu_f S cA cI N K i).heap[x]? = S.heap[x]?) ∧ (∀ q : Nat, q < i → (mu_f S cA cI N K i).heap[S.heap.size + 1 + q]? = some (mu_i cI K)) ∧ (mu_f S cA cI N K i).vm = S.vm
  | 0 => by
    refine ⟨?_, ?_, fun x hx => ?_, fun q hq => by omega, rfl⟩
    · show (S.heap.push _).size = _
      simp
    · show (S.heap.push _)[S.heap.size]? = _
      simp
    · show (S.heap.push _)[x]? = _
      rw [Array.getElem?_push, if_neg (by omega)]
  | i + 1 => by
    obtain ⟨h1, h2, h3, h4, h5⟩ := mu_facts S cA cI N K i
    have hh : (mu_f S cA cI N K (i + 1)).heap = ((mu_f S cA cI N K i).heap.push (mu_i cI K)).setIfInBounds S.heap.size (mu_o cA N S.heap.size (i + 1)) := rfl
    refine ⟨?_, ?_, fun x hx => ?_, fun q hq => ?_, h5⟩
    · rw [hh, Array.size_setIfInBounds, Array.size_push, h1]
      omega
    · rw [hh, Array.getElem?_setIfInBounds, if_pos rfl, if_pos (by rw [Array.size_push, h1]; omega)]
    · rw [hh, Array.getElem?_setIfInBounds, if_neg (by omega), Array.getElem?_push, if_neg (by omega)]
      exact h3 x hx
    · rw [hh, Array.getElem?_setIfInBounds, if_neg (by omega), Array.getElem?_push]
      by_cases c : q = i
      · rw [if_pos (by omega)]
      · rw [if_neg (by omega)]
        exact h4 q (by omega)
theorem mu_stand {p : Program} {l : Launch} {e : Env} {R : Room} {s : State} {m : MethodId} {args : Array Value} {below : List Frame} {meth : Method} {c : Code} {S : State} {locs : List Loc} {cells slots : Nat} (X : Stand p l e R s m args below meth c S locs cells slots) (cA cI : ClassId) (N K : Nat) : ∀ i : Nat, Stand p l e R s m args below meth c (mu_f S cA cI N K i) (mu_l locs S.heap.size i) (cells + 1 + i) (slots + N + i * K)
  | 0 => by
    have h := X.pushed (mu_o cA N S.heap.size 0)
    have e1 : (mu_o cA N S.heap.size 0).slots.size = N := by
      show (Array.replicate N Value.null).size = N
      simp
    rw [e1] at h
    have e2 : slots + N + 0 * K = slots + N := by omega
    rw [e2]
    exact h
  | i + 1 => by
    have X1 := mu_stand X cA cI N K i
    obtain ⟨h1, h2, -, -, -⟩ := mu_facts S cA cI N K i
    have X2 := X1.pushed (mu_i cI K)
    have e1 : (mu_i cI K).slots.size = K := by
      show (Array.replicate K (Value.int 0)).size = K
      simp
    rw [e1] at X2
    have hc : ((mu_f S cA cI N K i).pushCell (mu_i cI K)).heap[S.heap.size]? = some (mu_o cA N S.heap.size i) := by
      show ((mu_f S cA cI N K i).heap.push _)[S.heap.size]? = _
      rw [Array.getElem?_push, if_neg (by omega)]
      exact h2
    have X3 := X2.stored hc i (.ref (S.heap.size + 1 + i))
    have e2 : slots + N + (i + 1) * K = slots + N + i * K + K := by rw [Nat.succ_mul]; omega
    rw [e2]
    exact X3
section MU
variable {E : CtlPost} {e : Env} {d : Bool} {acts : List Action}
theorem mu_make1 {S : State} {f : JFrame} {comp cI : ClassId} {kB : Class} {k : Int32} {Q : Addr → Pre} (hk : ¬ k < 0) (hkB : S.vm.classes[comp]? = some kB) (hkindB : kB.kind = .array cI .int) (hlim : ¬ k.toNatClampNeg > e.platform.arrayLengthLimit) (hheap : ¬ k.toNatClampNeg * componentBytes .int > e.platform.maxHeapBytes) (r1 : S.heap.size + 1 ≤ e.platform.maxCells) (r2 : S.slotsUsed + k.toNatClampNeg ≤ e.platform.maxSlots)
    (hq : ∀ acts', Q S.heap.size d acts' ((S.pushCell (mu_i comp k.toNatClampNeg)).setTop f)) : wp (Jvm.Op.multianewarray.make comp [k]) Q E e d acts (S.setTop f) := by
  rw [Jvm.Op.multianewarray.make]
  simp only [wp_bind', W.ite, hk, if_false, wp_pure', W.theClass]
  refine ⟨kB, hkB, ?_⟩
  simp only [hkindB]
  exact W.newArray_of (s := S.setTop f) hkB hkindB hlim hheap (by show S.heap.size < _; omega) (by show S.slotsUsed + _ ≤ _; exact r2) rfl (fun acts' => hq acts')
end MU
section MNA
variable {Z : Nat → am_T × ms_T} {d j pc : Nat} {lv : lo_L} {r0 : List Value} {h : mm_M} {r : am_R}
theorem so_mna {idx : Nat} {n k : Int32} (hd : decode (Z j).2.2.1 pc = .ok (.multianewarray idx 2, 4)) (w1 : Cond.classLink (Z j).2.1.cls idx ("[" ++ (FieldType.array .int).toString) ∈ lu_) (w2 : Cond.arrayClass .int ∈ lu_) (h1 : ¬ n < 0) (h2 : n.toNatClampNeg ≤ 1000) (h3 : ¬ k < 0) (h4 : k.toNatClampNeg ≤ 1000) (hx : mm_x h = 0)
    (hS : Snd Z (d, j, pc + 4, lv, .ref (mm_n h + 1) :: r0, mm_al2 h n.toNatClampNeg k.toNatClampNeg) r) : Snd Z (d, j, pc, lv, .int k :: .int n :: r0, h) r := by
  sorry
end MNA
