/-! ===== new int[n][k]: over the machine itself, by cells pushed and slots stored ===== -/
def mu_i (cI : ClassId) (K : Nat) : Cell := { cls := cI, slots := Array.replicate K (.int 0), vm := .none }
def mu_o (cA : ClassId) (N h0 : Nat) : Nat → Cell
  | 0 => { cls := cA, slots := Array.replicate N .null, vm := .none }
  | i + 1 => (mu_o cA N h0 i).setSlot i (.ref (h0 + 1 + i))
def mu_f (S : State) (cA cI : ClassId) (N K : Nat) : Nat → State
  | 0 => S.pushCell (mu_o cA N S.heap.size 0)
  | i + 1 => ((mu_f S cA cI N K i).pushCell (mu_i cI K)).setCell S.heap.size (mu_o cA N S.heap.size (i + 1))
def mu_l (locs : List Loc) (a : Addr) : Nat → List Loc
  | 0 => locs
  | i + 1 => mu_l locs a i ++ [⟨a, i⟩]
theorem mu_lb (locs : List Loc) (a : Addr) : ∀ (i : Nat) (q : Loc), q ∈ mu_l locs a i → q ∈ locs ∨ q.base = a
  | 0, _, h => .inl h
  | i + 1, q, h => by
    rcases List.mem_append.mp (show q ∈ mu_l locs a i ++ [⟨a, i⟩] from h) with h | h
    · exact mu_lb locs a i q h
    · rw [List.mem_singleton.mp h]
      exact .inr rfl
theorem mu_oV (cA : ClassId) (N h0 : Nat) : ∀ i : Nat, mu_o cA N h0 i = arrV cA N (fun j => if j < i then Value.ref (h0 + 1 + j) else .null)
  | 0 => by
    show ({ cls := cA, slots := Array.replicate N .null, vm := .none } : Cell) = _
    rw [arrV_new]
    refine congrArg (arrV cA N) (funext fun j => ?_)
    simp
  | i + 1 => by
    show (mu_o cA N h0 i).setSlot i (.ref (h0 + 1 + i)) = _
    rw [mu_oV cA N h0 i, arrV_store]
    refine congrArg (arrV cA N) (funext fun j => ?_)
    by_cases e : j = i
    · subst e
      simp [updV]
    · by_cases h : j < i
      · simp [updV, e, h, Nat.lt_succ_of_lt h]
      · simp [updV, e, h, show ¬ j < i + 1 by omega]
theorem mu_facts (S : State) (cA cI : ClassId) (N K : Nat) : ∀ i : Nat, (mu_f S cA cI N K i).heap.size = S.heap.size + 1 + i ∧ (mu_f S cA cI N K i).heap[S.heap.size]? = some (mu_o cA N S.heap.size i) ∧ (∀ x : Nat, x < S.heap.size → (mu_f S cA cI N K i).heap[x]? = S.heap[x]?) ∧ (∀ q : Nat, q < i → (mu_f S cA cI N K i).heap[S.heap.size + 1 + q]? = some (mu_i cI K)) ∧ (mu_f S cA cI N K i).vm = S.vm
  | 0 => by
    refine ⟨?_, ?_, fun x hx => ?_, fun q hq => by omega, rfl⟩
    · show (S.heap.push _).size = _
      simp
    · show (S.heap.push _)[S.heap.size]? = _
      simp
    · show (S.heap.push _)[x]? = _
      rw [Array.getElem?_push, if_neg (by omega)]
  | i + 1 => by
    obtain ⟨h1, h2, h3, h4, h5⟩ := mu_facts S cA cI N K i
    have hh : (mu_f S cA cI N K (i + 1)).heap = ((mu_f S cA cI N K i).heap.push (mu_i cI K)).setIfInBounds S.heap.size (mu_o cA N S.heap.size (i + 1)) := rfl
    refine ⟨?_, ?_, fun x hx => ?_, fun q hq => ?_, h5⟩
    · rw [hh, Array.size_setIfInBounds, Array.size_push, h1]
      omega
    · rw [hh, Array.getElem?_setIfInBounds, if_pos rfl, if_pos (by rw [Array.size_push, h1]; omega)]
    · rw [hh, Array.getElem?_setIfInBounds, if_neg (by omega), Array.getElem?_push, if_neg (by omega)]
      exact h3 x hx
    · rw [hh, Array.getElem?_setIfInBounds, if_neg (by omega), Array.getElem?_push]
      by_cases c : q = i
      · rw [if_pos (by omega)]
      · rw [if_neg (by omega)]
        exact h4 q (by omega)
theorem mu_top (S : State) (cA cI : ClassId) (N K : Nat) : ∀ i : Nat, (mu_f S cA cI N K i).topJava? = S.topJava?
  | 0 => rfl
  | i + 1 => (show (mu_f S cA cI N K (i + 1)).topJava? = (mu_f S cA cI N K i).topJava? from rfl).trans (mu_top S cA cI N K i)
theorem mu_stand {p : Program} {l : Launch} {e : Env} {R : Room} {s : State} {m : MethodId} {args : Array Value} {below : List Frame} {meth : Method} {c : Code} {S : State} {locs : List Loc} {cells slots : Nat} (X : Stand p l e R s m args below meth c S locs cells slots) (cA cI : ClassId) (N K : Nat) : ∀ i : Nat, Stand p l e R s m args below meth c (mu_f S cA cI N K i) (mu_l locs S.heap.size i) (cells + 1 + i) (slots + N + i * K)
  | 0 => by
    have h := X.pushed (mu_o cA N S.heap.size 0)
    have e1 : (mu_o cA N S.heap.size 0).slots.size = N := by
      show (Array.replicate N Value.null).size = N
      simp
    rw [e1] at h
    have e2 : slots + N + 0 * K = slots + N := by omega
    rw [e2]
    exact h
  | i + 1 => by
    have X1 := mu_stand X cA cI N K i
    obtain ⟨h1, h2, -, -, -⟩ := mu_facts S cA cI N K i
    have X2 := X1.pushed (mu_i cI K)
    have e1 : (mu_i cI K).slots.size = K := by
      show (Array.replicate K (Value.int 0)).size = K
      simp
    rw [e1] at X2
    have hc : ((mu_f S cA cI N K i).pushCell (mu_i cI K)).heap[S.heap.size]? = some (mu_o cA N S.heap.size i) := by
      show ((mu_f S cA cI N K i).heap.push _)[S.heap.size]? = _
      rw [Array.getElem?_push, if_neg (by omega)]
      exact h2
    have X3 := X2.stored hc i (.ref (S.heap.size + 1 + i))
    have e2 : slots + N + (i + 1) * K = slots + N + i * K + K := by rw [Nat.succ_mul]; omega
    rw [e2]
    exact X3
section MU
variable {E : CtlPost} {e : Env} {d : Bool} {acts : List Action}
theorem mu_make1 {S : State} {f : JFrame} {comp cI : ClassId} {kB : Class} {k : Int32} {Q : Addr → Pre} (hk : ¬ k < 0) (hkB : S.vm.classes[comp]? = some kB) (hkindB : kB.kind = .array cI .int) (hlim : ¬ k.toNatClampNeg > e.platform.arrayLengthLimit) (hheap : ¬ k.toNatClampNeg * componentBytes .int > e.platform.maxHeapBytes) (r1 : S.heap.size + 1 ≤ e.platform.maxCells) (r2 : S.slotsUsed + k.toNatClampNeg ≤ e.platform.maxSlots)
    (hq : ∀ acts', Q S.heap.size d acts' ((S.pushCell (mu_i comp k.toNatClampNeg)).setTop f)) : wp (Jvm.Op.multianewarray.make comp [k]) Q E e d acts (S.setTop f) := by
  rw [Jvm.Op.multianewarray.make]
  simp only [wp_bind', W.ite, hk, if_false, wp_pure', W.theClass]
  refine ⟨kB, hkB, ?_⟩
  simp only [hkindB]
  exact W.newArray_of (s := S.setTop f) hkB hkindB hlim hheap (by show S.heap.size < _; omega) (by show S.slotsUsed + _ ≤ _; exact r2) rfl (fun acts' => hq acts')
theorem mu_loop {S : State} {f : JFrame} {cA comp cI : ClassId} {kA kB : Class} {k : Int32} {N : Nat} {Q : PUnit → Pre} (hk : ¬ k < 0) (hkA : S.vm.classes[cA]? = some kA) (hkindA : kA.kind = .array comp (.array .int)) (hkB : S.vm.classes[comp]? = some kB) (hkindB : kB.kind = .array cI .int) (hlim : ¬ k.toNatClampNeg > e.platform.arrayLengthLimit) (hheap : ¬ k.toNatClampNeg * componentBytes .int > e.platform.maxHeapBytes)
    (hr : ∀ i, i < N → (mu_f S cA comp N k.toNatClampNeg i).heap.size + 1 ≤ e.platform.maxCells ∧ (mu_f S cA comp N k.toNatClampNeg i).slotsUsed + k.toNatClampNeg ≤ e.platform.maxSlots)
    (g : Nat → PUnit → Sem (ForInStep PUnit)) (hg : ∀ i u, g i u = (do Jvm.writeLoc S.heap.size i (.ref (← Jvm.Op.multianewarray.make comp [k])); Pure.pure (ForInStep.yield PUnit.unit)))
    (hq : ∀ d' acts', Q PUnit.unit d' acts' ((mu_f S cA comp N k.toNatClampNeg N).setTop f)) : wp (forIn (List.range' 0 N 1) PUnit.unit g) Q E e d acts ((mu_f S cA comp N k.toNatClampNeg 0).setTop f) := by
  refine wp_forIn_inv (fun rest s' => ∃ i, i ≤ N ∧ rest = List.range' i (N - i) 1 ∧ s' = (mu_f S cA comp N k.toNatClampNeg i).setTop f) g _ ⟨0, Nat.zero_le _, rfl, rfl⟩ ?_ ?_
  · rintro x rest s' d' acts' Q' ⟨i, hi, hl, rfl⟩ hQ
    have hlt : i < N := by
      rcases Nat.lt_or_ge i N with c | c
      · exact c
      · rw [show N - i = 0 by omega] at hl
        cases hl
    obtain ⟨M, hM⟩ : ∃ M, N - i = M + 1 := ⟨N - i - 1, by omega⟩
    rw [hM, List.range'_succ] at hl
    obtain ⟨rfl, hl⟩ := List.cons.inj hl
    obtain ⟨f1, f2, f3, f4, f5⟩ := mu_facts S cA comp N k.toNatClampNeg x
    obtain ⟨r1, r2⟩ := hr x hlt
    rw [hg, wp_bind']
    refine mu_make1 hk (by rw [f5]; exact hkB) hkindB hlim hheap r1 r2 (fun acts'' => ?_)
    simp only [wp_bind', W.writeLoc, wp_pure']
    have hc : ((mu_f S cA comp N k.toNatClampNeg x).pushCell (mu_i comp k.toNatClampNeg)).heap[S.heap.size]? = some (mu_o cA N S.heap.size x) := by
      show ((mu_f S cA comp N k.toNatClampNeg x).heap.push _)[S.heap.size]? = _
      rw [Array.getElem?_push, if_neg (by omega)]
      exact f2
    refine ⟨mu_o cA N S.heap.size x, hc, ?_, ?_, ?_, ?_⟩
    · rw [mu_oV]
      intro z
      cases z
    · rw [mu_oV, arrV_size]
      exact hlt
    · have hv : (mu_f S cA comp N k.toNatClampNeg x).vm.classes[cA]? = some kA := by
        rw [f5]
        exact hkA
      rw [mu_oV]
      simp only [State.fitsSlot_setTop]
      simp [State.fitsSlot, State.slotType?, arrV, hv, hkindA]
      rfl
    · refine hQ _ _ _ ⟨x + 1, hlt, ?_, ?_⟩
      · rw [hl, show N - (x + 1) = M by omega]
      · rw [f1]
        rfl
  · rintro s' d' acts' ⟨i, hi, hl, rfl⟩
    have : i = N := by
      have := congrArg List.length hl
      rw [List.length_range'] at this
      change 0 = N - i at this
      omega
    subst this
    exact hq _ _
theorem mu_wp {S : State} {f : JFrame} {idx : Nat} {cA comp cI : ClassId} {kA kB : Class} {n k : Int32} {rest : List Value} {Q : Unit → Pre} (hs : S.topJava?.isSome) (hrd : S.vm.classReady f.method.cls idx cA) (hst : f.stack = .int k :: .int n :: rest) (hn : ¬ n < 0) (hk : ¬ k < 0) (hkA : S.vm.classes[cA]? = some kA) (hkindA : kA.kind = .array comp (.array .int)) (hkB : S.vm.classes[comp]? = some kB) (hkindB : kB.kind = .array cI .int) (hlim : ¬ k.toNatClampNeg > e.platform.arrayLengthLimit) (hheap : ¬ k.toNatClampNeg * componentBytes .int > e.platform.maxHeapBytes) (hlimN : ¬ n.toNatClampNeg > e.platform.arrayLengthLimit) (hheapN : ¬ n.toNatClampNeg * componentBytes (.array .int) > e.platform.maxHeapBytes)
    (r1 : S.heap.size + 1 ≤ e.platform.maxCells) (r2 : S.slotsUsed + n.toNatClampNeg ≤ e.platform.maxSlots)
    (hr : ∀ i, i < n.toNatClampNeg → (mu_f S cA comp n.toNatClampNeg k.toNatClampNeg i).heap.size + 1 ≤ e.platform.maxCells ∧ (mu_f S cA comp n.toNatClampNeg k.toNatClampNeg i).slotsUsed + k.toNatClampNeg ≤ e.platform.maxSlots)
    (hq : ∀ d' acts', Q () d' acts' ((mu_f S cA comp n.toNatClampNeg k.toNatClampNeg n.toNatClampNeg).setTop { f with stack := .ref S.heap.size :: rest })) : wp (Jvm.Op.multianewarray.sem idx 2) Q E e d acts (S.setTop f) := by
  simp only [Jvm.Op.multianewarray.sem, wp_bind', W.resolveClassAt_ready (State.method?_setTop f hs) hrd]
  refine (Jvm.Op.popN_top (args := [.int n, .int k]) (rest := rest) hs (by simpa using hst)).mpr ?_
  simp only [List.mapM_cons, List.mapM_nil, wp_bind', wp_pure', pure_bind]
  rw [Jvm.Op.multianewarray.make]
  simp only [wp_bind', W.ite, hn, if_false, wp_pure', W.theClass]
  refine ⟨kA, hkA, ?_⟩
  simp only [hkindA]
  rw [wp_bind']
  refine W.newArray_of (init := .null) (s := S.setTop { f with stack := rest }) hkA hkindA hlimN hheapN (by show S.heap.size < _; omega) (by show S.slotsUsed + _ ≤ _; exact r2) rfl (fun acts' => ?_)
  have fk : List.find? (fun x => decide (x < 0)) [k] = none := by simp [hk]
  have key : ∀ d' acts'', wp (forIn [:n.toNatClampNeg] PUnit.unit fun i (_ : PUnit) => do
      Jvm.writeLoc S.heap.size i (.ref (← Jvm.Op.multianewarray.make comp [k]))
      Pure.pure (ForInStep.yield PUnit.unit)) (fun _ => wp (Pure.pure S.heap.size) (fun a => wp (do Jvm.mark "op.multianewarray"; Jvm.pushRef a) Q E e) E e) E e d' acts'' ((mu_f S cA comp n.toNatClampNeg k.toNatClampNeg 0).setTop { f with stack := rest }) := by
    intro d' acts''
    rw [Std.Legacy.Range.forIn_eq_forIn_range']
    have hz : ([:n.toNatClampNeg] : Std.Legacy.Range).size = n.toNatClampNeg := by simp [Std.Legacy.Range.size]
    rw [hz]
    refine mu_loop hk hkA hkindA hkB hkindB hlim hheap hr _ (fun i u => rfl) (fun d2 acts2 => ?_)
    simp only [wp_pure', wp_bind', W.mark, W.pushRef]
    refine ⟨_, State.topJava?_setTop' _ (by rw [mu_top]; exact hs), ?_⟩
    rw [State.setTop_setTop]
    exact hq _ _
  simp only [fk, ite_self]
  rw [wp_bind']
  exact key _ _
theorem mu_specA {args : Array Value} {first s : State} {o : Option Outcome} {ix : List Nat} {ty : FieldType} (h : (Cond.arrayOver (.array ty)).holds args first o s ix = true) :
    ∃ comp c k, s.vm.findClass (FieldType.array ty).toString = some comp ∧ s.vm.classes[c]? = some k ∧ k.kind = .array comp (.array ty) ∧ s.vm.findClass ("[" ++ (FieldType.array ty).toString) = some c := by
  simp only [Cond.holds, Cond.value, beq_iff_eq, Option.bind_eq_some_iff, Option.map_eq_some_iff] at h
  obtain ⟨comp, hc, c, hi, k, hk, hb⟩ := h
  obtain ⟨hlt, hp, -⟩ := Array.findIdx?_eq_some_iff_getElem.mp hi
  have hkk : s.vm.classes[c] = k := (Array.getElem?_eq_some_iff.mp hk).2
  rw [hkk] at hp
  cases hkind : k.kind with
  | array component t =>
    rw [hkind] at hb hp
    simp only [Bool.and_eq_true, decide_eq_true_eq, beq_iff_eq] at hb hp
    exact ⟨comp, c, k, hc, hk, by rw [hkind, hp, hb.1], hb.2⟩
  | _ => rw [hkind] at hb; simp at hb
end MU
section MNA
variable {Z : Nat → am_T × ms_T} {d j pc : Nat} {lv : lo_L} {r0 : List Value} {h : mm_M} {r : am_R}
theorem so_mna {idx : Nat} {n k : Int32} (hd : decode (Z j).2.2.1 pc = .ok (.multianewarray idx 2, 4)) (w1 : Cond.classLink (Z j).2.1.cls idx ("[" ++ (FieldType.array .int).toString) ∈ lu_) (w2 : Cond.arrayClass .int ∈ lu_) (h1 : ¬ n < 0) (h2 : n.toNatClampNeg ≤ 1000) (h3 : ¬ k < 0) (h4 : k.toNatClampNeg ≤ 1000) (hx : mm_x h = 0)
    (hS : Snd Z (d, j, pc + 4, lv, .ref (mm_n h + 1) :: r0, mm_al2 h n.toNatClampNeg k.toNatClampNeg) r) : Snd Z (d, j, pc, lv, .int k :: .int n :: r0, h) r := by
  have a1 : mm_n h + 1 + n.toNatClampNeg + mm_x h ≤ tt_ r.2 := hS.1.1
  have a2 : mm_s h + n.toNatClampNeg + n.toNatClampNeg * k.toNatClampNeg ≤ mm_s r.2 := hS.1.2
  refine ⟨⟨by show mm_n h + mm_x h ≤ _; omega, by show mm_s h ≤ _; omega⟩, fun g p l e R s m args below meth cd F Q qq H locs cells slots ls V => ?_⟩
  have hts := F.2.2.2.2.2.2.2.2.2.2.2.1
  have hwd := F.2.2.2.2.2.2.2.2.2.2.2.2
  have hK := hwd.1
  have v3 : cells + tt_ r.2 ≤ R.cells + (mm_n h + mm_x h) := V.2.2.2.1
  have v4 : slots + mm_s r.2 ≤ R.slots + mm_s h := V.2.2.2.2
  have hsz : H.size = g.1 + mm_n h + 1 := V.1.2.2.1 hx
  generalize hN : n.toNatClampNeg = N at *
  generalize hM : k.toNatClampNeg = K at *
  intro T hT Xs
  have eX := Xs.admits
  have hpl : e.platform.magicAccessors = ({} : Platform).magicAccessors := by rw [Xs.admits.platform]
  obtain ⟨comp, cA, kA, hcomp, hkA, hkindA, hnA⟩ := mu_specA (show (Cond.arrayOver (.array .int)).before args s = true from hwd.2.2.2.2.2.2.2.2.2.2.2.2.2.2.1)
  obtain ⟨cB, kB, cI, hnB, hkB, hkindB⟩ := Cond.arrayClass_spec (hts _ w2)
  have eB : cB = comp := Option.some.inj (hnB.symm.trans hcomp)
  subst eB
  obtain ⟨cc, hfcc, hcl⟩ := Cond.classLink_spec F.2.2.2.1 (hts _ w1) e.platform hpl
  have ec : cc = cA := Option.some.inj (hfcc.symm.trans hnA)
  subst ec
  have eA : cc = g.2.2.2.1 4 := Option.some.inj (hnA.symm.trans (hK.2 4 _ rfl).2)
  have eC : cB = g.2.2.2.1 0 := Option.some.inj (hnB.symm.trans (hK.2 0 _ rfl).2)
  obtain ⟨hg₁, hwarm₁, hready₁⟩ := State.classEntry (e := e) Xs.warmed hcl
  have hsz₁ : (T.vm.noted m.cls idx (.cls cc)).classes.size ≤ T.vm.classes.size := by no_record
  generalize T.vm.noted m.cls idx (.cls cc) = vm₁ at hg₁ hwarm₁ hready₁ hsz₁
  have hal : s.vm.Alike vm₁ := hwarm₁.alike
  obtain ⟨kA₁, hkA₁, heA⟩ := hal.2.2 _ _ hkA
  obtain ⟨kB₁, hkB₁, heB⟩ := hal.2.2 _ _ hkB
  have hkindA₁ : kA₁.kind = .array cB (.array .int) := by rw [heA]; exact hkindA
  have hkindB₁ : kB₁.kind = .array cI .int := by rw [heB]; exact hkindB
  have X₁ := Xs.noted hwarm₁
  have XN := mu_stand X₁ cc cB N K
  have hTh : (T.setVm vm₁).heap = H := hT
  have step : ∀ target, Steps p.tables e below ((mu_f (T.setVm vm₁) cc cB N K N).setTop (F0 m (pc + 4) ls (.ref (T.setVm vm₁).heap.size :: r0.map (cv_ g)))) target → Steps p.tables e below (T.setTop (F0 m pc ls (.int k :: .int n :: r0.map (cv_ g)))) target := by
    intro target hrest
    refine Steps.instr (c := cd) (f := F0 m pc ls (.int k :: .int n :: r0.map (cv_ g))) (by simpa using Xs.here) ?_
    have hdc : decode cd.code (F0 m pc ls (.int k :: .int n :: r0.map (cv_ g))).pc = .ok (.multianewarray idx 2, 4) := by
      rw [F.2.1]
      exact hd
    rw [hdc, F.1]
    have htop := Xs.here.top
    show wp (Jvm.Op.multianewarray.sem idx 2) _ _ e false [] (T.setTop (F0 m pc ls (.int k :: .int n :: r0.map (cv_ g))))
    have tr : ∀ {Q' : Unit → Pre} {E' : CtlPost}, wp (Jvm.Op.multianewarray.sem idx 2) Q' E' e false [] (T.setTop (F0 m pc ls (.int k :: .int n :: r0.map (cv_ g)))) ↔ wp (Jvm.Op.multianewarray.sem idx 2) Q' E' e false [] ((T.setVm vm₁).setTop (F0 m pc ls (.int k :: .int n :: r0.map (cv_ g)))) := by
      intro Q' E'
      simp only [Jvm.Op.multianewarray.sem, wp_bind']
      exact W.resolveClassAt_transfer (s := T.setTop (F0 m pc ls (.int k :: .int n :: r0.map (cv_ g)))) (State.method?_setTop _ htop) hg₁ hready₁ hsz₁
    rw [tr]
    have l1 : ∀ y : Nat, y ≤ 1000 → ¬ y > e.platform.arrayLengthLimit := fun y hy => by rw [Launch.admits_arrayLengthLimit Xs.admits]; omega
    have l2 : ∀ y : Nat, y ≤ 1000 → ¬ y * 4 > e.platform.maxHeapBytes := fun y hy => by rw [Launch.admits_maxHeapBytes Xs.admits]; omega
    have q0 := X₁.roomAbove (a := 1) (b := N) (by omega) (by omega)
    have qi : ∀ i, i < N → (mu_f (T.setVm vm₁) cc cB N K i).heap.size + 1 ≤ e.platform.maxCells ∧ (mu_f (T.setVm vm₁) cc cB N K i).slotsUsed + K ≤ e.platform.maxSlots := fun i hi => by
      have hm : (i + 1) * K ≤ N * K := Nat.mul_le_mul_right K hi
      rw [Nat.succ_mul] at hm
      exact (XN i).roomAbove (a := 1) (b := K) (by omega) (by omega)
    rw [← hN, ← hM] at qi hrest
    rw [← hN] at q0
    refine mu_wp (S := T.setVm vm₁) (f := F0 m pc ls (.int k :: .int n :: r0.map (cv_ g))) (rest := r0.map (cv_ g)) htop hready₁ rfl h1 h3 hkA₁ hkindA₁ hkB₁ hkindB₁ (l1 _ (by omega)) (l2 _ (by omega)) (l1 _ (by omega)) (l2 _ (by omega)) q0.1 q0.2 qi (fun d' acts' acts2 => ?_)
    have ht2 : (mu_f (T.setVm vm₁) cc cB n.toNatClampNeg k.toNatClampNeg n.toNatClampNeg).topJava?.isSome := by
      rw [mu_top]
      exact htop
    simp [jvm, ht2]
    exact hrest
  obtain ⟨f1, f2, f3, f4, f5⟩ := mu_facts (T.setVm vm₁) cc cB N K N
  rw [eA, eC] at f1 f2 f3 f4 step
  have X' := XN N
  rw [eA, eC] at X'
  rw [hTh] at f1 f2 f3 f4 step X'
  rw [mu_oV] at f2
  have hold : ∀ x : Nat, x < H.size → (mu_f (T.setVm vm₁) (g.2.2.2.1 4) (g.2.2.2.1 0) N K N).heap[x]? = H[x]? := f3
  have hrow : ∀ q : Nat, q < N → (mu_f (T.setVm vm₁) (g.2.2.2.1 4) (g.2.2.2.1 0) N K N).heap[H.size + 1 + q]? = some (arrV (g.2.2.2.1 0) K (fun _ => .int 0)) := fun q hq => by
    rw [f4 q hq]
    exact congrArg some (arrV_new _ _ _)
  generalize hF : mu_f (T.setVm vm₁) (g.2.2.2.1 4) (g.2.2.2.1 0) N K N = G at *
  have hr1 : hr_ g (mm_al2 h N K) G.heap := by
    obtain ⟨q1, q2, q3, q4, q5⟩ := V.1
    refine ⟨fun b => ?_, ?_, fun _ => ?_, q4, q5⟩
    · by_cases b1 : b = mm_n h + 1
      · subst b1
        have es : mm_S (mm_al2 h N K) (mm_n h + 1) = (104, N) := by
          show (if mm_n h + 1 = mm_n h + 1 then (104, N) else _) = _
          rw [if_pos rfl]
        refine hp_104 (by rw [es]) ?_
        rw [← Nat.add_assoc, ← hsz, f2]
        show some (arrV _ N _) = some (arrV _ (mm_S (mm_al2 h N K) (mm_n h + 1)).2 _)
        rw [es]
        refine congrArg some (congrArg (arrV _ _) (funext fun q => ?_))
        show (if q < N then Value.ref (H.size + 1 + q) else .null) = cr_ g.1 (if mm_n h + 1 = mm_n h + 1 then (if q < N then mm_n h + 2 + q else 0) else mm_P h (mm_n h + 1) q)
        rw [if_pos rfl]
        by_cases hq : q < N
        · rw [if_pos hq, if_pos hq, cr_pos (by omega), hsz]
          have hh : g.1 + mm_n h + 1 + 1 + q = g.1 + (mm_n h + 2 + q) := by omega
          exact congrArg Value.ref hh
        · rw [if_neg hq, if_neg hq]
          rfl
      · by_cases b2 : mm_n h + 1 < b ∧ b ≤ mm_n h + 1 + N
        · have es : mm_S (mm_al2 h N K) b = (100, K) := by
            show (if b = mm_n h + 1 then (104, N) else if mm_n h + 1 < b ∧ b ≤ mm_n h + 1 + N then (100, K) else mm_S h b) = _
            rw [if_neg b1, if_pos b2]
          refine hp_100 (by rw [es]) ?_
          have := hrow (b - (mm_n h + 2)) (by omega)
          rw [show H.size + 1 + (b - (mm_n h + 2)) = g.1 + b by omega] at this
          rw [this]
          show some (arrV _ K _) = some (arrV _ (mm_S (mm_al2 h N K) b).2 _)
          rw [es]
          refine congrArg some (congrArg (arrV _ _) (funext fun q => ?_))
          show Value.int 0 = .int (if mm_n h < b ∧ b ≤ mm_n h + 1 + N then 0 else mm_I h b q)
          rw [if_pos (by omega)]
        · refine hp_new (q1 b) ?_ ?_ rfl ?_ hold
          · show (if b = mm_n h + 1 then (104, N) else if mm_n h + 1 < b ∧ b ≤ mm_n h + 1 + N then (100, K) else mm_S h b) = _
            rw [if_neg b1, if_neg b2]
          · funext q
            show (if mm_n h < b ∧ b ≤ mm_n h + 1 + N then 0 else mm_I h b q) = mm_I h b q
            rw [if_neg (by omega)]
          · funext q
            show (if b = mm_n h + 1 then (if q < N then mm_n h + 2 + q else 0) else mm_P h b q) = mm_P h b q
            rw [if_neg b1]
    · show (if 0 = mm_n h + 1 then (104, N) else if mm_n h + 1 < 0 ∧ 0 ≤ mm_n h + 1 + N then (100, K) else mm_S h 0).1 = 0
      rw [if_neg (by omega), if_neg (by omega)]
      exact q2
    · rw [f1, hsz]
      show _ = g.1 + (mm_n h + 1 + N) + 1
      omega
  have hloc : ∀ q ∈ mu_l locs H.size N, g.1 < q.base := fun q hq => by
    rcases mu_lb locs H.size N q hq with z | z
    · exact V.2.1.2.2 q z
    · rw [z]
      omega
  have hW := hS.2 g p l e R s m args below meth cd F Q qq G.heap (mu_l locs H.size N) (cells + 1 + N) (slots + N + N * K) ls ⟨hr1, ⟨by have := V.2.1.1; omega, fun x b1 b2 => (hold x (by have := V.2.1.1; omega)).trans (V.2.1.2.1 x b1 b2), hloc⟩, V.2.2.1, by show cells + 1 + N + tt_ r.2 ≤ R.cells + (mm_n h + 1 + N + mm_x h); omega, by show slots + N + N * K + mm_s r.2 ≤ R.slots + (mm_s h + N + N * K); omega⟩
  have hW : W p l e R s m args below meth cd G.heap (mu_l locs H.size N) (cells + 1 + N) (slots + N + N * K) Q (F0 m (pc + 4) ls (.ref (g.1 + (mm_n h + 1)) :: r0.map (cv_ g))) := hW
  obtain ⟨t, c1, c2⟩ := hW G rfl X'
  rw [hsz] at step
  exact ⟨t, step t c1, c2⟩
end MNA
